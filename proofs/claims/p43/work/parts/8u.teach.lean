/-! teach, on the told text -/
theorem rc {n j : Nat} {f f2 : Nat → Int32} (h : j < n) (hn : n < 2147483648) : rcpy n f n f2 j = f2 j := by
  unfold rcpy
  rw [if_pos h, rg h hn]
theorem t_first {xt : Nat → Int32} {sz N : Nat} {ts : List Tok} {z : Tok} (hz : sz ≤ 2000) (hg : gz ts z = true) (hL : Ly xt 0 (fl ts)) (hs : (fl ts).length = sz) (hN : 2000 < N) : f_To_skipBlanks N xt (nI sz) (nI 0) = some (nI 0) := by
  refine t_blank hz (Nat.le_refl 0) (Nat.zero_le _) (fun j a b => absurd b (Nat.not_lt_zero j)) (fun h => ?_) hN
  cases ts with
  | nil =>
    have h9 : (0 : Nat) = sz := hs
    omega
  | cons a r =>
    have h1 : (okT a && okN a (r.headD z) && gz r z) = true := hg
    simp only [Bool.and_eq_true] at h1
    obtain ⟨t1, t2, -⟩ := tk_hd h1.1.1
    have e : xt 0 = (spl a).getD 0 0 := by
      have hL1 : Ly xt 0 (tkb a ++ fl r) := hL
      exact (Ly.left (Ly.left hL1)) 0 (tk_len h1.1.1)
    rw [e]
    exact ⟨t1, t2⟩
theorem ccm_15 {ne nt : Nat} {os : List OT} (hO : ∀ k, k < os.length → ∀ T, (oG os k).2.2 = some T → TB ne nt 4 T) : ∀ k, k ≤ os.length → ccm os k ≤ 15 * k
  | 0, _ => Nat.le_refl 0
  | k + 1, hk => by
    have ih := ccm_15 hO k (by omega)
    have h1 : (cdO (oG os k)).length ≤ 15 := by
      have h2 := hO k (by omega)
      unfold cdO
      cases h3 : (oG os k).2.2 with
      | none => exact Nat.zero_le _
      | some T =>
        have := cd_len 4 T (Or.inr (h2 T h3))
        have e : (2 : Nat) ^ 4 = 16 := rfl
        show (cdT 4 T).length ≤ 15
        omega
    show ccm os k + (cdO (oG os k)).length ≤ 15 * (k + 1)
    omega
set_option maxHeartbeats 4000000 in
theorem v_teach {N ne nt : Nat} {cl : List (Nat → Int32)} {os : List OT} {x1 : Int32} {x2 : Nat → Int32} {x3 : Int32} {x4 : Int32} {x5 : Int32} {x6 : Nat → Int32} {x7 : Nat → Int32} {x8 : Nat → Int32} {x9 : Nat → Int32} {x10 : Nat → Int32} {x11 : Int32} {x12 : Int32} {x13 : Nat → Int32} {x14 : Nat → Int32} {x15 : Nat → Int32} {x16 : Nat → Int32} {x17 : Nat → Int32} {x18 : Int32} {x21 : Nat → Int32} {x24 : Int32} {x25 : Int32} {x26 : Int32} {x27 : Int32} {x28 : Int32} {x29 : Int32} {x30 : Int32} {x31 : Int32} {x32 : Int64} {x33 : Nat → Int32} {x34 : Nat → Int32} {x35 : Nat → Int32} {x36 : Nat → Int64} {x38 : Nat → Int64} {x39 : Int32} {x40 : Int32} {x41 : Int32} {x42 : Nat → Int32} {x43 : Nat → Int32} {x44 : Nat → Int32} {x45 : Nat → Int32} {x46 : Nat → Int32} {x47 : Int32} {x48 : Int32} {x49 : Nat → Int32} {x50 : Nat → Int32} {x51 : Nat → Int32} {x52 : Nat → Int32} {x53 : Nat → Int32} {x54 : Int32} {x55 : Nat → Int64} {x56 : Int32} {x57 : Nat → Int64} {x59 : Int32} {x60 : Int32} {x61 : Int32} (hN : 2000 < N) (hx : Ly x2 0 (allT ne nt cl os)) (hK : ∀ k, k < 25 → x38 k = hsh (kwT k)) (h6 : ne ≤ 6) (h6' : nt ≤ 6) (hV : ∀ k, k < cl.length → CV1 ne nt (rw5 cl k)) (hD : CD cl) (h16 : cl.length ≤ 16) (h4 : os.length ≤ 4) (hO : ∀ k, k < os.length → (oG os k).2.1 < nt ∧ ∀ T, (oG os k).2.2 = some T → TB ne nt 4 T ∧ tkn 4 T ≤ 43) (hl : (allT ne nt cl os).length ≤ 2000) :
    ∃ (at9 pl nu : Int32) (wo : Int64) (k2 s2 n2 : Nat → Int32) (w2 v1 v2 : Nat → Int64) (aT aK aE aF aL bD bT bE ak ap ag : Nat → Int32) (A : Nat → Nat), f_Main_teach N (nI (allT ne nt cl os).length) x1 x2 x3 x4 x5 x6 x7 x8 x9 x10 x11 x12 x13 x14 x15 x16 x17 x18 x21 x24 x25 x26 x27 x28 x29 x30 x31 x32 x33 x34 x35 x36 (25 : Int32) x38 x39 x40 x41 x42 x43 x44 x45 x46 x47 x48 x49 x50 x51 x52 x53 x54 x55 x56 x57 x59 x60 x61 = some (0, 0, -1, nI ne, nI nt, nI cl.length, rcpy 40 x6 40 aT, rcpy 40 x7 40 aK, rcpy 40 x8 40 aE, rcpy 40 x9 40 aF, rcpy 40 x10 40 aL, nI os.length, nI (ccm os os.length), rcpy 16 x13 16 bD, rcpy 16 x14 16 bT, rcpy 16 x15 16 bE, rcpy 400 x16 400 ak, rcpy 400 x17 400 ap, -1, ag, at9, 132, 0, 0, -1, nI (allT ne nt cl os).length, pl, nu, wo, k2, s2, n2, w2, nI ne, nI nt, nI cl.length, aT, aK, aE, aF, aL, nI os.length, nI (ccm os os.length), bD, bT, bE, ak, ap, nI ne, v1, nI nt, v2, 0, 0, 0) ∧ OrI ne nt os (nI os.length) (rcpy 16 x13 16 bD) (rcpy 16 x14 16 bT) (rcpy 16 x15 16 bE) (rcpy 400 x16 400 ak) (rcpy 400 x17 400 ap) ∧ WS A ne nt cl (rcpy 40 x6 40 aT) (rcpy 40 x7 40 aK) (rcpy 40 x8 40 aE) (rcpy 40 x9 40 aF) (rcpy 40 x10 40 aL) ag := by
  obtain ⟨f1, f2, f3⟩ := all_f h6 h6' hV h16 h4 hO
  have hO2 : ∀ k, k < os.length → (oG os k).2.1 < nt ∧ ∀ T, (oG os k).2.2 = some T → TB ne nt 4 T := fun k hk => ⟨(hO k hk).1, fun T hT => ((hO k hk).2 T hT).1⟩
  have hc : ccm os os.length ≤ 400 := by
    have := ccm_15 (fun k hk => (hO2 k hk).2) os.length (Nat.le_refl _)
    omega
  have hLy : Ly x2 0 (fl (allK ne nt cl os)) := by rw [f1]; exact hx
  have hsz : 0 + (fl (allK ne nt cl os)).length = (allT ne nt cl os).length := by rw [f1, Nat.zero_add]
  have hb := t_first hl (f2 (4, 59, 0)) hLy (by rw [f1]) hN
  obtain ⟨pl, nu, wo, k2, s2, n2, w2, r1, -, r3, r4⟩ := t_cut hK hl hN (z := (4, 59, 0)) (allK ne nt cl os) 0 0 0 N 130 x31 x32 x33 x34 x35 x36 (f2 _) hLy hsz (by omega) (by omega) (by decide) (by decide) hb
  have hsp : f_To_split N x2 x29 x30 x31 x32 x33 x34 x35 x36 25 x38 (nI (allT ne nt cl os).length) = some (nI (allT ne nt cl os).length, pl, nu, wo, k2, s2, n2, w2) := r1
  obtain ⟨at9, v1, v2, aT, aK, aE, aF, aL, bD, bT, bE, ak, ap, hCW, hOW, q1⟩ := read_all (N := N) (ts := s2) (ep := -1) (w1 := x55) (w2 := x57) (cT := x42) (cK := x43) (cE := x44) (cF := x45) (cL := x46) (oD := x49) (oT := x50) (oE := x51) (sk := x52) (sp := x53) (s1 := nI (allT ne nt cl os).length) (s2 := pl) (s3 := nu) (s4 := wo) (by omega) h6 h6' hV hD h16 hO2 h4 hc r3 (by omega) r4
  have hrd : f_Re_read N x2 x24 x25 x26 x27 x28 x29 x30 x31 x32 x33 x34 x35 x36 25 x38 x39 x40 x41 x42 x43 x44 x45 x46 x47 x48 x49 x50 x51 x52 x53 x54 x55 x56 x57 (nI (allT ne nt cl os).length) = some (0, at9, 132, 0, 0, -1, nI (allT ne nt cl os).length, pl, nu, wo, k2, s2, n2, w2, nI ne, nI nt, nI cl.length, aT, aK, aE, aF, aL, nI os.length, nI (ccm os os.length), bD, bT, bE, ak, ap, nI ne, v1, nI nt, v2) := by
    unfold f_Re_read f_Re_restart f_Tap_clear
    rw [hsp, oB_s]
    dsimp only
    rw [oB_s]
    dsimp only
    rw [oB_s]
    dsimp only
    rw [show rget 401 k2 (0 : Int32) = k2 0 from rg (n := 401) (j := 0) (by decide) (by decide)]
    exact q1
  have hcr : CR nt ne cl.length (rcpy 40 x6 40 aT) (rcpy 40 x7 40 aK) (rcpy 40 x8 40 aE) (rcpy 40 x9 40 aF) (rcpy 40 x10 40 aL) (rwK cl 0) (rwK cl 1) (rwK cl 2) (rwK cl 3) (rwK cl 4) := by
    refine ⟨by omega, fun j hj => ?_⟩
    obtain ⟨g1, g2, g3, g4, g5⟩ := hCW j hj
    obtain ⟨u1, u2, u3, u4, -⟩ := hV j hj
    rw [rc (by omega) (by decide), rc (by omega) (by decide), rc (by omega) (by decide), rc (by omega) (by decide), rc (by omega) (by decide)]
    exact ⟨⟨g1, g2, g3, g4, g5⟩, u1, u2, u3, u4⟩
  obtain ⟨ag, hh, hag⟩ := x_hear hcr (by omega) (show 60 < N by omega) x18 x21
  obtain ⟨A, ha1, ha2⟩ := AcS_of hV (by omega) hag
  refine ⟨at9, pl, nu, wo, k2, s2, n2, w2, v1, v2, aT, aK, aE, aF, aL, bD, bT, bE, ak, ap, ag, A, ?_, ⟨rfl, h4, hc, fun k hk => ?_⟩, ⟨hcr, ha1, ha1, by omega, by omega, symA_of ha2⟩, ha2, hV, hD⟩
  · unfold f_Main_teach
    rw [hrd, oB_s]
    dsimp only
    rw [if_pos rfl]
    unfold f_Tap_copyFrom f_Cl_copyFrom f_Or_copyFrom
    rw [oB_s]
    dsimp only
    rw [oB_s]
    dsimp only
    rw [oB_s]
    dsimp only
    rw [hh, oB_s]
    dsimp only
    unfold f_Co_restart
    rw [oB_s]
  · obtain ⟨g1, g2, g3, g4⟩ := hOW k hk
    rw [rc (by omega) (by decide), rc (by omega) (by decide), rc (by omega) (by decide)]
    refine ⟨g1, g2, (hO2 k hk).1, g3, fun i hi => ?_, (hO2 k hk).2⟩
    have hle : ccm os k + (cdO (oG os k)).length ≤ ccm os os.length := ccm_le (os := os) (k := k + 1) os.length (by omega)
    rw [rc (by omega) (by decide), rc (by omega) (by decide)]
    exact g4 i hi
