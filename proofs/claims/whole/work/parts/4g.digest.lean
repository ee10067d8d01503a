/-! the digest -/
section DG
variable {A : Nat → Nat} {nt ne n d : Nat} {xT xK xE xF xL uK uB uO uR uL f1 f2 : Nat → Int32}
def dcl (uK uB uO : Nat → Int32) (D : Int64) : Nat → Int64
  | 0 => D
  | j + 1 => (((((dcl uK uB uO D j * 31) + (uB j).toInt64) * 31) + (uK j).toInt64) * 31) + (uO j).toInt64
theorem x_dcl (hc : CR nt ne n xT xK xE xF xL uK uB uO uR uL) {N : Nat} (hN : 60 < N) (D : Int64) : f_Main_digestClaims N (nI n) xT xK xE D = some (dcl uK uB uO D n) := by
  have hle := hc.1
  unfold f_Main_digestClaims
  refine lp_0 (fun j => (dcl uK uB uO D j, nI j)) n rfl ?_ ?_ (by omega)
  · intro j hj
    obtain ⟨⟨a1, a2, a3, -, -⟩, -⟩ := hc.2 j hj
    unfold f_Main_digestClaims_L5
    simp only [if_neg (nI_ge hj (show n < 2 ^ 31 by omega)), rg (show j < 40 by omega) (show 40 < 2147483648 by decide), a1, a2, a3, ← nI_succ]
    rfl
  · unfold f_Main_digestClaims_L5
    simp only [if_pos (nI_le (Nat.le_refl n) (show n < 2 ^ 31 by omega))]
def dti (f1 : Nat → Int32) (d t : Nat) (D : Int64) : Nat → Int64
  | 0 => D
  | o + 1 => (dti f1 d t D o * 31) + (f_Main_one (f_Ve_tellersContradict f1 (nI t) (nI o) (nI d))).toInt64
def dtb (A : Nat → Nat) (nt n d : Nat) (uB : Nat → Int32) (t : Nat) (D : Int64) : Int64 :=
  ((((((D * 31) + (nI (sm n (fun j => b1 (decide (uB j = nI t))))).toInt64) * 31) + (f_Main_one (f_Main_has (nI d) (nI t))).toInt64) * 31) + (f_Main_one (f_Main_has (nI (lsN A nt d)) (nI t))).toInt64)
def dte (A : Nat → Nat) (f1 : Nat → Int32) (nt n d : Nat) (uB : Nat → Int32) (D : Int64) : Nat → Int64
  | 0 => D
  | t + 1 => dti f1 d t (dtb A nt n d uB t (dte A f1 nt n d uB D t)) nt
theorem x_dte (hw : Wd A nt ne n xT xK xE xF xL uK uB uO uR uL f1 f2) (hd : d < 1024) {N : Nat} (hN : 2000 < N) {j l c : Int32} (hx : XC A nt j l c) (D : Int64) : ∃ j2 l2 c2, f_Main_digestTellers N (nI nt) (nI n) xT j l c f1 (nI d) D = some (dte A f1 nt n d uB D nt, j2, l2, c2) ∧ XC A nt j2 l2 c2 := by
  obtain ⟨hc, h1, h2, hn, hne, hsy⟩ := hw
  unfold f_Main_digestTellers
  have key := lp_inv (step := f_Main_digestTellers_L14 N (nI nt) (nI n) xT f1 (nI d)) (fail := none) (fun t z => z.1 = dte A f1 nt n d uB D t ∧ z.2.1 = nI t ∧ XC A nt z.2.2.1 z.2.2.2.1 z.2.2.2.2) nt (fun r => ∃ j2 l2 c2, r = some (dte A f1 nt n d uB D nt, j2, l2, c2) ∧ XC A nt j2 l2 c2) ?_ ?_ (n := N) (s := (D, 0, j, l, c)) (by omega) ⟨rfl, rfl, hx⟩
  · obtain ⟨t, e1, j2, l2, c2, rfl, e2⟩ := key
    exact ⟨j2, l2, c2, e1, e2⟩
  · rintro t ⟨z1, z2, z3, z4, z5⟩ ht ⟨hz1, hz2, hz3⟩
    have hz1' : z1 = dte A f1 nt n d uB D t := hz1
    have hz2' : z2 = nI t := hz2
    subst hz1' hz2'
    unfold f_Main_digestTellers_L14
    have inner : lpS (f_Main_digestTellers_L92 (nI nt) f1 (nI d) (nI t) (nI d) (nI (lsN A nt d)) (nI (csN A nt d))) (.inr none) N (dtb A nt n d uB t (dte A f1 nt n d uB D t), 0) = .inl (dte A f1 nt n d uB D (t + 1), nI (t + 1), nI d, nI (lsN A nt d), nI (csN A nt d)) := by
      refine lp_0 (fun o => (dti f1 d t (dtb A nt n d uB t (dte A f1 nt n d uB D t)) o, nI o)) nt rfl ?_ ?_ (by omega)
      · intro o ho
        unfold f_Main_digestTellers_L92
        simp only [if_neg (nI_ge ho (show nt < 2 ^ 31 by omega)), ← nI_succ]
        rfl
      · unfold f_Main_digestTellers_L92
        simp only [if_pos (nI_le (Nat.le_refl nt) (show nt < 2 ^ 31 by omega)), ← nI_succ]
        rfl
    simp only [if_neg (nI_ge ht (show nt < 2 ^ 31 by omega)), x_count hc (show 60 < N by omega), oB_s, x_liar h1 hn hsy hd hz3 hN]
    exact ⟨_, inner, rfl, rfl, xc_at hd⟩
  · rintro ⟨z1, z2, z3, z4, z5⟩ ⟨hz1, hz2, hz3⟩
    have hz1' : z1 = dte A f1 nt n d uB D nt := hz1
    have hz2' : z2 = nI nt := hz2
    subst hz1' hz2'
    unfold f_Main_digestTellers_L14
    simp only [if_pos (nI_le (Nat.le_refl nt) (show nt < 2 ^ 31 by omega))]
    exact ⟨_, rfl, _, _, _, rfl, hz3⟩
def ordI (o : Option (Nat × (Nat → Nat))) (e : Nat) : Int32 := match o with
  | none => -1
  | some q => nI (q.2 e)
def dev (uK uB uO uR uL : Nat → Int32) (n d : Nat) (o : Option (Nat × (Nat → Nat))) (D : Int64) : Nat → Int64
  | 0 => D
  | e + 1 => if wh uK uB uO uR uL (nI e) (nI d) n ≤ 0 then
      (((((((dev uK uB uO uR uL n d o D e * 31) + (f_Main_one 0).toInt64) * 31) + (-1 : Int32).toInt64) * 31) + (-1 : Int32).toInt64) * 31) + (ordI o e).toInt64
    else (((((((dev uK uB uO uR uL n d o D e * 31) + (f_Main_one 1).toInt64) * 31) + (wb uK uB uO uR (nI e) (nI d) n).toInt64) * 31) + (we uK uB uO uL (nI e) (nI d) n).toInt64) * 31) + (ordI o e).toInt64
theorem x_dev (hw : Wd A nt ne n xT xK xE xF xL uK uB uO uR uL f1 f2) (hd : d < 1024) {N : Nat} (hN : 2000 < N) {j l c : Int32} (hx : XC A nt j l c) (a0 o0 : Nat → Int32) (D : Int64) : ∃ a2 o2, f_Main_digestEvents N (nI ne) (nI nt) (nI n) xT xK xE xF xL j l c f1 a0 o0 (nI d) D = some (dev uK uB uO uR uL n d (og uK uB uO uR n ne (trN A nt d) ne) D ne, nI d, nI (lsN A nt d), nI (csN A nt d), a2, o2) := by
  obtain ⟨hc, h1, h2, hn, hne, hsy⟩ := hw
  obtain ⟨a2, o2, e1, e2⟩ := x_arr hc h1 hn hne hsy hd hx hN a0 o0
  refine ⟨a2, o2, ?_⟩
  unfold f_Main_digestEvents
  rw [e1, oB_s]
  refine lp_0 (fun e => (dev uK uB uO uR uL n d (og uK uB uO uR n ne (trN A nt d) ne) D e, nI e)) ne rfl ?_ ?_ (by omega)
  · intro e he
    unfold f_Main_digestEvents_L21
    simp only [if_neg (nI_ge he (show ne < 2 ^ 31 by omega)), x_hours hc (show 60 < N by omega), x_first hc (show 60 < N by omega), x_last hc (show 60 < N by omega), oB_s, rg (show e < 8 by omega) (show 8 < 2147483648 by decide), ← nI_succ]
    show _ = Sum.inl ((if wh uK uB uO uR uL (nI e) (nI d) n ≤ 0 then _ else _), nI (e + 1))
    cases ho : og uK uB uO uR n ne (trN A nt d) ne with
    | none =>
      simp only [Option.isSome, show bI false = 0 from rfl, if_true]
      by_cases h : wh uK uB uO uR uL (nI e) (nI d) n ≤ 0
      · simp only [if_pos h]; rfl
      · simp only [if_neg h]; rfl
    | some q =>
      simp only [Option.isSome, show bI true = 1 from rfl, if_neg n10, e2 q ho e he]
      by_cases h : wh uK uB uO uR uL (nI e) (nI d) n ≤ 0
      · simp only [if_pos h]; rfl
      · simp only [if_neg h]; rfl
  · unfold f_Main_digestEvents_L21
    simp only [if_pos (nI_le (Nat.le_refl ne) (show ne < 2 ^ 31 by omega))]
theorem m_dev (hw : Wd A nt ne n xT xK xE xF xL uK uB uO uR uL f1 f2) (hd : d < 1024) {N : Nat} (hN : 2000 < N) {j l f c : Int32} (hm : MC A nt j l f c) (r0 : Nat → Int32) (D : Int64) : ∃ j2 l2 f3 c2 r2, f_M_digestEvents N (nI d) j l f c f2 r0 (nI ne) (nI nt) (nI n) uK uB uO uR uL D = some (dev uK uB uO uR uL n d (og uK uB uO uR n ne (trN A nt d) ne) D ne, j2, l2, f3, c2, r2) ∧ MC A nt j2 l2 f3 c2 := by
  obtain ⟨hc, h1, h2, hn, hne, hsy⟩ := hw
  obtain ⟨j2, l2, f3, c2, r2, e1, e3, e2⟩ := m_ord hc h2 hn hne hsy hd hm hN r0
  refine ⟨j2, l2, f3, c2, r2, ?_, e3⟩
  unfold f_M_digestEvents
  rw [e1, oB_s]
  refine lp_0 (fun e => (dev uK uB uO uR uL n d (og uK uB uO uR n ne (trN A nt d) ne) D e, nI e)) ne rfl ?_ ?_ (by omega)
  · intro e he
    unfold f_M_digestEvents_L11
    simp only [if_neg (nI_ge he (show ne < 2 ^ 31 by omega)), m_hours hc (show 60 < N by omega), m_begins hc (show 60 < N by omega), m_ends hc (show 60 < N by omega), oB_s, ib_nI (show e < 8 by omega) (show 8 < 2147483648 by decide), nI_clamp (show e < 2 ^ 31 by omega), oneM, ← nI_succ]
    show _ = Sum.inl ((if wh uK uB uO uR uL (nI e) (nI d) n ≤ 0 then _ else _), nI (e + 1))
    cases ho : og uK uB uO uR n ne (trN A nt d) ne with
    | none =>
      simp only [Option.isSome, show bI false = 0 from rfl, if_true]
      by_cases h : wh uK uB uO uR uL (nI e) (nI d) n ≤ 0
      · simp only [if_pos h]; rfl
      · simp only [if_neg h]; rfl
    | some q =>
      simp only [Option.isSome, show bI true = 1 from rfl, if_neg n10, if_true, e2 q ho e he]
      by_cases h : wh uK uB uO uR uL (nI e) (nI d) n ≤ 0
      · simp only [if_pos h]; rfl
      · simp only [if_neg h]; rfl
  · unfold f_M_digestEvents_L11
    simp only [if_pos (nI_le (Nat.le_refl ne) (show ne < 2 ^ 31 by omega))]
theorem m_dte (hw : Wd A nt ne n xT xK xE xF xL uK uB uO uR uL f1 f2) (hd : d < 1024) {N : Nat} (hN : 2000 < N) {j l f c : Int32} (hm : MC A nt j l f c) (r0 : Nat → Int32) (D : Int64) :
    ∃ j2 l2 f3 c2 r2, lpS (f_M_digest_L211 N (nI d) f2 (nI ne) (nI nt) (nI n) uK uB uO uR uL r0) (.inr (.inr none)) N (D, 0, j, l, f, c) = .inr (.inr (some (dev uK uB uO uR uL n d (og uK uB uO uR n ne (trN A nt d) ne) (dte A f1 nt n d uB D nt) ne, 0, j2, l2, f3, c2, r2))) ∧ MC A nt j2 l2 f3 c2 := by
  have hw' := hw
  obtain ⟨hc, h1, h2, hn, hne, hsy⟩ := hw
  have key := lp_inv (step := f_M_digest_L211 N (nI d) f2 (nI ne) (nI nt) (nI n) uK uB uO uR uL r0) (fail := .inr (.inr none)) (fun t z => z.1 = dte A f1 nt n d uB D t ∧ z.2.1 = nI t ∧ MC A nt z.2.2.1 z.2.2.2.1 z.2.2.2.2.1 z.2.2.2.2.2) nt (fun r => ∃ j2 l2 f3 c2 r2, r = .inr (.inr (some (dev uK uB uO uR uL n d (og uK uB uO uR n ne (trN A nt d) ne) (dte A f1 nt n d uB D nt) ne, 0, j2, l2, f3, c2, r2))) ∧ MC A nt j2 l2 f3 c2) ?_ ?_ (n := N) (s := (D, 0, j, l, f, c)) (by omega) ⟨rfl, rfl, hm⟩
  · obtain ⟨t, e1, j2, l2, f3, c2, r2, rfl, e2⟩ := key
    exact ⟨j2, l2, f3, c2, r2, e1, e2⟩
  · rintro t ⟨z1, z2, z3, z4, z5, z6⟩ ht ⟨hz1, hz2, hz3⟩
    have hz1' : z1 = dte A f1 nt n d uB D t := hz1
    have hz2' : z2 = nI t := hz2
    subst hz1' hz2'
    unfold f_M_digest_L211
    have inner : lpS (f_M_digest_L273 (nI d) f2 (nI nt) (nI t) (nI d) (nI (lsN A nt d)) (nI (pcN (lsN A nt d))) (nI (csN A nt d))) (.inr (.inr (.inr none))) N (dtb A nt n d uB t (dte A f1 nt n d uB D t), 0) = .inl (dte A f1 nt n d uB D (t + 1), nI (t + 1), nI d, nI (lsN A nt d), nI (pcN (lsN A nt d)), nI (csN A nt d)) := by
      refine lp_0 (fun o => (dti f1 d t (dtb A nt n d uB t (dte A f1 nt n d uB D t)) o, nI o)) nt rfl ?_ ?_ (by omega)
      · intro o ho
        unfold f_M_digest_L273
        simp only [if_neg (nI_ge ho (show nt < 2 ^ 31 by omega)), (contra_same h1 h2 (p := t) (q := o) (show t < 10 by omega) (nI d)).1, oB_s, oneM, ← nI_succ]
        rfl
      · unfold f_M_digest_L273
        simp only [if_pos (nI_le (Nat.le_refl nt) (show nt < 2 ^ 31 by omega)), ← nI_succ]
        rfl
    simp only [if_neg (nI_ge ht (show nt < 2 ^ 31 by omega)), m_count hc (show 60 < N by omega), oB_s, m_lies h2 hn hsy hd hz3 hN, oneM]
    have e9 : dtb A nt n d uB t (dte A f1 nt n d uB D t) = ((((((dte A f1 nt n d uB D t * 31) + (nI (sm n (fun j => b1 (decide (uB j = nI t))))).toInt64) * 31) + (f_Main_one (f_M_has (nI d) (nI t))).toInt64) * 31) + (f_Main_one (f_M_has (nI (lsN A nt d)) (nI t))).toInt64) := by
      unfold dtb
      rw [has_same, has_same]
    rw [e9] at inner
    exact ⟨_, inner, rfl, rfl, mc_at hd⟩
  · rintro ⟨z1, z2, z3, z4, z5, z6⟩ ⟨hz1, hz2, hz3⟩
    have hz1' : z1 = dte A f1 nt n d uB D nt := hz1
    have hz2' : z2 = nI nt := hz2
    subst hz1' hz2'
    obtain ⟨j2, l2, f3, c2, r2, e1, e2⟩ := m_dev hw' hd hN hz3 r0 (dte A f1 nt n d uB D nt)
    unfold f_M_digest_L211
    simp only [if_pos (nI_le (Nat.le_refl nt) (show nt < 2 ^ 31 by omega)), e1, oB_s]
    exact ⟨_, rfl, j2, l2, f3, c2, r2, rfl, e2⟩
theorem m_dcl (hw : Wd A nt ne n xT xK xE xF xL uK uB uO uR uL f1 f2) (hd : d < 1024) {N : Nat} (hN : 2000 < N) {j l f c : Int32} (hm : MC A nt j l f c) (r0 : Nat → Int32) (D : Int64) :
    ∃ j2 l2 f3 c2 r2, lpS (f_M_digest_L140 N (nI d) f2 (nI ne) (nI nt) (nI n) uK uB uO uR uL j l f c r0) (.inr none) N (D, 0) = .inr (some (dev uK uB uO uR uL n d (og uK uB uO uR n ne (trN A nt d) ne) (dte A f1 nt n d uB (dcl uK uB uO D n) nt) ne, 0, j2, l2, f3, c2, r2)) ∧ MC A nt j2 l2 f3 c2 := by
  have hle := hw.1.1
  obtain ⟨j2, l2, f3, c2, r2, e1, e2⟩ := m_dte hw hd hN hm r0 (dcl uK uB uO D n)
  refine ⟨j2, l2, f3, c2, r2, ?_, e2⟩
  refine lp_0 (fun j => (dcl uK uB uO D j, nI j)) n rfl ?_ ?_ (by omega)
  · intro j hj
    unfold f_M_digest_L140
    simp only [if_neg (nI_ge hj (show n < 2 ^ 31 by omega)), ib_nI (show j < 40 by omega) (show 40 < 2147483648 by decide), if_true, nI_clamp (show j < 2 ^ 31 by omega), ← nI_succ]
    rfl
  · unfold f_M_digest_L140
    simp only [if_pos (nI_le (Nat.le_refl n) (show n < 2 ^ 31 by omega))]
    exact e1
def dst (n1 n2 n3 n4 n5 n6 n7 n8 n9 : Int32) : Int64 := (((((((((((((((((((991 : Int64) * (31 : Int64)) + n1.toInt64) * (31 : Int64)) + n2.toInt64) * (31 : Int64)) + n3.toInt64) * (31 : Int64)) + n4.toInt64) * (31 : Int64)) + n5.toInt64) * (31 : Int64)) + n6.toInt64) * (31 : Int64)) + n7.toInt64) * (31 : Int64)) + n8.toInt64) * (31 : Int64)) + n9.toInt64)
theorem dig_go {T : Type} {st : Int64 × Int32 → (Int64 × Int32) ⊕ T} {fail : T} {n1 n2 n3 n4 n5 n6 n7 n8 n9 : Int32} {N : Nat} (hN : 60 < N) {r : T} (f : Nat → Int32) (hf : f 0 = n1 ∧ f 1 = n2 ∧ f 2 = n3 ∧ f 3 = n4 ∧ f 4 = n5 ∧ f 5 = n6 ∧ f 6 = n7 ∧ f 7 = n8 ∧ f 8 = n9)
    (h1 : ∀ j D, j < 9 → st (D, nI j) = .inl (D * 31 + (f j).toInt64, nI (j + 1))) (h2 : st (dst n1 n2 n3 n4 n5 n6 n7 n8 n9, nI 9) = .inr r) : lpS st fail N (991, 0) = r := by
  obtain ⟨a0, a1, a2, a3, a4, a5, a6, a7, a8⟩ := hf
  obtain ⟨M, rfl⟩ : ∃ M, N = M + 1 + 1 + 1 + 1 + 1 + 1 + 1 + 1 + 1 + 1 := ⟨N - 10, by omega⟩
  rw [show ((991 : Int64), (0 : Int32)) = (991, nI 0) from rfl, lp_in (h1 0 _ (by decide)), lp_in (h1 1 _ (by decide)), lp_in (h1 2 _ (by decide)), lp_in (h1 3 _ (by decide)), lp_in (h1 4 _ (by decide)), lp_in (h1 5 _ (by decide)), lp_in (h1 6 _ (by decide)), lp_in (h1 7 _ (by decide)), lp_in (h1 8 _ (by decide)), a0, a1, a2, a3, a4, a5, a6, a7, a8]
  exact lp_out h2
theorem dig_same (hw : Wd A nt ne n xT xK xE xF xL uK uB uO uR uL f1 f2) (hd : d < 1024) {N1 N2 : Nat} (hN1 : 2000 < N1) (hN2 : 2000 < N2) {j l c mj ml mf mc : Int32} (hx : XC A nt j l c) (hm : MC A nt mj ml mf mc) (a0 o0 r0 : Nat → Int32) (ev cr th : Int32) :
    ∃ v a2 o2 mj2 ml2 mf2 mc2 r2, f_Main_digest N1 (nI ne) (nI nt) (nI n) xT xK xE xF xL j l c f1 a0 o0 (nI d) ev cr = some (v, nI d, nI (lsN A nt d), nI (csN A nt d), a2, o2) ∧
      f_M_digest N2 th (nI d) ev cr mj ml mf mc f2 r0 (nI ne) (nI nt) (nI n) uK uB uO uR uL = some (v, 0, mj2, ml2, mf2, mc2, r2) ∧ MC A nt mj2 ml2 mf2 mc2 := by
  have hw' := hw
  obtain ⟨hc, h1, h2, hn, hne, hsy⟩ := hw
  obtain ⟨a2, o2, e1, -⟩ := x_arr hc h1 hn hne hsy hd (xc_at hd) hN1 a0 o0
  obtain ⟨j3, l3, f3, c3, r3, e2, e3, -⟩ := m_ord hc h2 hn hne hsy hd (mc_at hd) hN2 r0
  obtain ⟨j4, l4, c4, e4, e5⟩ := x_dte hw' hd hN1 (xc_at hd) (dcl uK uB uO (dst (nI ne) (nI nt) (nI n) ev cr (nI (pnT A (belN nt d) nt)) (nI (pcN (lsN A nt d))) (nI (csN A nt d)) (bI (og uK uB uO uR n ne (trN A nt d) ne).isSome)) n)
  obtain ⟨a6, o6, e6⟩ := x_dev hw' hd hN1 e5 a2 o2 (dte A f1 nt n d uB (dcl uK uB uO (dst (nI ne) (nI nt) (nI n) ev cr (nI (pnT A (belN nt d) nt)) (nI (pcN (lsN A nt d))) (nI (csN A nt d)) (bI (og uK uB uO uR n ne (trN A nt d) ne).isSome)) n) nt)
  obtain ⟨j7, l7, f7, c7, r7, e7, e8⟩ := m_dcl hw' hd hN2 e3 r3 (dst (nI ne) (nI nt) (nI n) ev cr (nI (pnT A (belN nt d) nt)) (nI (pcN (lsN A nt d))) (nI (csN A nt d)) (bI (og uK uB uO uR n ne (trN A nt d) ne).isSome))
  refine ⟨dev uK uB uO uR uL n d (og uK uB uO uR n ne (trN A nt d) ne) (dte A f1 nt n d uB (dcl uK uB uO (dst (nI ne) (nI nt) (nI n) ev cr (nI (pnT A (belN nt d) nt)) (nI (pcN (lsN A nt d))) (nI (csN A nt d)) (bI (og uK uB uO uR n ne (trN A nt d) ne).isSome)) n) nt) ne, a6, o6, j7, l7, f7, c7, r7, ?_, ?_, e8⟩
  · unfold f_Main_digest f_Main_contradictions f_Main_liars f_Main_smallestSets f_Main_hasOrder f_Ve_setCount
    simp only [x_pn h1 hn (show 60 < N1 by omega), oB_s, x_liar h1 hn hsy hd hx hN1, q_pc _ (LS_lt (d := d) h1 hn hsy), x_judge h1 hn hsy hd (xc_at hd) hN1, e1, bI_zB, if_true, x_dcl hc (show 60 < N1 by omega), one_bI]
    show oB none (f_Main_digestTellers N1 (nI nt) (nI n) xT (nI d) (nI (lsN A nt d)) (nI (csN A nt d)) f1 (nI d) (dcl uK uB uO (dst (nI ne) (nI nt) (nI n) ev cr (nI (pnT A (belN nt d) nt)) (nI (pcN (lsN A nt d))) (nI (csN A nt d)) (bI (og uK uB uO uR n ne (trN A nt d) ne).isSome)) n)) _ = _
    rw [e4, oB_s]
    show oB none (f_Main_digestEvents N1 (nI ne) (nI nt) (nI n) xT xK xE xF xL j4 l4 c4 f1 a2 o2 (nI d) (dte A f1 nt n d uB (dcl uK uB uO (dst (nI ne) (nI nt) (nI n) ev cr (nI (pnT A (belN nt d) nt)) (nI (pcN (lsN A nt d))) (nI (csN A nt d)) (bI (og uK uB uO uR n ne (trN A nt d) ne).isSome)) n) nt)) _ = _
    rw [e6, oB_s]
  · unfold f_M_digest
    simp only [m_bel (show nt < 32 by omega), m_pn h2 hsy hn (show 60 < N2 by omega) (bel_10 (d := d) hn), oB_s, m_liars h2 hn hsy hd hm hN2, e2, oneM, one_bI]
    refine dig_go (n1 := nI ne) (n2 := nI nt) (n3 := nI n) (n4 := ev) (n5 := cr) (n6 := nI (pnT A (belN nt d) nt)) (n7 := nI (pcN (lsN A nt d))) (n8 := nI (csN A nt d)) (n9 := bI (og uK uB uO uR n ne (trN A nt d) ne).isSome) (show 60 < N2 by omega) (upd (upd (upd (upd (upd (upd (upd (upd (upd (fun _ => (0 : Int32)) (0 : Int32).toNatClampNeg (nI ne)) (1 : Int32).toNatClampNeg (nI nt)) (2 : Int32).toNatClampNeg (nI n)) (3 : Int32).toNatClampNeg ev) (4 : Int32).toNatClampNeg cr) (5 : Int32).toNatClampNeg (nI (pnT A (belN nt d) nt))) (6 : Int32).toNatClampNeg (nI (pcN (lsN A nt d)))) (7 : Int32).toNatClampNeg (nI (csN A nt d))) (8 : Int32).toNatClampNeg (bI (og uK uB uO uR n ne (trN A nt d) ne).isSome)) ⟨rfl, rfl, rfl, rfl, rfl, rfl, rfl, rfl, rfl⟩ (fun j D hj => ?_) ?_
    · unfold f_M_digest_L107
      have h3 : ¬ (9 : Int32) ≤ nI j := nI_ge (b := 9) hj (by decide)
      simp only [if_neg h3, ib_nI hj (show 9 < 2147483648 by decide), if_true, nI_clamp (show j < 2 ^ 31 by omega), ← nI_succ]
    · unfold f_M_digest_L107
      simp only [show (9 : Int32) ≤ nI 9 by decide, if_true]
      exact e7
end DG
