/-! the digest -/
section DG
variable {A : Nat → Nat} {nt ne n d : Nat} {xT xK xE xF xL uK uB uO uR uL f1 f2 : Nat → Int32}
def dcl (uK uB uO : Nat → Int32) (D : Int64) : Nat → Int64
  | 0 => D
  | j + 1 => (((((dcl uK uB uO D j * 31) + (uB j).toInt64) * 31) + (uK j).toInt64) * 31) + (uO j).toInt64
theorem x_dcl (hc : CR nt ne n xT xK xE xF xL uK uB uO uR uL) {N : Nat} (hN : 60 < N) (D : Int64) : f_Main_digestClaims N (nI n) xT xK xE D = some (dcl uK uB uO D n) := by
  have hle := hc.1
  unfold f_Main_digestClaims
  refine lp_0 (fun j => (dcl uK uB uO D j, nI j)) n rfl ?_ ?_ (by omega)
  · intro j hj
    obtain ⟨⟨a1, a2, a3, -, -⟩, -⟩ := hc.2 j hj
    unfold f_Main_digestClaims_L5
    simp only [if_neg (nI_ge hj (show n < 2 ^ 31 by omega)), rg (show j < 40 by omega) (show 40 < 2147483648 by decide), a1, a2, a3, ← nI_succ]
    rfl
  · unfold f_Main_digestClaims_L5
    simp only [if_pos (nI_le (Nat.le_refl n) (show n < 2 ^ 31 by omega))]
def dti (f1 : Nat → Int32) (d t : Nat) (D : Int64) : Nat → Int64
  | 0 => D
  | o + 1 => (dti f1 d t D o * 31) + (f_Main_one (f_Ve_tellersContradict f1 (nI t) (nI o) (nI d))).toInt64
def dtb (A : Nat → Nat) (nt n d : Nat) (uB : Nat → Int32) (t : Nat) (D : Int64) : Int64 :=
  ((((((D * 31) + (nI (sm n (fun j => b1 (decide (uB j = nI t))))).toInt64) * 31) + (f_Main_one (f_Main_has (nI d) (nI t))).toInt64) * 31) + (f_Main_one (f_Main_has (nI (lsN A nt d)) (nI t))).toInt64)
def dte (A : Nat → Nat) (f1 : Nat → Int32) (nt n d : Nat) (uB : Nat → Int32) (D : Int64) : Nat → Int64
  | 0 => D
  | t + 1 => dti f1 d t (dtb A nt n d uB t (dte A f1 nt n d uB D t)) nt
theorem x_dte (hw : Wd A nt ne n xT xK xE xF xL uK uB uO uR uL f1 f2) (hd : d < 1024) {N : Nat} (hN : 2000 < N) {j l c : Int32} (hx : XC A nt j l c) (D : Int64) : ∃ j2 l2 c2, f_Main_digestTellers N (nI nt) (nI n) xT j l c f1 (nI d) D = some (dte A f1 nt n d uB D nt, j2, l2, c2) ∧ XC A nt j2 l2 c2 := by
  obtain ⟨hc, h1, h2, hn, hne, hsy⟩ := hw
  unfold f_Main_digestTellers
  have key := lp_inv (step := f_Main_digestTellers_L14 N (nI nt) (nI n) xT f1 (nI d)) (fail := none) (fun t z => z.1 = dte A f1 nt n d uB D t ∧ z.2.1 = nI t ∧ XC A nt z.2.2.1 z.2.2.2.1 z.2.2.2.2) nt (fun r => ∃ j2 l2 c2, r = some (dte A f1 nt n d uB D nt, j2, l2, c2) ∧ XC A nt j2 l2 c2) ?_ ?_ (n := N) (s := (D, 0, j, l, c)) (by omega) ⟨rfl, rfl, hx⟩
  · obtain ⟨t, e1, j2, l2, c2, rfl, e2⟩ := key
    exact ⟨j2, l2, c2, e1, e2⟩
  · rintro t ⟨z1, z2, z3, z4, z5⟩ ht ⟨hz1, hz2, hz3⟩
    have hz1' : z1 = dte A f1 nt n d uB D t := hz1
    have hz2' : z2 = nI t := hz2
    subst hz1' hz2'
    unfold f_Main_digestTellers_L14
    have inner : lpS (f_Main_digestTellers_L92 (nI nt) f1 (nI d) (nI t) (nI d) (nI (lsN A nt d)) (nI (csN A nt d))) (.inr none) N (dtb A nt n d uB t (dte A f1 nt n d uB D t), 0) = .inl (dte A f1 nt n d uB D (t + 1), nI (t + 1), nI d, nI (lsN A nt d), nI (csN A nt d)) := by
      refine lp_0 (fun o => (dti f1 d t (dtb A nt n d uB t (dte A f1 nt n d uB D t)) o, nI o)) nt rfl ?_ ?_ (by omega)
      · intro o ho
        unfold f_Main_digestTellers_L92
        simp only [if_neg (nI_ge ho (show nt < 2 ^ 31 by omega)), ← nI_succ]
        rfl
      · unfold f_Main_digestTellers_L92
        simp only [if_pos (nI_le (Nat.le_refl nt) (show nt < 2 ^ 31 by omega)), ← nI_succ]
        rfl
    simp only [if_neg (nI_ge ht (show nt < 2 ^ 31 by omega)), x_count hc (show 60 < N by omega), oB_s, x_liar h1 hn hsy hd hz3 hN]
    exact ⟨_, inner, rfl, rfl, xc_at hd⟩
  · rintro ⟨z1, z2, z3, z4, z5⟩ ⟨hz1, hz2, hz3⟩
    have hz1' : z1 = dte A f1 nt n d uB D nt := hz1
    have hz2' : z2 = nI nt := hz2
    subst hz1' hz2'
    unfold f_Main_digestTellers_L14
    simp only [if_pos (nI_le (Nat.le_refl nt) (show nt < 2 ^ 31 by omega))]
    exact ⟨_, rfl, _, _, _, rfl, hz3⟩
def ordI (o : Option (Nat × (Nat → Nat))) (e : Nat) : Int32 := match o with
  | none => -1
  | some q => nI (q.2 e)
def dev (uK uB uO uR uL : Nat → Int32) (n d : Nat) (o : Option (Nat × (Nat → Nat))) (D : Int64) : Nat → Int64
  | 0 => D
  | e + 1 => if wh uK uB uO uR uL (nI e) (nI d) n ≤ 0 then
      (((((((dev uK uB uO uR uL n d o D e * 31) + (f_Main_one 0).toInt64) * 31) + (-1 : Int32).toInt64) * 31) + (-1 : Int32).toInt64) * 31) + (ordI o e).toInt64
    else (((((((dev uK uB uO uR uL n d o D e * 31) + (f_Main_one 1).toInt64) * 31) + (wb uK uB uO uR (nI e) (nI d) n).toInt64) * 31) + (we uK uB uO uL (nI e) (nI d) n).toInt64) * 31) + (ordI o e).toInt64
theorem x_dev (hw : Wd A nt ne n xT xK xE xF xL uK uB uO uR uL f1 f2) (hd : d < 1024) {N : Nat} (hN : 2000 < N) {j l c : Int32} (hx : XC A nt j l c) (a0 o0 : Nat → Int32) (D : Int64) : ∃ a2 o2, f_Main_digestEvents N (nI ne) (nI nt) (nI n) xT xK xE xF xL j l c f1 a0 o0 (nI d) D = some (dev uK uB uO uR uL n d (og uK uB uO uR n ne (trN A nt d) ne) D ne, nI d, nI (lsN A nt d), nI (csN A nt d), a2, o2) := by
  obtain ⟨hc, h1, h2, hn, hne, hsy⟩ := hw
  obtain ⟨a2, o2, e1, e2⟩ := x_arr hc h1 hn hne hsy hd hx hN a0 o0
  refine ⟨a2, o2, ?_⟩
  unfold f_Main_digestEvents
  rw [e1, oB_s]
  refine lp_0 (fun e => (dev uK uB uO uR uL n d (og uK uB uO uR n ne (trN A nt d) ne) D e, nI e)) ne rfl ?_ ?_ (by omega)
  · intro e he
    unfold f_Main_digestEvents_L21
    simp only [if_neg (nI_ge he (show ne < 2 ^ 31 by omega)), x_hours hc (show 60 < N by omega), x_first hc (show 60 < N by omega), x_last hc (show 60 < N by omega), oB_s, rg (show e < 8 by omega) (show 8 < 2147483648 by decide), ← nI_succ]
    show _ = Sum.inl ((if wh uK uB uO uR uL (nI e) (nI d) n ≤ 0 then _ else _), nI (e + 1))
    cases ho : og uK uB uO uR n ne (trN A nt d) ne with
    | none =>
      simp only [Option.isSome, show bI false = 0 from rfl, if_true]
      by_cases h : wh uK uB uO uR uL (nI e) (nI d) n ≤ 0
      · simp only [if_pos h]; rfl
      · simp only [if_neg h]; rfl
    | some q =>
      simp only [Option.isSome, show bI true = 1 from rfl, if_neg n10, e2 q ho e he]
      by_cases h : wh uK uB uO uR uL (nI e) (nI d) n ≤ 0
      · simp only [if_pos h]; rfl
      · simp only [if_neg h]; rfl
  · unfold f_Main_digestEvents_L21
    simp only [if_pos (nI_le (Nat.le_refl ne) (show ne < 2 ^ 31 by omega))]
def dst (n1 n2 n3 n4 n5 n6 n7 n8 n9 : Int32) : Int64 := (((((((((((((((((((991 : Int64) * (31 : Int64)) + n1.toInt64) * (31 : Int64)) + n2.toInt64) * (31 : Int64)) + n3.toInt64) * (31 : Int64)) + n4.toInt64) * (31 : Int64)) + n5.toInt64) * (31 : Int64)) + n6.toInt64) * (31 : Int64)) + n7.toInt64) * (31 : Int64)) + n8.toInt64) * (31 : Int64)) + n9.toInt64)
theorem dig_go {T : Type} {st : Int64 × Int32 → (Int64 × Int32) ⊕ T} {fail : T} {n1 n2 n3 n4 n5 n6 n7 n8 n9 : Int32} {N : Nat} (hN : 60 < N) {r : T} (f : Nat → Int32) (hf : f 0 = n1 ∧ f 1 = n2 ∧ f 2 = n3 ∧ f 3 = n4 ∧ f 4 = n5 ∧ f 5 = n6 ∧ f 6 = n7 ∧ f 7 = n8 ∧ f 8 = n9)
    (h1 : ∀ j D, j < 9 → st (D, nI j) = .inl (D * 31 + (f j).toInt64, nI (j + 1))) (h2 : st (dst n1 n2 n3 n4 n5 n6 n7 n8 n9, nI 9) = .inr r) : lpS st fail N (991, 0) = r := by
  obtain ⟨a0, a1, a2, a3, a4, a5, a6, a7, a8⟩ := hf
  obtain ⟨M, rfl⟩ : ∃ M, N = M + 1 + 1 + 1 + 1 + 1 + 1 + 1 + 1 + 1 + 1 := ⟨N - 10, by omega⟩
  rw [show ((991 : Int64), (0 : Int32)) = (991, nI 0) from rfl, lp_in (h1 0 _ (by decide)), lp_in (h1 1 _ (by decide)), lp_in (h1 2 _ (by decide)), lp_in (h1 3 _ (by decide)), lp_in (h1 4 _ (by decide)), lp_in (h1 5 _ (by decide)), lp_in (h1 6 _ (by decide)), lp_in (h1 7 _ (by decide)), lp_in (h1 8 _ (by decide)), a0, a1, a2, a3, a4, a5, a6, a7, a8]
  exact lp_out h2
end DG
