/-! claims by hand, and the digest, in the Sim's own words -/
theorem cr_congr {nt ne n : Nat} {xT xK xE xF xL uK uB uO uR uL vK vB vO vR vL : Nat → Int32} (h : CR nt ne n xT xK xE xF xL uK uB uO uR uL) (hv : ∀ j, j < n → uK j = vK j ∧ uB j = vB j ∧ uO j = vO j ∧ uR j = vR j ∧ uL j = vL j) : CR nt ne n xT xK xE xF xL vK vB vO vR vL := by
  refine ⟨h.1, fun j hj => ?_⟩
  obtain ⟨e1, e2, e3, e4, e5⟩ := hv j hj
  have h2 := h.2 j hj
  rw [e1, e2, e3, e4, e5] at h2
  exact h2
theorem rwK_add {cl : List (Nat → Int32)} {f : Nat → Int32} {i j : Nat} (hj : j < cl.length + 1) : upd (rwK cl i) cl.length (f i) j = rwK (cl ++ [f]) i j := by
  unfold upd
  by_cases h : j = cl.length
  · rw [if_pos h, h]
    show f i = rw5 (cl ++ [f]) cl.length i
    rw [rw5_at]
  · rw [if_neg h]
    show rw5 cl j i = rw5 (cl ++ [f]) j i
    rw [rw5_lt (by omega)]
theorem rw5_del {cl : List (Nat → Int32)} {c j : Nat} : rw5 (cl.eraseIdx c) j = if j < c then rw5 cl j else rw5 cl (j + 1) := by
  show (cl.eraseIdx c).getD j z5 = if j < c then cl.getD j z5 else cl.getD (j + 1) z5
  rw [List.getD_eq_getElem?_getD, List.getD_eq_getElem?_getD, List.getD_eq_getElem?_getD, List.getElem?_eraseIdx]
  split <;> rfl
theorem rwK_del {cl : List (Nat → Int32)} {c i j : Nat} (hj : j < cl.length - 1) : shf (rwK cl i) c (cl.length - 1 - c) j = rwK (cl.eraseIdx c) i j := by
  show _ = rw5 (cl.eraseIdx c) j i
  rw [rw5_del]
  unfold shf
  by_cases h : j < c
  · rw [if_neg (by omega), if_pos h]
    rfl
  · rw [if_pos (by omega), if_neg h]
    rfl
theorem CV_del {ne nt c : Nat} {cl : List (Nat → Int32)} (h : ∀ k, k < cl.length → CV1 ne nt (rw5 cl k)) (hc : c < cl.length) : ∀ k, k < (cl.eraseIdx c).length → CV1 ne nt (rw5 (cl.eraseIdx c) k) := by
  intro k hk
  rw [List.length_eraseIdx_of_lt hc] at hk
  rw [rw5_del]
  split
  · exact h k (by omega)
  · exact h (k + 1) (by omega)
theorem CD_del {c : Nat} {cl : List (Nat → Int32)} (h : CD cl) (hc : c < cl.length) : CD (cl.eraseIdx c) := by
  intro k hk
  rw [List.length_eraseIdx_of_lt hc] at hk
  rw [rw5_del]
  split
  · exact h k (by omega)
  · exact h (k + 1) (by omega)
theorem CV_add {ne nt : Nat} {cl : List (Nat → Int32)} {f : Nat → Int32} (h : ∀ k, k < cl.length → CV1 ne nt (rw5 cl k)) (hf : CV1 ne nt f) : ∀ k, k < (cl ++ [f]).length → CV1 ne nt (rw5 (cl ++ [f]) k) := by
  intro k hk
  rw [List.length_append] at hk
  by_cases hk2 : k < cl.length
  · rw [rw5_lt hk2]
    exact h k hk2
  · have e : k = cl.length := by have : k < cl.length + 1 := hk; omega
    rw [e, rw5_at]
    exact hf
section HD
variable {A : Nat → Nat} {ne nt d : Nat} {cl : List (Nat → Int32)} {x6 x7 x8 x9 x10 x21 : Nat → Int32} {x18 x19 x20 : Int32} {N : Nat}
theorem v_hand (hw : WS A ne nt cl x6 x7 x8 x9 x10 x21) (hN : 60 < N) {f : Nat → Int32} (hf : CV1 ne nt f) (hf2 : ¬ f 0 = 0 → ¬ f 2 = f 3 ∧ f 4 = 0) (hl : cl.length < 40) (j0 : Int32) : ∃ A2 f2, f_Main_claimByHand N (nI cl.length) x6 x7 x8 x9 x10 j0 x21 (f 1) (f 0) (f 2) (f 3) (f 4) = some (.inl (nI cl.length, nI (cl ++ [f]).length, upd x6 cl.length (f 1), upd x7 cl.length (f 0), upd x8 cl.length (f 2), upd x9 cl.length (f 3), upd x10 cl.length (f 4), -1, f2)) ∧ WS A2 ne nt (cl ++ [f]) (upd x6 cl.length (f 1)) (upd x7 cl.length (f 0)) (upd x8 cl.length (f 2)) (upd x9 cl.length (f 3)) (upd x10 cl.length (f 4)) f2 := by
  obtain ⟨⟨hc, h1, h1b, hn, hne, hsy⟩, hA, hV, hD⟩ := hw
  obtain ⟨k0, ⟨w, hw1, hw2⟩, ⟨e, he1, he2⟩, h3, h4⟩ := id hf
  have hlen : (cl ++ [f]).length = cl.length + 1 := by rw [List.length_append]; rfl
  have hcr : CR nt ne (cl.length + 1) (upd x6 cl.length (f 1)) (upd x7 cl.length (f 0)) (upd x8 cl.length (f 2)) (upd x9 cl.length (f 3)) (upd x10 cl.length (f 4)) (rwK (cl ++ [f]) 0) (rwK (cl ++ [f]) 1) (rwK (cl ++ [f]) 2) (rwK (cl ++ [f]) 3) (rwK (cl ++ [f]) 4) := by
    have h := cr_add hc hl (k := f 0) (r := f 3) (l := f 4) (t := w) (e := e) k0 hw1 he1 h3
    rw [← hw2, ← he2] at h
    exact cr_congr h (fun j hj => ⟨rwK_add hj, rwK_add hj, rwK_add hj, rwK_add hj, rwK_add hj⟩)
  rw [← hlen] at hcr
  obtain ⟨f2, hh, hag⟩ := x_hear hcr hn hN j0 x21
  obtain ⟨A2, ha1, ha2⟩ := AcS_of (CV_add hV hf) hn hag
  refine ⟨A2, f2, ?_, ⟨⟨hcr, ha1, ha1, hn, hne, symA_of ha2⟩, ha2, CV_add hV hf, CD.push hD hf2⟩⟩
  rw [hlen] at hh ⊢
  exact x_claim hc hl N j0 (f 0) (f 3) (f 4) (f 1) (f 2) x21 f2 hh
theorem v_claimHours (hw : WS A ne nt cl x6 x7 x8 x9 x10 x21) (hN : 60 < N) {f : Nat → Int32} (hf : CV1 ne nt f) (hf0 : f 0 = 0) (hl : cl.length < 40) (j0 : Int32) : ∃ A2 f2, f_Main_claimHours N (nI ne) (nI nt) (nI cl.length) x6 x7 x8 x9 x10 j0 x21 (f 1) (f 2) (f 3) (f 4) = some (.inl (nI cl.length, nI (cl ++ [f]).length, upd x6 cl.length (f 1), upd x7 cl.length (f 0), upd x8 cl.length (f 2), upd x9 cl.length (f 3), upd x10 cl.length (f 4), -1, f2)) ∧ WS A2 ne nt (cl ++ [f]) (upd x6 cl.length (f 1)) (upd x7 cl.length (f 0)) (upd x8 cl.length (f 2)) (upd x9 cl.length (f 3)) (upd x10 cl.length (f 4)) f2 := by
  obtain ⟨A2, f2, h1, h2⟩ := v_hand hw hN hf (fun h => absurd hf0 h) hl j0
  refine ⟨A2, f2, ?_, h2⟩
  have hn := hw.1.2.2.2.1
  have hne := hw.1.2.2.2.2.1
  obtain ⟨k0, ⟨w, hw1, hw2⟩, ⟨e, he1, he2⟩, h3, h4⟩ := id hf
  obtain ⟨x, y, xy, y1, e3, e4⟩ := h4 hf0
  rw [hf0] at h1 ⊢
  unfold f_Main_claimHours
  have q1 : f_Main_needTeller (nI nt) (f 1) = some (.inl ()) := by rw [hw2]; exact nd_t hw1 (by omega)
  have q2 : f_Main_needEvent (nI ne) (f 2) = some (.inl ()) := by rw [he2]; exact nd_e he1 (by omega)
  have q3 : ¬ f 3 < 0 := by rw [e3]; exact nI_nlt0 x (by omega)
  have q4 : ¬ (99 : Int32) < f 4 := by rw [e4]; exact fun h => by have := (nI_ltI (a := 99) (b := y) (by decide) (by omega)).mp h; omega
  have q5 : f 3 ≤ f 4 := by rw [e3, e4]; exact (nI_leI (by omega) (by omega)).mpr xy
  simp only [q1, q2, oB_s, Sum.elim_inl, if_neg q3, if_neg q4, if_pos q5, h1]
theorem v_two (hne : ne ≤ 8) {f : Nat → Int32} (hf : CV1 ne nt f) (hf0 : ¬ f 0 = 0) (hf2 : ¬ f 2 = f 3) : f_Main_needTwoEvents (nI ne) (f 2) (f 3) = some (.inl ()) := by
  obtain ⟨k0, -, ⟨e, he1, he2⟩, h3, -⟩ := hf
  obtain ⟨o, ho1, ho2⟩ := h3 hf0
  have q2 : f_Main_needEvent (nI ne) (f 2) = some (.inl ()) := by rw [he2]; exact nd_e he1 (by omega)
  have q3 : f_Main_needEvent (nI ne) (f 3) = some (.inl ()) := by rw [ho2]; exact nd_e ho1 (by omega)
  unfold f_Main_needTwoEvents
  simp only [q2, q3, oB_s, Sum.elim_inl, if_neg hf2]
theorem v_claimBefore (hw : WS A ne nt cl x6 x7 x8 x9 x10 x21) (hN : 60 < N) {f : Nat → Int32} (hf : CV1 ne nt f) (hf0 : f 0 = 1) (hf2 : ¬ f 0 = 0 → ¬ f 2 = f 3 ∧ f 4 = 0) (hl : cl.length < 40) (j0 : Int32) : ∃ A2 f2, f_Main_claimBefore N (nI ne) (nI nt) (nI cl.length) x6 x7 x8 x9 x10 j0 x21 (f 1) (f 2) (f 3) = some (.inl (nI cl.length, nI (cl ++ [f]).length, upd x6 cl.length (f 1), upd x7 cl.length (f 0), upd x8 cl.length (f 2), upd x9 cl.length (f 3), upd x10 cl.length (f 4), -1, f2)) ∧ WS A2 ne nt (cl ++ [f]) (upd x6 cl.length (f 1)) (upd x7 cl.length (f 0)) (upd x8 cl.length (f 2)) (upd x9 cl.length (f 3)) (upd x10 cl.length (f 4)) f2 := by
  obtain ⟨A2, f2, h1, h2⟩ := v_hand hw hN hf hf2 hl j0
  refine ⟨A2, f2, ?_, h2⟩
  have hn := hw.1.2.2.2.1
  have hne := hw.1.2.2.2.2.1
  have hk : ¬ f 0 = 0 := by rw [hf0]; decide
  obtain ⟨d1, d2⟩ := hf2 hk
  obtain ⟨k0, ⟨w, hw1, hw2⟩, -⟩ := id hf
  rw [hf0, d2] at h1 ⊢
  have q1 : f_Main_needTeller (nI nt) (f 1) = some (.inl ()) := by rw [hw2]; exact nd_t hw1 (by omega)
  unfold f_Main_claimBefore
  simp only [q1, v_two hne hf hk d1, oB_s, Sum.elim_inl, h1]
theorem v_claimTogether (hw : WS A ne nt cl x6 x7 x8 x9 x10 x21) (hN : 60 < N) {f : Nat → Int32} (hf : CV1 ne nt f) (hf0 : f 0 = 2) (hf2 : ¬ f 0 = 0 → ¬ f 2 = f 3 ∧ f 4 = 0) (hl : cl.length < 40) (j0 : Int32) : ∃ A2 f2, f_Main_claimTogether N (nI ne) (nI nt) (nI cl.length) x6 x7 x8 x9 x10 j0 x21 (f 1) (f 2) (f 3) = some (.inl (nI cl.length, nI (cl ++ [f]).length, upd x6 cl.length (f 1), upd x7 cl.length (f 0), upd x8 cl.length (f 2), upd x9 cl.length (f 3), upd x10 cl.length (f 4), -1, f2)) ∧ WS A2 ne nt (cl ++ [f]) (upd x6 cl.length (f 1)) (upd x7 cl.length (f 0)) (upd x8 cl.length (f 2)) (upd x9 cl.length (f 3)) (upd x10 cl.length (f 4)) f2 := by
  obtain ⟨A2, f2, h1, h2⟩ := v_hand hw hN hf hf2 hl j0
  refine ⟨A2, f2, ?_, h2⟩
  have hn := hw.1.2.2.2.1
  have hne := hw.1.2.2.2.2.1
  have hk : ¬ f 0 = 0 := by rw [hf0]; decide
  obtain ⟨d1, d2⟩ := hf2 hk
  obtain ⟨k0, ⟨w, hw1, hw2⟩, -⟩ := id hf
  rw [hf0, d2] at h1 ⊢
  have q1 : f_Main_needTeller (nI nt) (f 1) = some (.inl ()) := by rw [hw2]; exact nd_t hw1 (by omega)
  unfold f_Main_claimTogether
  simp only [q1, v_two hne hf hk d1, oB_s, Sum.elim_inl, h1]
theorem v_takeBack (hw : WS A ne nt cl x6 x7 x8 x9 x10 x21) (hN : 60 < N) {c : Nat} (hc : c < cl.length) (j0 : Int32) : ∃ A2 f2, f_Main_takeBack N (nI cl.length) x6 x7 x8 x9 x10 j0 x21 (nI c) = some (.inl (rw5 cl c 1, nI (cl.eraseIdx c).length, shf x6 c (cl.length - 1 - c), shf x7 c (cl.length - 1 - c), shf x8 c (cl.length - 1 - c), shf x9 c (cl.length - 1 - c), shf x10 c (cl.length - 1 - c), -1, f2)) ∧ WS A2 ne nt (cl.eraseIdx c) (shf x6 c (cl.length - 1 - c)) (shf x7 c (cl.length - 1 - c)) (shf x8 c (cl.length - 1 - c)) (shf x9 c (cl.length - 1 - c)) (shf x10 c (cl.length - 1 - c)) f2 := by
  have hr := (cl_row hw hc).1
  obtain ⟨⟨hcr0, h1, h1b, hn, hne, hsy⟩, hA, hV, hD⟩ := hw
  have h40 := hcr0.1
  have hlen : (cl.eraseIdx c).length = cl.length - 1 := List.length_eraseIdx_of_lt hc
  have hcr := cr_congr (cr_remove hcr0 hc) (fun j hj => ⟨rwK_del hj, rwK_del hj, rwK_del hj, rwK_del hj, rwK_del hj⟩)
  rw [← hlen] at hcr
  rw [hlen] at hcr ⊢
  have hcr2 := hcr
  rw [← hlen] at hcr2
  obtain ⟨f2, hh, hag⟩ := x_hear hcr hn hN j0 x21
  rw [← hlen] at hag
  obtain ⟨A2, ha1, ha2⟩ := AcS_of (CV_del hV hc) hn hag
  have h5 := x_remove (xT := x6) (xK := x7) (xE := x8) (xF := x9) (xL := x10) hc h40 hN
  refine ⟨A2, f2, ?_, ?_⟩
  · unfold f_Main_takeBack
    simp only [need_in hc (show cl.length < 2 ^ 31 by omega), oB_s, Sum.elim_inl, h5, hh, hr]
  · refine ⟨⟨?_, ha1, ha1, hn, hne, symA_of ha2⟩, ha2, CV_del hV hc, CD_del hD hc⟩
    rw [hlen]
    exact hcr
/-- the digest -/
def dtiS (cl : List (Nat → Int32)) (d t : Nat) (D : Int64) : Nat → Int64
  | 0 => D
  | o + 1 => (dtiS cl d t D o * 31) + (bI (conS cl d t o)).toInt64
def dtbS (cl : List (Nat → Int32)) (d nt t : Nat) (D : Int64) : Int64 :=
  ((((((D * 31) + (nI (cntS cl (nI t) cl.length)).toInt64) * 31) + (dbF d t).toInt64) * 31) + (dbF (LIs cl d nt).1 t).toInt64)
def dteS (cl : List (Nat → Int32)) (d nt : Nat) (D : Int64) : Nat → Int64
  | 0 => D
  | t + 1 => dtiS cl d t (dtbS cl d nt t (dteS cl d nt D t)) nt
theorem dti_eq (hw : WS A ne nt cl x6 x7 x8 x9 x10 x21) (hd : d < 1024) {t : Nat} (ht : t < 10) (D : Int64) : ∀ o, o ≤ 10 → dti x21 d t D o = dtiS cl d t D o
  | 0, _ => rfl
  | o + 1, ho => by
    show (dti x21 d t D o * 31) + (f_Main_one (f_Ve_tellersContradict x21 (nI t) (nI o) (nI d))).toInt64 = (dtiS cl d t D o * 31) + (bI (conS cl d t o)).toInt64
    rw [dti_eq hw hd ht D o (by omega), v_tc hw hd ht (by omega), one_bI]
theorem dte_eq (hw : WS A ne nt cl x6 x7 x8 x9 x10 x21) (hd : d < 1024) (D : Int64) : ∀ t, t ≤ nt → dte A x21 nt cl.length d (rwK cl 1) D t = dteS cl d nt D t
  | 0, _ => rfl
  | t + 1, ht => by
    have hn := hw.1.2.2.2.1
    have hl := li_lt (d := d) hw
    have e1 := (li_eq (d := d) hw).1
    show dti x21 d t (dtb A nt cl.length d (rwK cl 1) t (dte A x21 nt cl.length d (rwK cl 1) D t)) nt = dtiS cl d t (dtbS cl d nt t (dteS cl d nt D t)) nt
    rw [dti_eq hw hd (by omega) _ nt hn, dte_eq hw hd D t (by omega)]
    congr 1
    unfold dtb dtbS
    rw [e1, has_db (by omega) (by omega), has_db (by omega) (by omega), dbF_bI, dbF_bI, one_bI, one_bI]
    rfl
def dgS (ne nt : Nat) (cl : List (Nat → Int32)) (d : Nat) (ev cr : Int32) : Int64 :=
  dev (rwK cl 0) (rwK cl 1) (rwK cl 2) (rwK cl 3) (rwK cl 4) cl.length d (ogS cl ne (trS cl d nt) ne) (dteS cl d nt (dcl (rwK cl 0) (rwK cl 1) (rwK cl 2) (dst (nI ne) (nI nt) (nI cl.length) ev cr (nI (pnS cl d nt nt)) (nI (LIs cl d nt).2.2) (nI (LIs cl d nt).2.1) (bI (ogS cl ne (trS cl d nt) ne).isSome)) cl.length) nt) ne
theorem v_digest (hw : WS A ne nt cl x6 x7 x8 x9 x10 x21) (hd : d < 1024) (hx : XC A nt x18 x19 x20) (hN : 2000 < N) (a0 o0 : Nat → Int32) (ev cr : Int32) : ∃ a2 o2, f_Main_digest N (nI ne) (nI nt) (nI cl.length) x6 x7 x8 x9 x10 x18 x19 x20 x21 a0 o0 (nI d) ev cr = some (dgS ne nt cl d ev cr, nI d, nI (lsN A nt d), nI (csN A nt d), a2, o2) := by
  obtain ⟨a1, o1, h1⟩ := v_hasOrder hw hd (xc_at hd) hN a0 o0
  obtain ⟨j2, l2, c2, h2, h3⟩ := x_dte hw.1 hd hN (xc_at hd) (dcl (rwK cl 0) (rwK cl 1) (rwK cl 2) (dst (nI ne) (nI nt) (nI cl.length) ev cr (nI (pnS cl d nt nt)) (nI (LIs cl d nt).2.2) (nI (LIs cl d nt).2.1) (bI (ogS cl ne (trS cl d nt) ne).isSome)) cl.length)
  rw [dte_eq hw hd _ nt (Nat.le_refl _)] at h2
  obtain ⟨a2, o2, h4⟩ := x_dev hw.1 hd hN h3 a1 o1 (dteS cl d nt (dcl (rwK cl 0) (rwK cl 1) (rwK cl 2) (dst (nI ne) (nI nt) (nI cl.length) ev cr (nI (pnS cl d nt nt)) (nI (LIs cl d nt).2.2) (nI (LIs cl d nt).2.1) (bI (ogS cl ne (trS cl d nt) ne).isSome)) cl.length) nt)
  have e2 : trN A nt d = trS cl d nt := by unfold trN trS; rw [(li_eq (d := d) hw).1]
  rw [e2] at h4
  refine ⟨a2, o2, ?_⟩
  unfold f_Main_digest
  have k1 : ∀ x, f_Main_events x = x := fun _ => rfl
  have k2 : ∀ x, f_Main_tellers x = x := fun _ => rfl
  have k3 : ∀ x, f_Main_claims x = x := fun _ => rfl
  have k4 : ∀ x, f_Main_evenings x = x := fun _ => rfl
  have k5 : ∀ x, f_Main_ordersCarriedOut x = x := fun _ => rfl
  simp only [v_contradictions (d := d) hw (show 60 < N by omega), oB_s, v_liars hw hd hx hN, v_sets hw hd (xc_at hd) hN, h1, k1, k2, k3, k4, k5, one_bI]
  have h5 := x_dcl hw.1.1 (show 60 < N by omega) (dst (nI ne) (nI nt) (nI cl.length) ev cr (nI (pnS cl d nt nt)) (nI (LIs cl d nt).2.2) (nI (LIs cl d nt).2.1) (bI (ogS cl ne (trS cl d nt) ne).isSome))
  unfold dst at h5 h2 h4
  simp only [h5, oB_s, h2, h4]
  rfl
end HD
