/-! single tests, and all tests -/
section PS
variable {xk xs xn mk mf : Nat → Int32} {xw mv : Nat → Int64} {T nt ne : Nat} {xec xtc : Int32} {xew xtw : Nat → Int64} {Q : Nat → (Nat → Int32) → (Nat → Int32) → Prop} {QE : Nat → (Nat → Int32) → Int32 → Int32 → Prop}
theorem sim_single (H : TKs xk xs xn mk mf xw mv T) (hq : QH mk mf mv T nt ne xec xtc xew xtw Q QE) {N1 N2 m : Nat} (hN1 : 500 < N1) (hN2 : 500 < N2) (H0 : Sim xk xs xn mk mf xw mv T nt xec xtc xew xtw Q QE N1 N2 0 true m) (H2 : Sim xk xs xn mk mf xw mv T nt xec xtc xew xtw Q QE N1 N2 2 true m) (H4' : Sim xk xs xn mk mf xw mv T nt xec xtc xew xtw Q QE N1 N2 4 false m) : Sim xk xs xn mk mf xw mv T nt xec xtc xew xtw Q QE N1 N2 2 true (m + 1) := by
  intro δ DX DM hδ hm hX hM t q e ep mm who sk sp mo mw ma hTS
  have H4 := H.1
  have hT := hTS.1
  have hqt := hTS.2.1
  have hz := hTS.2.2.2.1
  have he1 := err1 hTS.2.2.1
  obtain ⟨a1, a2, a3, a4, a5⟩ := H.2.1 t hT
  have g1 : ib (nI t) 401 = true := ib_nI (by omega) (by decide)
  have g2 : (nI t).toNatClampNeg = t := nI_clamp (by omega)
  have bs4 : bsN 4 = 4 := rfl
  have bs6 : bsN 6 = 2 := rfl
  have bs2 : bsN 2 = 6 := rfl
  have bs0 : bsN 0 = 8 := rfl
  rw [bs2] at hm hX hM
  obtain ⟨DX, rfl⟩ : ∃ D, DX = D + 1 := ⟨DX - 1, by omega⟩
  obtain ⟨DM, rfl⟩ : ∃ D, DM = D + 1 := ⟨DM - 1, by omega⟩
  obtain ⟨DX, rfl⟩ : ∃ D, DX = D + 1 := ⟨DX - 1, by omega⟩
  obtain ⟨DM, rfl⟩ : ∃ D, DM = D + 1 := ⟨DM - 1, by omega⟩
  show OutP xk mf Q QE T nt true t δ q sk (f_Re_readSingle N1 (f_Re_parse N1 xk xs xn xw xec xew xtc xtw (DX + 1)) (nI t) (xk t) (nI δ) e ep xk xs xn xw (nI q) sk sp xec xew xtc xtw) (f_M_isSingle N2 (f_M_parse N2 mk mv (DM + 1)) (nI t) (nI δ) mk mm mv (nI q) mo mw ma)
  by_cases hk : mk t = 20
  · have hx : xk t = 220 := by rw [a1]; exact (km_all2 _ a2).2.2.2.2.2.2.2.2.2.2.2.1.mpr hk
    have ht : t < T := tk_lt H hT (by rw [hk]; decide) (by rw [hk]; decide)
    have hq4 : q < 400 := by omega
    have En := err_skip hq ht hTS.2.2.1 (hz t (Nat.le_refl _) (by omega))
    by_cases hδ8 : δ = 8
    · subst hδ8
      obtain ⟨d1, d2⟩ := deep_n (e := e) (ep := ep) (p := 20) H (show t ≤ T by omega) he1
      rw [hx] at d1
      have eX : f_Re_readSingle N1 (f_Re_parse N1 xk xs xn xw xec xew xtc xtw (DX + 1)) (nI t) (xk t) (nI 8) e ep xk xs xn xw (nI q) sk sp xec xew xtc xtw = some (nI t, 133, nI 8, 1, mf t, nI q, sk, sp) := by
        unfold f_Re_readSingle
        simp only [hx, if_neg (show ¬ (220 : Int32) = 91 by decide), if_neg (show ¬ (220 : Int32) = 213 by decide), if_neg (show ¬ (220 : Int32) = 217 by decide), if_neg (show ¬ (220 : Int32) = 218 by decide), if_neg (show ¬ (220 : Int32) = 219 by decide), if_true, d1, oB_s]
      have eM : f_M_isSingle N2 (f_M_parse N2 mk mv (DM + 1)) (nI t) (nI 8) mk mm mv (nI q) mo mw ma = some (0, nI t, nI 8, mm, nI q, mo, mw, ma) := by
        unfold f_M_isSingle
        simp only [g1, g2, hk, if_neg (show ¬ (20 : Int32) = 91 by decide), if_neg (show ¬ (20 : Int32) = 17 by decide), if_neg (show ¬ (20 : Int32) = 18 by decide), if_neg (show ¬ (20 : Int32) = 13 by decide), if_neg (show ¬ (20 : Int32) = 19 by decide), if_true, d2, oB_s]
      
      rw [eX, eM]
      exact out_fail (by omega)
    · obtain ⟨d1, d2⟩ := deep_y (e := e) (ep := ep) H ht (show δ < 8 by omega) hk
      rw [hx] at d1
      rcases H2 (δ + 1) (DX + 1) (DM + 1) (by omega) (by omega) (by omega) (by omega) (t + 1) q e ep mm who sk sp mo mw ma (ts_next hq H4 hTS ht) with ⟨t1, q1, e1, ep1, mm1, who1, sk1, sp1, mo1, mw1, ma1, x1, m1, T1, l1, l2, l3, ty1, fr1⟩ | ⟨t1, a, dp, sc, sk1, sp1, dm, mm1, q1, mo1, mw1, ma1, x1, m1, l1⟩
      · have hq1 : q1 < 400 := by have := T1.1; omega
        have eX : f_Re_readSingle N1 (f_Re_parse N1 xk xs xn xw xec xew xtc xtw (DX + 1)) (nI t) (xk t) (nI δ) e ep xk xs xn xw (nI q) sk sp xec xew xtc xtw = some (nI t1, xk t1, nI δ, e1, ep1, nI (q1 + 1), upd sk1 q1 220, upd sp1 q1 0) := by
          unfold f_Re_readSingle
          simp only [hx, if_neg (show ¬ (220 : Int32) = 91 by decide), if_neg (show ¬ (220 : Int32) = 213 by decide), if_neg (show ¬ (220 : Int32) = 217 by decide), if_neg (show ¬ (220 : Int32) = 218 by decide), if_neg (show ¬ (220 : Int32) = 219 by decide), if_true, d1, oB_s, if_neg n10, x1, add_y hq1, nI_pred]
        have eM : f_M_isSingle N2 (f_M_parse N2 mk mv (DM + 1)) (nI t) (nI δ) mk mm mv (nI q) mo mw ma = some (1, nI t1, nI δ, mm1, nI (q1 + 1), upd mo1 q1 20, upd mw1 q1 0, ma1) := by
          unfold f_M_isSingle
          simp only [g1, g2, hk, if_neg (show ¬ (20 : Int32) = 91 by decide), if_neg (show ¬ (20 : Int32) = 17 by decide), if_neg (show ¬ (20 : Int32) = 18 by decide), if_neg (show ¬ (20 : Int32) = 13 by decide), if_neg (show ¬ (20 : Int32) = 19 by decide), if_true, d2, oB_s, if_neg n10, m1, put_y hq1, nI_pred]
        
        rw [eX, eM]
        exact Or.inl ⟨t1, q1 + 1, e1, ep1, mm1, who1, _, _, _, _, ma1, rfl, rfl, ts_push H4 T1 (Nat.le_refl _) (by omega) T1.1 T1.2.2.1 T1.2.2.2.1 (fun h0 => ⟨h0, fun _ _ => rfl, ⟨Or.inr (Or.inr (Or.inl ⟨rfl, rfl⟩)), fun h9 => absurd h9 (by decide), fun h9 => absurd h9 (by decide)⟩⟩) (fun _ _ => rfl), by omega, by omega, by omega, ty_un l2 ty1 (fun _ => rfl), fun i hi => by rw [upd_lt (show i < q1 by omega)]; exact fr1 i hi⟩
      · obtain ⟨b1, b2, b3, b4⟩ := addSome sc sk1 sp1 220 0
        have eX : f_Re_readSingle N1 (f_Re_parse N1 xk xs xn xw xec xew xtc xtw (DX + 1)) (nI t) (xk t) (nI δ) e ep xk xs xn xw (nI q) sk sp xec xew xtc xtw = some (a, 133, dp - 1, 1, mf t1, b1, b2, b3) := by
          unfold f_Re_readSingle
          simp only [hx, if_neg (show ¬ (220 : Int32) = 91 by decide), if_neg (show ¬ (220 : Int32) = 213 by decide), if_neg (show ¬ (220 : Int32) = 217 by decide), if_neg (show ¬ (220 : Int32) = 218 by decide), if_neg (show ¬ (220 : Int32) = 219 by decide), if_true, d1, oB_s, if_neg n10, x1, b4]
        have eM : f_M_isSingle N2 (f_M_parse N2 mk mv (DM + 1)) (nI t) (nI δ) mk mm mv (nI q) mo mw ma = some (0, nI t1, dm, mm1, q1, mo1, mw1, ma1) := by
          unfold f_M_isSingle
          simp only [g1, g2, hk, if_neg (show ¬ (20 : Int32) = 91 by decide), if_neg (show ¬ (20 : Int32) = 17 by decide), if_neg (show ¬ (20 : Int32) = 18 by decide), if_neg (show ¬ (20 : Int32) = 13 by decide), if_neg (show ¬ (20 : Int32) = 19 by decide), if_true, d2, oB_s, if_neg n10, m1]
        
        rw [eX, eM]
        exact out_fail l1
  have n20 := hk
  clear hk
  by_cases hk : mk t = 91
  · have hx : xk t = 91 := by rw [a1]; exact (km_all _ a2).2.2.1.mpr hk
    have ht : t < T := tk_lt H hT (by rw [hk]; decide) (by rw [hk]; decide)
    have hq4 : q < 400 := by omega
    have En := err_skip hq ht hTS.2.2.1 (hz t (Nat.le_refl _) (by omega))
    by_cases hδ8 : δ = 8
    · subst hδ8
      obtain ⟨d1, d2⟩ := deep_n (e := e) (ep := ep) (p := 91) H (show t ≤ T by omega) he1
      rw [hx] at d1
      have eX : f_Re_readSingle N1 (f_Re_parse N1 xk xs xn xw xec xew xtc xtw (DX + 1)) (nI t) (xk t) (nI 8) e ep xk xs xn xw (nI q) sk sp xec xew xtc xtw = some (nI t, 133, nI 8, 1, mf t, nI q, sk, sp) := by
        unfold f_Re_readSingle
        simp only [hx, if_neg (show ¬ (91 : Int32) = 213 by decide), if_neg (show ¬ (91 : Int32) = 217 by decide), if_neg (show ¬ (91 : Int32) = 218 by decide), if_neg (show ¬ (91 : Int32) = 219 by decide), if_neg (show ¬ (91 : Int32) = 220 by decide), if_true, d1, oB_s]
      have eM : f_M_isSingle N2 (f_M_parse N2 mk mv (DM + 1)) (nI t) (nI 8) mk mm mv (nI q) mo mw ma = some (0, nI t, nI 8, mm, nI q, mo, mw, ma) := by
        unfold f_M_isSingle
        simp only [g1, g2, hk, if_neg (show ¬ (91 : Int32) = 20 by decide), if_neg (show ¬ (91 : Int32) = 17 by decide), if_neg (show ¬ (91 : Int32) = 18 by decide), if_neg (show ¬ (91 : Int32) = 13 by decide), if_neg (show ¬ (91 : Int32) = 19 by decide), if_true, d2, oB_s]
      
      rw [eX, eM]
      exact out_fail (by omega)
    · obtain ⟨d1, d2⟩ := deep_y (e := e) (ep := ep) H ht (show δ < 8 by omega) hk
      rw [hx] at d1
      rcases H0 (δ + 1) (DX + 1) (DM + 1) (by omega) (by omega) (by omega) (by omega) (t + 1) q e ep mm who sk sp mo mw ma (ts_next hq H4 hTS ht) with ⟨t1, q1, e1, ep1, mm1, who1, sk1, sp1, mo1, mw1, ma1, x1, m1, T1, l1, l2, l3, ty1, fr1⟩ | ⟨t1, a, dp, sc, sk1, sp1, dm, mm1, q1, mo1, mw1, ma1, x1, m1, l1⟩
      · have hT1 := T1.1
        obtain ⟨c1, c2, -⟩ := H.2.1 t1 hT1
        by_cases hc : mk t1 = 93
        · have hxc : xk t1 = 93 := by rw [c1]; exact (km_all _ c2).2.2.2.1.mpr hc
          have ht1 : t1 < T := tk_lt H hT1 (by rw [hc]; decide) (by rw [hc]; decide)
          have ex := expectY (e := e1) (ep := ep1) H ht1 hxc
          have cl := close_y (δ := δ) H hT1 hc
          have eX : f_Re_readSingle N1 (f_Re_parse N1 xk xs xn xw xec xew xtc xtw (DX + 1)) (nI t) (xk t) (nI δ) e ep xk xs xn xw (nI q) sk sp xec xew xtc xtw = some (nI (t1 + 1), xk (t1 + 1), nI δ, e1, ep1, nI q1, sk1, sp1) := by
            unfold f_Re_readSingle
            simp only [hx, if_neg (show ¬ (91 : Int32) = 213 by decide), if_neg (show ¬ (91 : Int32) = 217 by decide), if_neg (show ¬ (91 : Int32) = 218 by decide), if_neg (show ¬ (91 : Int32) = 219 by decide), if_neg (show ¬ (91 : Int32) = 220 by decide), if_true, d1, oB_s, if_neg n10, x1, ex, nI_pred]
          have eM : f_M_isSingle N2 (f_M_parse N2 mk mv (DM + 1)) (nI t) (nI δ) mk mm mv (nI q) mo mw ma = some (1, nI (t1 + 1), nI δ, mm1, nI q1, mo1, mw1, ma1) := by
            unfold f_M_isSingle
            simp only [g1, g2, hk, if_neg (show ¬ (91 : Int32) = 20 by decide), if_neg (show ¬ (91 : Int32) = 17 by decide), if_neg (show ¬ (91 : Int32) = 18 by decide), if_neg (show ¬ (91 : Int32) = 13 by decide), if_neg (show ¬ (91 : Int32) = 19 by decide), if_true, d2, oB_s, if_neg n10, m1, cl]
          
          rw [eX, eM]
          exact Or.inl ⟨t1 + 1, q1, e1, ep1, mm1, who1, _, _, _, _, ma1, rfl, rfl, ts_next hq H4 T1 ht1, by omega, by omega, by omega, ty1, fr1⟩
        · have hxc : ¬ xk t1 = 93 := by rw [c1]; exact fun h9 => hc ((km_all _ c2).2.2.2.1.mp h9)
          have ex := expectF (e := e1) (ep := ep1) H hT1 hxc (err1 T1.2.2.1)
          have cl := close_n (δ := δ + 1) H hT1 hc
          have eX : f_Re_readSingle N1 (f_Re_parse N1 xk xs xn xw xec xew xtc xtw (DX + 1)) (nI t) (xk t) (nI δ) e ep xk xs xn xw (nI q) sk sp xec xew xtc xtw = some (nI t1, 133, nI δ, 1, mf t1, nI q1, sk1, sp1) := by
            unfold f_Re_readSingle
            simp only [hx, if_neg (show ¬ (91 : Int32) = 213 by decide), if_neg (show ¬ (91 : Int32) = 217 by decide), if_neg (show ¬ (91 : Int32) = 218 by decide), if_neg (show ¬ (91 : Int32) = 219 by decide), if_neg (show ¬ (91 : Int32) = 220 by decide), if_true, d1, oB_s, if_neg n10, x1, ex, nI_pred]
          have eM : f_M_isSingle N2 (f_M_parse N2 mk mv (DM + 1)) (nI t) (nI δ) mk mm mv (nI q) mo mw ma = some (0, nI t1, nI (δ + 1), mm1, nI q1, mo1, mw1, ma1) := by
            unfold f_M_isSingle
            simp only [g1, g2, hk, if_neg (show ¬ (91 : Int32) = 20 by decide), if_neg (show ¬ (91 : Int32) = 17 by decide), if_neg (show ¬ (91 : Int32) = 18 by decide), if_neg (show ¬ (91 : Int32) = 13 by decide), if_neg (show ¬ (91 : Int32) = 19 by decide), if_true, d2, oB_s, if_neg n10, m1, cl]
          
          rw [eX, eM]
          exact out_fail hT1
      · have ex := expectF2 (xk := xk) (xs := xs) a (mf t1) 93 (by decide)
        have eX : f_Re_readSingle N1 (f_Re_parse N1 xk xs xn xw xec xew xtc xtw (DX + 1)) (nI t) (xk t) (nI δ) e ep xk xs xn xw (nI q) sk sp xec xew xtc xtw = some (a, 133, dp - 1, 1, mf t1, sc, sk1, sp1) := by
          unfold f_Re_readSingle
          simp only [hx, if_neg (show ¬ (91 : Int32) = 213 by decide), if_neg (show ¬ (91 : Int32) = 217 by decide), if_neg (show ¬ (91 : Int32) = 218 by decide), if_neg (show ¬ (91 : Int32) = 219 by decide), if_neg (show ¬ (91 : Int32) = 220 by decide), if_true, d1, oB_s, if_neg n10, x1, ex]
        have eM : f_M_isSingle N2 (f_M_parse N2 mk mv (DM + 1)) (nI t) (nI δ) mk mm mv (nI q) mo mw ma = some (0, nI t1, dm, mm1, q1, mo1, mw1, ma1) := by
          unfold f_M_isSingle
          simp only [g1, g2, hk, if_neg (show ¬ (91 : Int32) = 20 by decide), if_neg (show ¬ (91 : Int32) = 17 by decide), if_neg (show ¬ (91 : Int32) = 18 by decide), if_neg (show ¬ (91 : Int32) = 13 by decide), if_neg (show ¬ (91 : Int32) = 19 by decide), if_true, d2, oB_s, if_neg n10, m1]
        
        rw [eX, eM]
        exact out_fail l1
  have n91 := hk
  clear hk
  by_cases hk : mk t = 17
  · have hx : xk t = 217 := by rw [a1]; exact (km_all2 _ a2).2.2.2.2.2.2.2.2.1.mpr hk
    have ht : t < T := tk_lt H hT (by rw [hk]; decide) (by rw [hk]; decide)
    have hq4 : q < 400 := by omega
    have En := err_skip hq ht hTS.2.2.1 (hz t (Nat.le_refl _) (by omega))
    obtain ⟨ab1, ab2, ab3⟩ := about2 H (mm := mm) (mo := mo) (mw := mw) (ma := ma) (show t + 1 ≤ T by omega) hq4
    by_cases hk1 : mk (t + 1) = 30
    · have ht1 : t + 1 < T := tk_lt H (by omega) (by rw [hk1]; decide) (by rw [hk1]; decide)
      obtain ⟨r, e2, ep2, w1, w2, w3⟩ := known_t H hq ht1 hk1 En
      by_cases hk2 : mk (t + 1 + 1) = 30
      · have ht2 : t + 1 + 1 < T := tk_lt H (by omega) (by rw [hk2]; decide) (by rw [hk2]; decide)
        obtain ⟨r2, e3, ep3, v1, v2, v3⟩ := known_t H hq ht2 hk2 w2
        have ab := ab3 hk1 (by omega) hk2
        have eX : f_Re_readSingle N1 (f_Re_parse N1 xk xs xn xw xec xew xtc xtw (DX + 1)) (nI t) (xk t) (nI δ) e ep xk xs xn xw (nI q) sk sp xec xew xtc xtw = some (nI (t + 1 + 1 + 1), xk (t + 1 + 1 + 1), nI δ, e3, ep3, nI (q + 1), upd sk q 217, upd sp q ((r <<< ((4 : Int32) &&& 31)) ||| r2)) := by
          unfold f_Re_readSingle
          simp only [hx, if_neg (show ¬ (217 : Int32) = 91 by decide), if_neg (show ¬ (217 : Int32) = 213 by decide), if_neg (show ¬ (217 : Int32) = 218 by decide), if_neg (show ¬ (217 : Int32) = 219 by decide), if_neg (show ¬ (217 : Int32) = 220 by decide), if_true, f_Re_readTwoTellers, adv H ht, oB_s, w1, v1, add_y hq4]
        have eM : f_M_isSingle N2 (f_M_parse N2 mk mv (DM + 1)) (nI t) (nI δ) mk mm mv (nI q) mo mw ma = some (1, nI (t + 1 + 1 + 1), nI δ, upd (upd mm (t + 1) 12) (t + 1 + 1) 12, nI (q + 1), upd mo q 17, upd mw q (nI (t + 1)), upd ma q (nI (t + 1 + 1))) := by
          unfold f_M_isSingle
          simp only [g1, g2, hk, if_neg (show ¬ (17 : Int32) = 20 by decide), if_neg (show ¬ (17 : Int32) = 91 by decide), if_neg (show ¬ (17 : Int32) = 18 by decide), if_neg (show ¬ (17 : Int32) = 13 by decide), if_neg (show ¬ (17 : Int32) = 19 by decide), if_true, ab, oB_s, zb1]
        
        rw [eX, eM]
        refine out_push H4 hTS (by omega) (by omega) v2 (fun j c1 c2 => by rw [upd_ne (by omega), upd_ne (by omega)]; exact hz j (by omega) c2) (fun h0 => ?_) (fun i hi => upd_lt hi) (fun _ => rfl)
        obtain ⟨h01, p2, hp2, rfl⟩ := v3 h0
        obtain ⟨h02, p1, hp1, rfl⟩ := w3 h01
        have hnt := hq.2.2.2.2.2.1
        refine ⟨h02, fun j hj => by rw [upd_ne (by omega), upd_ne (by omega)], ?_, fun _ => ⟨t + 1, by omega, rfl⟩, fun _ => ⟨t + 1 + 1, by omega, upd_at⟩⟩
        rw [upd_at, if_pos (by decide), if_pos rfl, nI_clamp (by omega), nI_clamp (by omega), upd_at, upd_ne (by omega), upd_at]
        exact Or.inl (Or.inr (Or.inr (Or.inr (Or.inr (Or.inr (Or.inr (Or.inr (Or.inl ⟨rfl, rfl, p1, p2, hp1, hp2, rfl, rfl, two_part p1 (by omega) p2 (by omega)⟩))))))))
      · have ab := ab2 hk1 (by omega) hk2
        have eX : f_Re_readSingle N1 (f_Re_parse N1 xk xs xn xw xec xew xtc xtw (DX + 1)) (nI t) (xk t) (nI δ) e ep xk xs xn xw (nI q) sk sp xec xew xtc xtw = some (nI (t + 1 + 1), 133, nI δ, 1, mf (t + 1 + 1), nI (q + 1), upd sk q 217, upd sp q ((r <<< ((4 : Int32) &&& 31)) ||| (-1))) := by
          unfold f_Re_readSingle
          simp only [hx, if_neg (show ¬ (217 : Int32) = 91 by decide), if_neg (show ¬ (217 : Int32) = 213 by decide), if_neg (show ¬ (217 : Int32) = 218 by decide), if_neg (show ¬ (217 : Int32) = 219 by decide), if_neg (show ¬ (217 : Int32) = 220 by decide), if_true, f_Re_readTwoTellers, adv H ht, oB_s, w1, known_tF H (show t + 1 + 1 ≤ T by omega) hk2 (err1 w2), add_y hq4]
        have eM : f_M_isSingle N2 (f_M_parse N2 mk mv (DM + 1)) (nI t) (nI δ) mk mm mv (nI q) mo mw ma = some (0, nI (t + 1 + 1), nI δ, upd (upd mm (t + 1) 12) (t + 1 + 1) 12, nI q, mo, mw, upd ma q (nI (t + 1 + 1))) := by
          unfold f_M_isSingle
          simp only [g1, g2, hk, if_neg (show ¬ (17 : Int32) = 20 by decide), if_neg (show ¬ (17 : Int32) = 91 by decide), if_neg (show ¬ (17 : Int32) = 18 by decide), if_neg (show ¬ (17 : Int32) = 13 by decide), if_neg (show ¬ (17 : Int32) = 19 by decide), if_true, ab, oB_s, zb0]
        
        rw [eX, eM]
        exact out_fail (by omega)
    · have ab := ab1 hk1
      have eX : f_Re_readSingle N1 (f_Re_parse N1 xk xs xn xw xec xew xtc xtw (DX + 1)) (nI t) (xk t) (nI δ) e ep xk xs xn xw (nI q) sk sp xec xew xtc xtw = some (nI (t + 1), 133, nI δ, 1, mf (t + 1), nI (q + 1), upd sk q 217, upd sp q (((-1 : Int32) <<< ((4 : Int32) &&& 31)) ||| (-1 : Int32))) := by
        unfold f_Re_readSingle
        simp only [hx, if_neg (show ¬ (217 : Int32) = 91 by decide), if_neg (show ¬ (217 : Int32) = 213 by decide), if_neg (show ¬ (217 : Int32) = 218 by decide), if_neg (show ¬ (217 : Int32) = 219 by decide), if_neg (show ¬ (217 : Int32) = 220 by decide), if_true, f_Re_readTwoTellers, adv H ht, oB_s, known_tF H (show t + 1 ≤ T by omega) hk1 he1, known_tF2, add_y hq4]
      have eM : f_M_isSingle N2 (f_M_parse N2 mk mv (DM + 1)) (nI t) (nI δ) mk mm mv (nI q) mo mw ma = some (0, nI (t + 1), nI δ, upd mm (t + 1) 12, nI q, mo, mw, ma) := by
        unfold f_M_isSingle
        simp only [g1, g2, hk, if_neg (show ¬ (17 : Int32) = 20 by decide), if_neg (show ¬ (17 : Int32) = 91 by decide), if_neg (show ¬ (17 : Int32) = 18 by decide), if_neg (show ¬ (17 : Int32) = 13 by decide), if_neg (show ¬ (17 : Int32) = 19 by decide), if_true, ab, oB_s, zb0]
      
      rw [eX, eM]
      exact out_fail (by omega)
  have n17 := hk
  clear hk
  by_cases hk : mk t = 18
  · have hx : xk t = 218 := by rw [a1]; exact (km_all2 _ a2).2.2.2.2.2.2.2.2.2.1.mpr hk
    have ht : t < T := tk_lt H hT (by rw [hk]; decide) (by rw [hk]; decide)
    have hq4 : q < 400 := by omega
    have En := err_skip hq ht hTS.2.2.1 (hz t (Nat.le_refl _) (by omega))
    by_cases hk1 : mk (t + 1) = 30
    · have ht1 : t + 1 < T := tk_lt H (by omega) (by rw [hk1]; decide) (by rw [hk1]; decide)
      obtain ⟨r, e2, ep2, w1, w2, w3⟩ := known_t H hq ht1 hk1 En
      have ab := about1 H (mm := mm) (mo := mo) (mw := mw) (ma := ma) (as := 12) (show t + 1 ≤ T by omega) hq4 (show ¬ (18 : Int32) = 14 by decide) (show ¬ (18 : Int32) = 15 by decide)
      rw [if_pos hk1] at ab
      have eX : f_Re_readSingle N1 (f_Re_parse N1 xk xs xn xw xec xew xtc xtw (DX + 1)) (nI t) (xk t) (nI δ) e ep xk xs xn xw (nI q) sk sp xec xew xtc xtw = some (nI (t + 1 + 1), xk (t + 1 + 1), nI δ, e2, ep2, nI (q + 1), upd sk q 218, upd sp q r) := by
        unfold f_Re_readSingle
        simp only [hx, if_neg (show ¬ (218 : Int32) = 91 by decide), if_neg (show ¬ (218 : Int32) = 213 by decide), if_neg (show ¬ (218 : Int32) = 217 by decide), if_neg (show ¬ (218 : Int32) = 219 by decide), if_neg (show ¬ (218 : Int32) = 220 by decide), if_true, adv H ht, oB_s, w1, add_y hq4]
      have eM : f_M_isSingle N2 (f_M_parse N2 mk mv (DM + 1)) (nI t) (nI δ) mk mm mv (nI q) mo mw ma = some (1, nI (t + 1 + 1), nI δ, upd mm (t + 1) 12, nI (q + 1), upd mo q 18, upd mw q (nI (t + 1)), upd ma q (nI (t + 1 + 1))) := by
        unfold f_M_isSingle
        simp only [g1, g2, hk, if_neg (show ¬ (18 : Int32) = 20 by decide), if_neg (show ¬ (18 : Int32) = 91 by decide), if_neg (show ¬ (18 : Int32) = 17 by decide), if_neg (show ¬ (18 : Int32) = 13 by decide), if_neg (show ¬ (18 : Int32) = 19 by decide), if_true, ab, oB_s, zb1]
      
      rw [eX, eM]
      exact out_push H4 hTS (by omega) (by omega) w2 (fun j c1 c2 => by rw [upd_ne (by omega)]; exact hz j (by omega) c2) (fun h0 => ⟨(w3 h0).1, fun j hj => upd_ne (by omega), str_name (by decide) (by decide) (fun P a => by unfold SF; simp) (by omega) (by omega)⟩) (fun i hi => upd_lt hi) (fun _ => rfl)
    · have ab := about1 H (mm := mm) (mo := mo) (mw := mw) (ma := ma) (as := 12) (show t + 1 ≤ T by omega) hq4 (show ¬ (18 : Int32) = 14 by decide) (show ¬ (18 : Int32) = 15 by decide)
      rw [if_neg hk1] at ab
      have eX : f_Re_readSingle N1 (f_Re_parse N1 xk xs xn xw xec xew xtc xtw (DX + 1)) (nI t) (xk t) (nI δ) e ep xk xs xn xw (nI q) sk sp xec xew xtc xtw = some (nI (t + 1), 133, nI δ, 1, mf (t + 1), nI (q + 1), upd sk q 218, upd sp q (-1)) := by
        unfold f_Re_readSingle
        simp only [hx, if_neg (show ¬ (218 : Int32) = 91 by decide), if_neg (show ¬ (218 : Int32) = 213 by decide), if_neg (show ¬ (218 : Int32) = 217 by decide), if_neg (show ¬ (218 : Int32) = 219 by decide), if_neg (show ¬ (218 : Int32) = 220 by decide), if_true, adv H ht, oB_s, known_tF H (show t + 1 ≤ T by omega) hk1 he1, add_y hq4]
      have eM : f_M_isSingle N2 (f_M_parse N2 mk mv (DM + 1)) (nI t) (nI δ) mk mm mv (nI q) mo mw ma = some (0, nI (t + 1), nI δ, upd mm (t + 1) 12, nI q, mo, mw, ma) := by
        unfold f_M_isSingle
        simp only [g1, g2, hk, if_neg (show ¬ (18 : Int32) = 20 by decide), if_neg (show ¬ (18 : Int32) = 91 by decide), if_neg (show ¬ (18 : Int32) = 17 by decide), if_neg (show ¬ (18 : Int32) = 13 by decide), if_neg (show ¬ (18 : Int32) = 19 by decide), if_true, ab, oB_s, zb0]
      
      rw [eX, eM]
      exact out_fail (by omega)
  have n18 := hk
  clear hk
  by_cases hk : mk t = 13
  · have hx : xk t = 213 := by rw [a1]; exact (km_all2 _ a2).2.2.2.2.1.mpr hk
    have ht : t < T := tk_lt H hT (by rw [hk]; decide) (by rw [hk]; decide)
    have hq4 : q < 400 := by omega
    have En := err_skip hq ht hTS.2.2.1 (hz t (Nat.le_refl _) (by omega))
    by_cases hk1 : mk (t + 1) = 30
    · have ht1 : t + 1 < T := tk_lt H (by omega) (by rw [hk1]; decide) (by rw [hk1]; decide)
      obtain ⟨r, e2, ep2, w1, w2, w3⟩ := known_t H hq ht1 hk1 En
      have ab := about1 H (mm := mm) (mo := mo) (mw := mw) (ma := ma) (as := 12) (show t + 1 ≤ T by omega) hq4 (show ¬ (13 : Int32) = 14 by decide) (show ¬ (13 : Int32) = 15 by decide)
      rw [if_pos hk1] at ab
      have eX : f_Re_readSingle N1 (f_Re_parse N1 xk xs xn xw xec xew xtc xtw (DX + 1)) (nI t) (xk t) (nI δ) e ep xk xs xn xw (nI q) sk sp xec xew xtc xtw = some (nI (t + 1 + 1), xk (t + 1 + 1), nI δ, e2, ep2, nI (q + 1), upd sk q 213, upd sp q r) := by
        unfold f_Re_readSingle
        simp only [hx, if_neg (show ¬ (213 : Int32) = 91 by decide), if_neg (show ¬ (213 : Int32) = 217 by decide), if_neg (show ¬ (213 : Int32) = 218 by decide), if_neg (show ¬ (213 : Int32) = 219 by decide), if_neg (show ¬ (213 : Int32) = 220 by decide), if_true, adv H ht, oB_s, w1, add_y hq4]
      have eM : f_M_isSingle N2 (f_M_parse N2 mk mv (DM + 1)) (nI t) (nI δ) mk mm mv (nI q) mo mw ma = some (1, nI (t + 1 + 1), nI δ, upd mm (t + 1) 12, nI (q + 1), upd mo q 13, upd mw q (nI (t + 1)), upd ma q (nI (t + 1 + 1))) := by
        unfold f_M_isSingle
        simp only [g1, g2, hk, if_neg (show ¬ (13 : Int32) = 20 by decide), if_neg (show ¬ (13 : Int32) = 91 by decide), if_neg (show ¬ (13 : Int32) = 17 by decide), if_neg (show ¬ (13 : Int32) = 18 by decide), if_neg (show ¬ (13 : Int32) = 19 by decide), if_true, ab, oB_s, zb1]
      
      rw [eX, eM]
      exact out_push H4 hTS (by omega) (by omega) w2 (fun j c1 c2 => by rw [upd_ne (by omega)]; exact hz j (by omega) c2) (fun h0 => ⟨(w3 h0).1, fun j hj => upd_ne (by omega), str_name (by decide) (by decide) (fun P a => by unfold SF; simp) (by omega) (by omega)⟩) (fun i hi => upd_lt hi) (fun _ => rfl)
    · have ab := about1 H (mm := mm) (mo := mo) (mw := mw) (ma := ma) (as := 12) (show t + 1 ≤ T by omega) hq4 (show ¬ (13 : Int32) = 14 by decide) (show ¬ (13 : Int32) = 15 by decide)
      rw [if_neg hk1] at ab
      have eX : f_Re_readSingle N1 (f_Re_parse N1 xk xs xn xw xec xew xtc xtw (DX + 1)) (nI t) (xk t) (nI δ) e ep xk xs xn xw (nI q) sk sp xec xew xtc xtw = some (nI (t + 1), 133, nI δ, 1, mf (t + 1), nI (q + 1), upd sk q 213, upd sp q (-1)) := by
        unfold f_Re_readSingle
        simp only [hx, if_neg (show ¬ (213 : Int32) = 91 by decide), if_neg (show ¬ (213 : Int32) = 217 by decide), if_neg (show ¬ (213 : Int32) = 218 by decide), if_neg (show ¬ (213 : Int32) = 219 by decide), if_neg (show ¬ (213 : Int32) = 220 by decide), if_true, adv H ht, oB_s, known_tF H (show t + 1 ≤ T by omega) hk1 he1, add_y hq4]
      have eM : f_M_isSingle N2 (f_M_parse N2 mk mv (DM + 1)) (nI t) (nI δ) mk mm mv (nI q) mo mw ma = some (0, nI (t + 1), nI δ, upd mm (t + 1) 12, nI q, mo, mw, ma) := by
        unfold f_M_isSingle
        simp only [g1, g2, hk, if_neg (show ¬ (13 : Int32) = 20 by decide), if_neg (show ¬ (13 : Int32) = 91 by decide), if_neg (show ¬ (13 : Int32) = 17 by decide), if_neg (show ¬ (13 : Int32) = 18 by decide), if_neg (show ¬ (13 : Int32) = 19 by decide), if_true, ab, oB_s, zb0]
      
      rw [eX, eM]
      exact out_fail (by omega)
  have n13 := hk
  clear hk
  by_cases hk : mk t = 19
  · have hx : xk t = 219 := by rw [a1]; exact (km_all2 _ a2).2.2.2.2.2.2.2.2.2.2.1.mpr hk
    have ht : t < T := tk_lt H hT (by rw [hk]; decide) (by rw [hk]; decide)
    have hq4 : q < 400 := by omega
    have En := err_skip hq ht hTS.2.2.1 (hz t (Nat.le_refl _) (by omega))
    by_cases hk1 : mk (t + 1) = 30
    · have ht1 : t + 1 < T := tk_lt H (by omega) (by rw [hk1]; decide) (by rw [hk1]; decide)
      obtain ⟨r, e2, ep2, w1, w2, w3⟩ := known_e H hq ht1 hk1 En
      have ab := about1 H (mm := mm) (mo := mo) (mw := mw) (ma := ma) (as := 11) (show t + 1 ≤ T by omega) hq4 (show ¬ (19 : Int32) = 14 by decide) (show ¬ (19 : Int32) = 15 by decide)
      rw [if_pos hk1] at ab
      have eX : f_Re_readSingle N1 (f_Re_parse N1 xk xs xn xw xec xew xtc xtw (DX + 1)) (nI t) (xk t) (nI δ) e ep xk xs xn xw (nI q) sk sp xec xew xtc xtw = some (nI (t + 1 + 1), xk (t + 1 + 1), nI δ, e2, ep2, nI (q + 1), upd sk q 219, upd sp q r) := by
        unfold f_Re_readSingle
        simp only [hx, if_neg (show ¬ (219 : Int32) = 91 by decide), if_neg (show ¬ (219 : Int32) = 213 by decide), if_neg (show ¬ (219 : Int32) = 217 by decide), if_neg (show ¬ (219 : Int32) = 218 by decide), if_neg (show ¬ (219 : Int32) = 220 by decide), if_true, adv H ht, oB_s, w1, add_y hq4]
      have eM : f_M_isSingle N2 (f_M_parse N2 mk mv (DM + 1)) (nI t) (nI δ) mk mm mv (nI q) mo mw ma = some (1, nI (t + 1 + 1), nI δ, upd mm (t + 1) 11, nI (q + 1), upd mo q 19, upd mw q (nI (t + 1)), upd ma q (nI (t + 1 + 1))) := by
        unfold f_M_isSingle
        simp only [g1, g2, hk, if_neg (show ¬ (19 : Int32) = 20 by decide), if_neg (show ¬ (19 : Int32) = 91 by decide), if_neg (show ¬ (19 : Int32) = 17 by decide), if_neg (show ¬ (19 : Int32) = 18 by decide), if_neg (show ¬ (19 : Int32) = 13 by decide), if_true, ab, oB_s, zb1]
      
      rw [eX, eM]
      exact out_push H4 hTS (by omega) (by omega) w2 (fun j c1 c2 => by rw [upd_ne (by omega)]; exact hz j (by omega) c2) (fun h0 => ⟨(w3 h0).1, fun j hj => upd_ne (by omega), str_name (by decide) (by decide) (fun P a => by unfold SF; simp) (by omega) (by omega)⟩) (fun i hi => upd_lt hi) (fun _ => rfl)
    · have ab := about1 H (mm := mm) (mo := mo) (mw := mw) (ma := ma) (as := 11) (show t + 1 ≤ T by omega) hq4 (show ¬ (19 : Int32) = 14 by decide) (show ¬ (19 : Int32) = 15 by decide)
      rw [if_neg hk1] at ab
      have eX : f_Re_readSingle N1 (f_Re_parse N1 xk xs xn xw xec xew xtc xtw (DX + 1)) (nI t) (xk t) (nI δ) e ep xk xs xn xw (nI q) sk sp xec xew xtc xtw = some (nI (t + 1), 133, nI δ, 1, mf (t + 1), nI (q + 1), upd sk q 219, upd sp q (-1)) := by
        unfold f_Re_readSingle
        simp only [hx, if_neg (show ¬ (219 : Int32) = 91 by decide), if_neg (show ¬ (219 : Int32) = 213 by decide), if_neg (show ¬ (219 : Int32) = 217 by decide), if_neg (show ¬ (219 : Int32) = 218 by decide), if_neg (show ¬ (219 : Int32) = 220 by decide), if_true, adv H ht, oB_s, known_eF H (show t + 1 ≤ T by omega) hk1 he1, add_y hq4]
      have eM : f_M_isSingle N2 (f_M_parse N2 mk mv (DM + 1)) (nI t) (nI δ) mk mm mv (nI q) mo mw ma = some (0, nI (t + 1), nI δ, upd mm (t + 1) 11, nI q, mo, mw, ma) := by
        unfold f_M_isSingle
        simp only [g1, g2, hk, if_neg (show ¬ (19 : Int32) = 20 by decide), if_neg (show ¬ (19 : Int32) = 91 by decide), if_neg (show ¬ (19 : Int32) = 17 by decide), if_neg (show ¬ (19 : Int32) = 18 by decide), if_neg (show ¬ (19 : Int32) = 13 by decide), if_true, ab, oB_s, zb0]
      
      rw [eX, eM]
      exact out_fail (by omega)
  have n19 := hk
  clear hk
  have nx91 : ¬ xk t = 91 := by rw [a1]; exact fun h9 => n91 ((km_all _ a2).2.2.1.mp h9)
  have nx213 : ¬ xk t = 213 := by rw [a1]; exact fun h9 => n13 ((km_all2 _ a2).2.2.2.2.1.mp h9)
  have nx217 : ¬ xk t = 217 := by rw [a1]; exact fun h9 => n17 ((km_all2 _ a2).2.2.2.2.2.2.2.2.1.mp h9)
  have nx218 : ¬ xk t = 218 := by rw [a1]; exact fun h9 => n18 ((km_all2 _ a2).2.2.2.2.2.2.2.2.2.1.mp h9)
  have nx219 : ¬ xk t = 219 := by rw [a1]; exact fun h9 => n19 ((km_all2 _ a2).2.2.2.2.2.2.2.2.2.2.1.mp h9)
  have nx220 : ¬ xk t = 220 := by rw [a1]; exact fun h9 => n20 ((km_all2 _ a2).2.2.2.2.2.2.2.2.2.2.2.1.mp h9)
  rcases H4' δ (DX + 1) DM hδ (by omega) (by omega) (by omega) t q e ep mm who sk sp mo mw ma hTS with ⟨t1, q1, e1, ep1, mm1, who1, sk1, sp1, mo1, mw1, ma1, x1, m1, T1, l1, l2, l3, ty1, fr1⟩ | ⟨t1, a, dp, sc, sk1, sp1, dm, mm1, q1, mo1, mw1, ma1, x1, m1, l1⟩
  · have hT1 := T1.1
    obtain ⟨c1, c2, -⟩ := H.2.1 t1 hT1
    have h1 : ib (nI t1) 401 = true := ib_nI (by omega) (by decide)
    have h2 : (nI t1).toNatClampNeg = t1 := nI_clamp (by omega)
    by_cases hc : mk t1 = 60
    · have hxc : xk t1 = 60 := by rw [c1]; exact (km_all _ c2).2.2.2.2.2.2.2.2.2.2.1.mpr hc
      have htc : t1 < T := tk_lt H hT1 (by rw [hc]; decide) (by rw [hc]; decide)
      rcases H4' δ DX DM hδ (by omega) (by omega) (by omega) (t1 + 1) q1 e1 ep1 mm1 who1 sk1 sp1 mo1 mw1 ma1 (ts_next hq H4 T1 htc) with ⟨t2, q2, e2, ep2, mm2, who2, sk2, sp2, mo2, mw2, ma2, x2, m2, T2, l4, l5, l6, ty2, fr2⟩ | ⟨t2, a, dp, sc, sk2, sp2, dm, mm2, q2, mo2, mw2, ma2, x2, m2, l4⟩
      · have hT2 := T2.1
        have hqq := T1.2.1
        have hq2 : q2 < 400 := by omega
        have eR : f_Re_parse N1 xk xs xn xw xec xew xtc xtw (DX + 1) 3 0 0 (nI t1, xk t1, nI δ, e1, ep1, nI q1, sk1, sp1) = some (nI t2, xk t2, nI δ, e2, ep2, nI (q2 + 1), upd sk2 q2 60, upd sp2 q2 0) := by
          show f_Re_readCompared N1 (f_Re_parse N1 xk xs xn xw xec xew xtc xtw DX) (nI t1) (xk t1) (nI δ) (e1) (ep1) xk xs xn xw (nI q1) sk1 sp1 xec xew xtc xtw = _
          unfold f_Re_readCompared
          simp only [hxc, if_neg (show ¬ (60 : Int32) = 62 by decide), if_neg (show ¬ (60 : Int32) = 61 by decide), if_neg (show ¬ (60 : Int32) = 128 by decide), if_neg (show ¬ (60 : Int32) = 129 by decide), if_true, adv H htc, oB_s, x2, add_y hq2]
        have eN : f_M_parse N2 mk mv (DM + 1) 3 0 0 (nI t, nI δ, mm, nI q, mo, mw, ma) = some (1, nI t2, nI δ, mm2, nI (q2 + 1), upd mo2 q2 106, upd mw2 q2 0, ma2) := by
          show f_M_isCompare N2 (f_M_parse N2 mk mv DM) (nI t) (nI δ) mk mm mv (nI q) mo mw ma = _
          unfold f_M_isCompare
          simp only [m1, oB_s, if_neg n10, h1, h2, hc, if_neg (show ¬ (60 : Int32) = 62 by decide), if_neg (show ¬ (60 : Int32) = 61 by decide), if_neg (show ¬ (60 : Int32) = 316 by decide), if_neg (show ¬ (60 : Int32) = 318 by decide), if_true, ← nI_succ, m2, put_y hq2]
        have eX : f_Re_readSingle N1 (f_Re_parse N1 xk xs xn xw xec xew xtc xtw (DX + 1)) (nI t) (xk t) (nI δ) e ep xk xs xn xw (nI q) sk sp xec xew xtc xtw = some (nI t2, xk t2, nI δ, e2, ep2, nI (q2 + 1), upd sk2 q2 60, upd sp2 q2 0) := by
          unfold f_Re_readSingle
          simp only [if_neg nx91, if_neg nx213, if_neg nx217, if_neg nx218, if_neg nx219, if_neg nx220, x1, oB_s, eR]
        have eM : f_M_isSingle N2 (f_M_parse N2 mk mv (DM + 1)) (nI t) (nI δ) mk mm mv (nI q) mo mw ma = some (1, nI t2, nI δ, mm2, nI (q2 + 1), upd mo2 q2 106, upd mw2 q2 0, ma2) := by
          unfold f_M_isSingle
          simp only [g1, g2, if_true, if_neg n20, if_neg n91, if_neg n17, if_neg n18, if_neg n13, if_neg n19, eN, oB_s, zb1]
        rw [eX, eM]
        exact Or.inl ⟨t2, q2 + 1, e2, ep2, mm2, who2, _, _, _, _, ma2, rfl, rfl, ts_push H4 T2 (Nat.le_refl _) (by omega) T2.1 T2.2.2.1 T2.2.2.2.1 (fun h0 => ⟨h0, fun _ _ => rfl, ⟨Or.inr (Or.inr (Or.inr (by unfold SB; decide))), fun h9 => absurd h9 (by decide), fun h9 => absurd h9 (by decide)⟩⟩) (fun _ _ => rfl), by omega, by omega, by omega, ty_bin l2 l5 ty1 ty2 fr2 (fun _ => rfl), fun i hi => by rw [upd_lt (show i < q2 by omega), fr2 i (by omega)]; exact fr1 i hi⟩
      · obtain ⟨z1, z2, z3, z4⟩ := addSome sc sk2 sp2 60 0
        have eR : f_Re_parse N1 xk xs xn xw xec xew xtc xtw (DX + 1) 3 0 0 (nI t1, xk t1, nI δ, e1, ep1, nI q1, sk1, sp1) = some (a, 133, dp, 1, mf t2, z1, z2, z3) := by
          show f_Re_readCompared N1 (f_Re_parse N1 xk xs xn xw xec xew xtc xtw DX) (nI t1) (xk t1) (nI δ) (e1) (ep1) xk xs xn xw (nI q1) sk1 sp1 xec xew xtc xtw = _
          unfold f_Re_readCompared
          simp only [hxc, if_neg (show ¬ (60 : Int32) = 62 by decide), if_neg (show ¬ (60 : Int32) = 61 by decide), if_neg (show ¬ (60 : Int32) = 128 by decide), if_neg (show ¬ (60 : Int32) = 129 by decide), if_true, adv H htc, oB_s, x2, z4]
        have eN : f_M_parse N2 mk mv (DM + 1) 3 0 0 (nI t, nI δ, mm, nI q, mo, mw, ma) = some (0, nI t2, dm, mm2, q2, mo2, mw2, ma2) := by
          show f_M_isCompare N2 (f_M_parse N2 mk mv DM) (nI t) (nI δ) mk mm mv (nI q) mo mw ma = _
          unfold f_M_isCompare
          simp only [m1, oB_s, if_neg n10, h1, h2, hc, if_neg (show ¬ (60 : Int32) = 62 by decide), if_neg (show ¬ (60 : Int32) = 61 by decide), if_neg (show ¬ (60 : Int32) = 316 by decide), if_neg (show ¬ (60 : Int32) = 318 by decide), if_true, ← nI_succ, m2]
        have eX : f_Re_readSingle N1 (f_Re_parse N1 xk xs xn xw xec xew xtc xtw (DX + 1)) (nI t) (xk t) (nI δ) e ep xk xs xn xw (nI q) sk sp xec xew xtc xtw = some (a, 133, dp, 1, mf t2, z1, z2, z3) := by
          unfold f_Re_readSingle
          simp only [if_neg nx91, if_neg nx213, if_neg nx217, if_neg nx218, if_neg nx219, if_neg nx220, x1, oB_s, eR]
        have eM : f_M_isSingle N2 (f_M_parse N2 mk mv (DM + 1)) (nI t) (nI δ) mk mm mv (nI q) mo mw ma = some (0, nI t2, dm, mm2, q2, mo2, mw2, ma2) := by
          unfold f_M_isSingle
          simp only [g1, g2, if_true, if_neg n20, if_neg n91, if_neg n17, if_neg n18, if_neg n13, if_neg n19, eN, oB_s, zb0]
        rw [eX, eM]
        exact out_fail l4
    have nc60 := hc
    clear hc
    by_cases hc : mk t1 = 62
    · have hxc : xk t1 = 62 := by rw [c1]; exact (km_all _ c2).2.2.2.2.2.2.2.2.2.2.2.1.mpr hc
      have htc : t1 < T := tk_lt H hT1 (by rw [hc]; decide) (by rw [hc]; decide)
      rcases H4' δ DX DM hδ (by omega) (by omega) (by omega) (t1 + 1) q1 e1 ep1 mm1 who1 sk1 sp1 mo1 mw1 ma1 (ts_next hq H4 T1 htc) with ⟨t2, q2, e2, ep2, mm2, who2, sk2, sp2, mo2, mw2, ma2, x2, m2, T2, l4, l5, l6, ty2, fr2⟩ | ⟨t2, a, dp, sc, sk2, sp2, dm, mm2, q2, mo2, mw2, ma2, x2, m2, l4⟩
      · have hT2 := T2.1
        have hqq := T1.2.1
        have hq2 : q2 < 400 := by omega
        have eR : f_Re_parse N1 xk xs xn xw xec xew xtc xtw (DX + 1) 3 0 0 (nI t1, xk t1, nI δ, e1, ep1, nI q1, sk1, sp1) = some (nI t2, xk t2, nI δ, e2, ep2, nI (q2 + 1), upd sk2 q2 62, upd sp2 q2 0) := by
          show f_Re_readCompared N1 (f_Re_parse N1 xk xs xn xw xec xew xtc xtw DX) (nI t1) (xk t1) (nI δ) (e1) (ep1) xk xs xn xw (nI q1) sk1 sp1 xec xew xtc xtw = _
          unfold f_Re_readCompared
          simp only [hxc, if_neg (show ¬ (62 : Int32) = 60 by decide), if_neg (show ¬ (62 : Int32) = 61 by decide), if_neg (show ¬ (62 : Int32) = 128 by decide), if_neg (show ¬ (62 : Int32) = 129 by decide), if_true, adv H htc, oB_s, x2, add_y hq2]
        have eN : f_M_parse N2 mk mv (DM + 1) 3 0 0 (nI t, nI δ, mm, nI q, mo, mw, ma) = some (1, nI t2, nI δ, mm2, nI (q2 + 1), upd mo2 q2 107, upd mw2 q2 0, ma2) := by
          show f_M_isCompare N2 (f_M_parse N2 mk mv DM) (nI t) (nI δ) mk mm mv (nI q) mo mw ma = _
          unfold f_M_isCompare
          simp only [m1, oB_s, if_neg n10, h1, h2, hc, if_neg (show ¬ (62 : Int32) = 60 by decide), if_neg (show ¬ (62 : Int32) = 61 by decide), if_neg (show ¬ (62 : Int32) = 316 by decide), if_neg (show ¬ (62 : Int32) = 318 by decide), if_true, ← nI_succ, m2, put_y hq2]
        have eX : f_Re_readSingle N1 (f_Re_parse N1 xk xs xn xw xec xew xtc xtw (DX + 1)) (nI t) (xk t) (nI δ) e ep xk xs xn xw (nI q) sk sp xec xew xtc xtw = some (nI t2, xk t2, nI δ, e2, ep2, nI (q2 + 1), upd sk2 q2 62, upd sp2 q2 0) := by
          unfold f_Re_readSingle
          simp only [if_neg nx91, if_neg nx213, if_neg nx217, if_neg nx218, if_neg nx219, if_neg nx220, x1, oB_s, eR]
        have eM : f_M_isSingle N2 (f_M_parse N2 mk mv (DM + 1)) (nI t) (nI δ) mk mm mv (nI q) mo mw ma = some (1, nI t2, nI δ, mm2, nI (q2 + 1), upd mo2 q2 107, upd mw2 q2 0, ma2) := by
          unfold f_M_isSingle
          simp only [g1, g2, if_true, if_neg n20, if_neg n91, if_neg n17, if_neg n18, if_neg n13, if_neg n19, eN, oB_s, zb1]
        rw [eX, eM]
        exact Or.inl ⟨t2, q2 + 1, e2, ep2, mm2, who2, _, _, _, _, ma2, rfl, rfl, ts_push H4 T2 (Nat.le_refl _) (by omega) T2.1 T2.2.2.1 T2.2.2.2.1 (fun h0 => ⟨h0, fun _ _ => rfl, ⟨Or.inr (Or.inr (Or.inr (by unfold SB; decide))), fun h9 => absurd h9 (by decide), fun h9 => absurd h9 (by decide)⟩⟩) (fun _ _ => rfl), by omega, by omega, by omega, ty_bin l2 l5 ty1 ty2 fr2 (fun _ => rfl), fun i hi => by rw [upd_lt (show i < q2 by omega), fr2 i (by omega)]; exact fr1 i hi⟩
      · obtain ⟨z1, z2, z3, z4⟩ := addSome sc sk2 sp2 62 0
        have eR : f_Re_parse N1 xk xs xn xw xec xew xtc xtw (DX + 1) 3 0 0 (nI t1, xk t1, nI δ, e1, ep1, nI q1, sk1, sp1) = some (a, 133, dp, 1, mf t2, z1, z2, z3) := by
          show f_Re_readCompared N1 (f_Re_parse N1 xk xs xn xw xec xew xtc xtw DX) (nI t1) (xk t1) (nI δ) (e1) (ep1) xk xs xn xw (nI q1) sk1 sp1 xec xew xtc xtw = _
          unfold f_Re_readCompared
          simp only [hxc, if_neg (show ¬ (62 : Int32) = 60 by decide), if_neg (show ¬ (62 : Int32) = 61 by decide), if_neg (show ¬ (62 : Int32) = 128 by decide), if_neg (show ¬ (62 : Int32) = 129 by decide), if_true, adv H htc, oB_s, x2, z4]
        have eN : f_M_parse N2 mk mv (DM + 1) 3 0 0 (nI t, nI δ, mm, nI q, mo, mw, ma) = some (0, nI t2, dm, mm2, q2, mo2, mw2, ma2) := by
          show f_M_isCompare N2 (f_M_parse N2 mk mv DM) (nI t) (nI δ) mk mm mv (nI q) mo mw ma = _
          unfold f_M_isCompare
          simp only [m1, oB_s, if_neg n10, h1, h2, hc, if_neg (show ¬ (62 : Int32) = 60 by decide), if_neg (show ¬ (62 : Int32) = 61 by decide), if_neg (show ¬ (62 : Int32) = 316 by decide), if_neg (show ¬ (62 : Int32) = 318 by decide), if_true, ← nI_succ, m2]
        have eX : f_Re_readSingle N1 (f_Re_parse N1 xk xs xn xw xec xew xtc xtw (DX + 1)) (nI t) (xk t) (nI δ) e ep xk xs xn xw (nI q) sk sp xec xew xtc xtw = some (a, 133, dp, 1, mf t2, z1, z2, z3) := by
          unfold f_Re_readSingle
          simp only [if_neg nx91, if_neg nx213, if_neg nx217, if_neg nx218, if_neg nx219, if_neg nx220, x1, oB_s, eR]
        have eM : f_M_isSingle N2 (f_M_parse N2 mk mv (DM + 1)) (nI t) (nI δ) mk mm mv (nI q) mo mw ma = some (0, nI t2, dm, mm2, q2, mo2, mw2, ma2) := by
          unfold f_M_isSingle
          simp only [g1, g2, if_true, if_neg n20, if_neg n91, if_neg n17, if_neg n18, if_neg n13, if_neg n19, eN, oB_s, zb0]
        rw [eX, eM]
        exact out_fail l4
    have nc62 := hc
    clear hc
    by_cases hc : mk t1 = 61
    · have hxc : xk t1 = 61 := by rw [c1]; exact (km_all _ c2).2.2.2.2.2.2.2.2.2.2.2.2.1.mpr hc
      have htc : t1 < T := tk_lt H hT1 (by rw [hc]; decide) (by rw [hc]; decide)
      rcases H4' δ DX DM hδ (by omega) (by omega) (by omega) (t1 + 1) q1 e1 ep1 mm1 who1 sk1 sp1 mo1 mw1 ma1 (ts_next hq H4 T1 htc) with ⟨t2, q2, e2, ep2, mm2, who2, sk2, sp2, mo2, mw2, ma2, x2, m2, T2, l4, l5, l6, ty2, fr2⟩ | ⟨t2, a, dp, sc, sk2, sp2, dm, mm2, q2, mo2, mw2, ma2, x2, m2, l4⟩
      · have hT2 := T2.1
        have hqq := T1.2.1
        have hq2 : q2 < 400 := by omega
        have eR : f_Re_parse N1 xk xs xn xw xec xew xtc xtw (DX + 1) 3 0 0 (nI t1, xk t1, nI δ, e1, ep1, nI q1, sk1, sp1) = some (nI t2, xk t2, nI δ, e2, ep2, nI (q2 + 1), upd sk2 q2 61, upd sp2 q2 0) := by
          show f_Re_readCompared N1 (f_Re_parse N1 xk xs xn xw xec xew xtc xtw DX) (nI t1) (xk t1) (nI δ) (e1) (ep1) xk xs xn xw (nI q1) sk1 sp1 xec xew xtc xtw = _
          unfold f_Re_readCompared
          simp only [hxc, if_neg (show ¬ (61 : Int32) = 60 by decide), if_neg (show ¬ (61 : Int32) = 62 by decide), if_neg (show ¬ (61 : Int32) = 128 by decide), if_neg (show ¬ (61 : Int32) = 129 by decide), if_true, adv H htc, oB_s, x2, add_y hq2]
        have eN : f_M_parse N2 mk mv (DM + 1) 3 0 0 (nI t, nI δ, mm, nI q, mo, mw, ma) = some (1, nI t2, nI δ, mm2, nI (q2 + 1), upd mo2 q2 108, upd mw2 q2 0, ma2) := by
          show f_M_isCompare N2 (f_M_parse N2 mk mv DM) (nI t) (nI δ) mk mm mv (nI q) mo mw ma = _
          unfold f_M_isCompare
          simp only [m1, oB_s, if_neg n10, h1, h2, hc, if_neg (show ¬ (61 : Int32) = 60 by decide), if_neg (show ¬ (61 : Int32) = 62 by decide), if_neg (show ¬ (61 : Int32) = 316 by decide), if_neg (show ¬ (61 : Int32) = 318 by decide), if_true, ← nI_succ, m2, put_y hq2]
        have eX : f_Re_readSingle N1 (f_Re_parse N1 xk xs xn xw xec xew xtc xtw (DX + 1)) (nI t) (xk t) (nI δ) e ep xk xs xn xw (nI q) sk sp xec xew xtc xtw = some (nI t2, xk t2, nI δ, e2, ep2, nI (q2 + 1), upd sk2 q2 61, upd sp2 q2 0) := by
          unfold f_Re_readSingle
          simp only [if_neg nx91, if_neg nx213, if_neg nx217, if_neg nx218, if_neg nx219, if_neg nx220, x1, oB_s, eR]
        have eM : f_M_isSingle N2 (f_M_parse N2 mk mv (DM + 1)) (nI t) (nI δ) mk mm mv (nI q) mo mw ma = some (1, nI t2, nI δ, mm2, nI (q2 + 1), upd mo2 q2 108, upd mw2 q2 0, ma2) := by
          unfold f_M_isSingle
          simp only [g1, g2, if_true, if_neg n20, if_neg n91, if_neg n17, if_neg n18, if_neg n13, if_neg n19, eN, oB_s, zb1]
        rw [eX, eM]
        exact Or.inl ⟨t2, q2 + 1, e2, ep2, mm2, who2, _, _, _, _, ma2, rfl, rfl, ts_push H4 T2 (Nat.le_refl _) (by omega) T2.1 T2.2.2.1 T2.2.2.2.1 (fun h0 => ⟨h0, fun _ _ => rfl, ⟨Or.inr (Or.inr (Or.inr (by unfold SB; decide))), fun h9 => absurd h9 (by decide), fun h9 => absurd h9 (by decide)⟩⟩) (fun _ _ => rfl), by omega, by omega, by omega, ty_bin l2 l5 ty1 ty2 fr2 (fun _ => rfl), fun i hi => by rw [upd_lt (show i < q2 by omega), fr2 i (by omega)]; exact fr1 i hi⟩
      · obtain ⟨z1, z2, z3, z4⟩ := addSome sc sk2 sp2 61 0
        have eR : f_Re_parse N1 xk xs xn xw xec xew xtc xtw (DX + 1) 3 0 0 (nI t1, xk t1, nI δ, e1, ep1, nI q1, sk1, sp1) = some (a, 133, dp, 1, mf t2, z1, z2, z3) := by
          show f_Re_readCompared N1 (f_Re_parse N1 xk xs xn xw xec xew xtc xtw DX) (nI t1) (xk t1) (nI δ) (e1) (ep1) xk xs xn xw (nI q1) sk1 sp1 xec xew xtc xtw = _
          unfold f_Re_readCompared
          simp only [hxc, if_neg (show ¬ (61 : Int32) = 60 by decide), if_neg (show ¬ (61 : Int32) = 62 by decide), if_neg (show ¬ (61 : Int32) = 128 by decide), if_neg (show ¬ (61 : Int32) = 129 by decide), if_true, adv H htc, oB_s, x2, z4]
        have eN : f_M_parse N2 mk mv (DM + 1) 3 0 0 (nI t, nI δ, mm, nI q, mo, mw, ma) = some (0, nI t2, dm, mm2, q2, mo2, mw2, ma2) := by
          show f_M_isCompare N2 (f_M_parse N2 mk mv DM) (nI t) (nI δ) mk mm mv (nI q) mo mw ma = _
          unfold f_M_isCompare
          simp only [m1, oB_s, if_neg n10, h1, h2, hc, if_neg (show ¬ (61 : Int32) = 60 by decide), if_neg (show ¬ (61 : Int32) = 62 by decide), if_neg (show ¬ (61 : Int32) = 316 by decide), if_neg (show ¬ (61 : Int32) = 318 by decide), if_true, ← nI_succ, m2]
        have eX : f_Re_readSingle N1 (f_Re_parse N1 xk xs xn xw xec xew xtc xtw (DX + 1)) (nI t) (xk t) (nI δ) e ep xk xs xn xw (nI q) sk sp xec xew xtc xtw = some (a, 133, dp, 1, mf t2, z1, z2, z3) := by
          unfold f_Re_readSingle
          simp only [if_neg nx91, if_neg nx213, if_neg nx217, if_neg nx218, if_neg nx219, if_neg nx220, x1, oB_s, eR]
        have eM : f_M_isSingle N2 (f_M_parse N2 mk mv (DM + 1)) (nI t) (nI δ) mk mm mv (nI q) mo mw ma = some (0, nI t2, dm, mm2, q2, mo2, mw2, ma2) := by
          unfold f_M_isSingle
          simp only [g1, g2, if_true, if_neg n20, if_neg n91, if_neg n17, if_neg n18, if_neg n13, if_neg n19, eN, oB_s, zb0]
        rw [eX, eM]
        exact out_fail l4
    have nc61 := hc
    clear hc
    by_cases hc : mk t1 = 316
    · have hxc : xk t1 = 128 := by rw [c1]; exact (km_all _ c2).2.2.2.2.2.2.2.2.2.2.2.2.2.1.mpr hc
      have htc : t1 < T := tk_lt H hT1 (by rw [hc]; decide) (by rw [hc]; decide)
      rcases H4' δ DX DM hδ (by omega) (by omega) (by omega) (t1 + 1) q1 e1 ep1 mm1 who1 sk1 sp1 mo1 mw1 ma1 (ts_next hq H4 T1 htc) with ⟨t2, q2, e2, ep2, mm2, who2, sk2, sp2, mo2, mw2, ma2, x2, m2, T2, l4, l5, l6, ty2, fr2⟩ | ⟨t2, a, dp, sc, sk2, sp2, dm, mm2, q2, mo2, mw2, ma2, x2, m2, l4⟩
      · have hT2 := T2.1
        have hqq := T1.2.1
        have hq2 : q2 < 400 := by omega
        have eR : f_Re_parse N1 xk xs xn xw xec xew xtc xtw (DX + 1) 3 0 0 (nI t1, xk t1, nI δ, e1, ep1, nI q1, sk1, sp1) = some (nI t2, xk t2, nI δ, e2, ep2, nI (q2 + 1), upd sk2 q2 128, upd sp2 q2 0) := by
          show f_Re_readCompared N1 (f_Re_parse N1 xk xs xn xw xec xew xtc xtw DX) (nI t1) (xk t1) (nI δ) (e1) (ep1) xk xs xn xw (nI q1) sk1 sp1 xec xew xtc xtw = _
          unfold f_Re_readCompared
          simp only [hxc, if_neg (show ¬ (128 : Int32) = 60 by decide), if_neg (show ¬ (128 : Int32) = 62 by decide), if_neg (show ¬ (128 : Int32) = 61 by decide), if_neg (show ¬ (128 : Int32) = 129 by decide), if_true, adv H htc, oB_s, x2, add_y hq2]
        have eN : f_M_parse N2 mk mv (DM + 1) 3 0 0 (nI t, nI δ, mm, nI q, mo, mw, ma) = some (1, nI t2, nI δ, mm2, nI (q2 + 1), upd mo2 q2 109, upd mw2 q2 0, ma2) := by
          show f_M_isCompare N2 (f_M_parse N2 mk mv DM) (nI t) (nI δ) mk mm mv (nI q) mo mw ma = _
          unfold f_M_isCompare
          simp only [m1, oB_s, if_neg n10, h1, h2, hc, if_neg (show ¬ (316 : Int32) = 60 by decide), if_neg (show ¬ (316 : Int32) = 62 by decide), if_neg (show ¬ (316 : Int32) = 61 by decide), if_neg (show ¬ (316 : Int32) = 318 by decide), if_true, ← nI_succ, m2, put_y hq2]
        have eX : f_Re_readSingle N1 (f_Re_parse N1 xk xs xn xw xec xew xtc xtw (DX + 1)) (nI t) (xk t) (nI δ) e ep xk xs xn xw (nI q) sk sp xec xew xtc xtw = some (nI t2, xk t2, nI δ, e2, ep2, nI (q2 + 1), upd sk2 q2 128, upd sp2 q2 0) := by
          unfold f_Re_readSingle
          simp only [if_neg nx91, if_neg nx213, if_neg nx217, if_neg nx218, if_neg nx219, if_neg nx220, x1, oB_s, eR]
        have eM : f_M_isSingle N2 (f_M_parse N2 mk mv (DM + 1)) (nI t) (nI δ) mk mm mv (nI q) mo mw ma = some (1, nI t2, nI δ, mm2, nI (q2 + 1), upd mo2 q2 109, upd mw2 q2 0, ma2) := by
          unfold f_M_isSingle
          simp only [g1, g2, if_true, if_neg n20, if_neg n91, if_neg n17, if_neg n18, if_neg n13, if_neg n19, eN, oB_s, zb1]
        rw [eX, eM]
        exact Or.inl ⟨t2, q2 + 1, e2, ep2, mm2, who2, _, _, _, _, ma2, rfl, rfl, ts_push H4 T2 (Nat.le_refl _) (by omega) T2.1 T2.2.2.1 T2.2.2.2.1 (fun h0 => ⟨h0, fun _ _ => rfl, ⟨Or.inr (Or.inr (Or.inr (by unfold SB; decide))), fun h9 => absurd h9 (by decide), fun h9 => absurd h9 (by decide)⟩⟩) (fun _ _ => rfl), by omega, by omega, by omega, ty_bin l2 l5 ty1 ty2 fr2 (fun _ => rfl), fun i hi => by rw [upd_lt (show i < q2 by omega), fr2 i (by omega)]; exact fr1 i hi⟩
      · obtain ⟨z1, z2, z3, z4⟩ := addSome sc sk2 sp2 128 0
        have eR : f_Re_parse N1 xk xs xn xw xec xew xtc xtw (DX + 1) 3 0 0 (nI t1, xk t1, nI δ, e1, ep1, nI q1, sk1, sp1) = some (a, 133, dp, 1, mf t2, z1, z2, z3) := by
          show f_Re_readCompared N1 (f_Re_parse N1 xk xs xn xw xec xew xtc xtw DX) (nI t1) (xk t1) (nI δ) (e1) (ep1) xk xs xn xw (nI q1) sk1 sp1 xec xew xtc xtw = _
          unfold f_Re_readCompared
          simp only [hxc, if_neg (show ¬ (128 : Int32) = 60 by decide), if_neg (show ¬ (128 : Int32) = 62 by decide), if_neg (show ¬ (128 : Int32) = 61 by decide), if_neg (show ¬ (128 : Int32) = 129 by decide), if_true, adv H htc, oB_s, x2, z4]
        have eN : f_M_parse N2 mk mv (DM + 1) 3 0 0 (nI t, nI δ, mm, nI q, mo, mw, ma) = some (0, nI t2, dm, mm2, q2, mo2, mw2, ma2) := by
          show f_M_isCompare N2 (f_M_parse N2 mk mv DM) (nI t) (nI δ) mk mm mv (nI q) mo mw ma = _
          unfold f_M_isCompare
          simp only [m1, oB_s, if_neg n10, h1, h2, hc, if_neg (show ¬ (316 : Int32) = 60 by decide), if_neg (show ¬ (316 : Int32) = 62 by decide), if_neg (show ¬ (316 : Int32) = 61 by decide), if_neg (show ¬ (316 : Int32) = 318 by decide), if_true, ← nI_succ, m2]
        have eX : f_Re_readSingle N1 (f_Re_parse N1 xk xs xn xw xec xew xtc xtw (DX + 1)) (nI t) (xk t) (nI δ) e ep xk xs xn xw (nI q) sk sp xec xew xtc xtw = some (a, 133, dp, 1, mf t2, z1, z2, z3) := by
          unfold f_Re_readSingle
          simp only [if_neg nx91, if_neg nx213, if_neg nx217, if_neg nx218, if_neg nx219, if_neg nx220, x1, oB_s, eR]
        have eM : f_M_isSingle N2 (f_M_parse N2 mk mv (DM + 1)) (nI t) (nI δ) mk mm mv (nI q) mo mw ma = some (0, nI t2, dm, mm2, q2, mo2, mw2, ma2) := by
          unfold f_M_isSingle
          simp only [g1, g2, if_true, if_neg n20, if_neg n91, if_neg n17, if_neg n18, if_neg n13, if_neg n19, eN, oB_s, zb0]
        rw [eX, eM]
        exact out_fail l4
    have nc316 := hc
    clear hc
    by_cases hc : mk t1 = 318
    · have hxc : xk t1 = 129 := by rw [c1]; exact (km_all _ c2).2.2.2.2.2.2.2.2.2.2.2.2.2.2.mpr hc
      have htc : t1 < T := tk_lt H hT1 (by rw [hc]; decide) (by rw [hc]; decide)
      rcases H4' δ DX DM hδ (by omega) (by omega) (by omega) (t1 + 1) q1 e1 ep1 mm1 who1 sk1 sp1 mo1 mw1 ma1 (ts_next hq H4 T1 htc) with ⟨t2, q2, e2, ep2, mm2, who2, sk2, sp2, mo2, mw2, ma2, x2, m2, T2, l4, l5, l6, ty2, fr2⟩ | ⟨t2, a, dp, sc, sk2, sp2, dm, mm2, q2, mo2, mw2, ma2, x2, m2, l4⟩
      · have hT2 := T2.1
        have hqq := T1.2.1
        have hq2 : q2 < 400 := by omega
        have eR : f_Re_parse N1 xk xs xn xw xec xew xtc xtw (DX + 1) 3 0 0 (nI t1, xk t1, nI δ, e1, ep1, nI q1, sk1, sp1) = some (nI t2, xk t2, nI δ, e2, ep2, nI (q2 + 1), upd sk2 q2 129, upd sp2 q2 0) := by
          show f_Re_readCompared N1 (f_Re_parse N1 xk xs xn xw xec xew xtc xtw DX) (nI t1) (xk t1) (nI δ) (e1) (ep1) xk xs xn xw (nI q1) sk1 sp1 xec xew xtc xtw = _
          unfold f_Re_readCompared
          simp only [hxc, if_neg (show ¬ (129 : Int32) = 60 by decide), if_neg (show ¬ (129 : Int32) = 62 by decide), if_neg (show ¬ (129 : Int32) = 61 by decide), if_neg (show ¬ (129 : Int32) = 128 by decide), if_true, adv H htc, oB_s, x2, add_y hq2]
        have eN : f_M_parse N2 mk mv (DM + 1) 3 0 0 (nI t, nI δ, mm, nI q, mo, mw, ma) = some (1, nI t2, nI δ, mm2, nI (q2 + 1), upd mo2 q2 110, upd mw2 q2 0, ma2) := by
          show f_M_isCompare N2 (f_M_parse N2 mk mv DM) (nI t) (nI δ) mk mm mv (nI q) mo mw ma = _
          unfold f_M_isCompare
          simp only [m1, oB_s, if_neg n10, h1, h2, hc, if_neg (show ¬ (318 : Int32) = 60 by decide), if_neg (show ¬ (318 : Int32) = 62 by decide), if_neg (show ¬ (318 : Int32) = 61 by decide), if_neg (show ¬ (318 : Int32) = 316 by decide), if_true, ← nI_succ, m2, put_y hq2]
        have eX : f_Re_readSingle N1 (f_Re_parse N1 xk xs xn xw xec xew xtc xtw (DX + 1)) (nI t) (xk t) (nI δ) e ep xk xs xn xw (nI q) sk sp xec xew xtc xtw = some (nI t2, xk t2, nI δ, e2, ep2, nI (q2 + 1), upd sk2 q2 129, upd sp2 q2 0) := by
          unfold f_Re_readSingle
          simp only [if_neg nx91, if_neg nx213, if_neg nx217, if_neg nx218, if_neg nx219, if_neg nx220, x1, oB_s, eR]
        have eM : f_M_isSingle N2 (f_M_parse N2 mk mv (DM + 1)) (nI t) (nI δ) mk mm mv (nI q) mo mw ma = some (1, nI t2, nI δ, mm2, nI (q2 + 1), upd mo2 q2 110, upd mw2 q2 0, ma2) := by
          unfold f_M_isSingle
          simp only [g1, g2, if_true, if_neg n20, if_neg n91, if_neg n17, if_neg n18, if_neg n13, if_neg n19, eN, oB_s, zb1]
        rw [eX, eM]
        exact Or.inl ⟨t2, q2 + 1, e2, ep2, mm2, who2, _, _, _, _, ma2, rfl, rfl, ts_push H4 T2 (Nat.le_refl _) (by omega) T2.1 T2.2.2.1 T2.2.2.2.1 (fun h0 => ⟨h0, fun _ _ => rfl, ⟨Or.inr (Or.inr (Or.inr (by unfold SB; decide))), fun h9 => absurd h9 (by decide), fun h9 => absurd h9 (by decide)⟩⟩) (fun _ _ => rfl), by omega, by omega, by omega, ty_bin l2 l5 ty1 ty2 fr2 (fun _ => rfl), fun i hi => by rw [upd_lt (show i < q2 by omega), fr2 i (by omega)]; exact fr1 i hi⟩
      · obtain ⟨z1, z2, z3, z4⟩ := addSome sc sk2 sp2 129 0
        have eR : f_Re_parse N1 xk xs xn xw xec xew xtc xtw (DX + 1) 3 0 0 (nI t1, xk t1, nI δ, e1, ep1, nI q1, sk1, sp1) = some (a, 133, dp, 1, mf t2, z1, z2, z3) := by
          show f_Re_readCompared N1 (f_Re_parse N1 xk xs xn xw xec xew xtc xtw DX) (nI t1) (xk t1) (nI δ) (e1) (ep1) xk xs xn xw (nI q1) sk1 sp1 xec xew xtc xtw = _
          unfold f_Re_readCompared
          simp only [hxc, if_neg (show ¬ (129 : Int32) = 60 by decide), if_neg (show ¬ (129 : Int32) = 62 by decide), if_neg (show ¬ (129 : Int32) = 61 by decide), if_neg (show ¬ (129 : Int32) = 128 by decide), if_true, adv H htc, oB_s, x2, z4]
        have eN : f_M_parse N2 mk mv (DM + 1) 3 0 0 (nI t, nI δ, mm, nI q, mo, mw, ma) = some (0, nI t2, dm, mm2, q2, mo2, mw2, ma2) := by
          show f_M_isCompare N2 (f_M_parse N2 mk mv DM) (nI t) (nI δ) mk mm mv (nI q) mo mw ma = _
          unfold f_M_isCompare
          simp only [m1, oB_s, if_neg n10, h1, h2, hc, if_neg (show ¬ (318 : Int32) = 60 by decide), if_neg (show ¬ (318 : Int32) = 62 by decide), if_neg (show ¬ (318 : Int32) = 61 by decide), if_neg (show ¬ (318 : Int32) = 316 by decide), if_true, ← nI_succ, m2]
        have eX : f_Re_readSingle N1 (f_Re_parse N1 xk xs xn xw xec xew xtc xtw (DX + 1)) (nI t) (xk t) (nI δ) e ep xk xs xn xw (nI q) sk sp xec xew xtc xtw = some (a, 133, dp, 1, mf t2, z1, z2, z3) := by
          unfold f_Re_readSingle
          simp only [if_neg nx91, if_neg nx213, if_neg nx217, if_neg nx218, if_neg nx219, if_neg nx220, x1, oB_s, eR]
        have eM : f_M_isSingle N2 (f_M_parse N2 mk mv (DM + 1)) (nI t) (nI δ) mk mm mv (nI q) mo mw ma = some (0, nI t2, dm, mm2, q2, mo2, mw2, ma2) := by
          unfold f_M_isSingle
          simp only [g1, g2, if_true, if_neg n20, if_neg n91, if_neg n17, if_neg n18, if_neg n13, if_neg n19, eN, oB_s, zb0]
        rw [eX, eM]
        exact out_fail l4
    have nc318 := hc
    clear hc
    have fa := failAt (e := e1) (ep := ep1) H hT1 (xk t1) (err1 T1.2.2.1)
    have eR : f_Re_parse N1 xk xs xn xw xec xew xtc xtw (DX + 1) 3 0 0 (nI t1, xk t1, nI δ, e1, ep1, nI q1, sk1, sp1) = some (nI t1, 133, nI δ, 1, mf t1, nI q1, sk1, sp1) := by
      show f_Re_readCompared N1 (f_Re_parse N1 xk xs xn xw xec xew xtc xtw DX) (nI t1) (xk t1) (nI δ) (e1) (ep1) xk xs xn xw (nI q1) sk1 sp1 xec xew xtc xtw = _
      unfold f_Re_readCompared
      simp only [if_neg (show ¬ xk t1 = 60 from (by rw [c1]; exact fun h9 => nc60 ((km_all _ c2).2.2.2.2.2.2.2.2.2.2.1.mp h9))), if_neg (show ¬ xk t1 = 62 from (by rw [c1]; exact fun h9 => nc62 ((km_all _ c2).2.2.2.2.2.2.2.2.2.2.2.1.mp h9))), if_neg (show ¬ xk t1 = 61 from (by rw [c1]; exact fun h9 => nc61 ((km_all _ c2).2.2.2.2.2.2.2.2.2.2.2.2.1.mp h9))), if_neg (show ¬ xk t1 = 128 from (by rw [c1]; exact fun h9 => nc316 ((km_all _ c2).2.2.2.2.2.2.2.2.2.2.2.2.2.1.mp h9))), if_neg (show ¬ xk t1 = 129 from (by rw [c1]; exact fun h9 => nc318 ((km_all _ c2).2.2.2.2.2.2.2.2.2.2.2.2.2.2.mp h9))), fa, oB_s]
    have eN : f_M_parse N2 mk mv (DM + 1) 3 0 0 (nI t, nI δ, mm, nI q, mo, mw, ma) = some (0, nI t1, nI δ, mm1, nI q1, mo1, mw1, ma1) := by
      show f_M_isCompare N2 (f_M_parse N2 mk mv DM) (nI t) (nI δ) mk mm mv (nI q) mo mw ma = _
      unfold f_M_isCompare
      simp only [m1, oB_s, if_neg n10, h1, h2, if_true, if_neg nc60, if_neg nc62, if_neg nc61, if_neg nc316, if_neg nc318]
    have eX : f_Re_readSingle N1 (f_Re_parse N1 xk xs xn xw xec xew xtc xtw (DX + 1)) (nI t) (xk t) (nI δ) e ep xk xs xn xw (nI q) sk sp xec xew xtc xtw = some (nI t1, 133, nI δ, 1, mf t1, nI q1, sk1, sp1) := by
      unfold f_Re_readSingle
      simp only [if_neg nx91, if_neg nx213, if_neg nx217, if_neg nx218, if_neg nx219, if_neg nx220, x1, oB_s, eR]
    have eM : f_M_isSingle N2 (f_M_parse N2 mk mv (DM + 1)) (nI t) (nI δ) mk mm mv (nI q) mo mw ma = some (0, nI t1, nI δ, mm1, nI q1, mo1, mw1, ma1) := by
      unfold f_M_isSingle
      simp only [g1, g2, if_true, if_neg n20, if_neg n91, if_neg n17, if_neg n18, if_neg n13, if_neg n19, eN, oB_s, zb0]
    rw [eX, eM]
    exact out_fail hT1
  · obtain ⟨a2, d2, s2, k2, p2, eR⟩ := failX (xk := xk) (xs := xs) (xn := xn) (xw := xw) (xec := xec) (xew := xew) (xtc := xtc) (xtw := xtw) (N := N1) (by omega) (mf t1) (DX + 1) 3 (by decide) (show 1 ≤ DX + 1 by omega) a dp sc sk1 sp1
    have eN : f_M_parse N2 mk mv (DM + 1) 3 0 0 (nI t, nI δ, mm, nI q, mo, mw, ma) = some (0, nI t1, dm, mm1, q1, mo1, mw1, ma1) := by
      show f_M_isCompare N2 (f_M_parse N2 mk mv DM) (nI t) (nI δ) mk mm mv (nI q) mo mw ma = _
      unfold f_M_isCompare
      simp only [m1, oB_s, if_true]
    have eX : f_Re_readSingle N1 (f_Re_parse N1 xk xs xn xw xec xew xtc xtw (DX + 1)) (nI t) (xk t) (nI δ) e ep xk xs xn xw (nI q) sk sp xec xew xtc xtw = some (a2, 133, d2, 1, mf t1, s2, k2, p2) := by
      unfold f_Re_readSingle
      simp only [if_neg nx91, if_neg nx213, if_neg nx217, if_neg nx218, if_neg nx219, if_neg nx220, x1, oB_s, eR]
    have eM : f_M_isSingle N2 (f_M_parse N2 mk mv (DM + 1)) (nI t) (nI δ) mk mm mv (nI q) mo mw ma = some (0, nI t1, dm, mm1, q1, mo1, mw1, ma1) := by
      unfold f_M_isSingle
      simp only [g1, g2, if_true, if_neg n20, if_neg n91, if_neg n17, if_neg n18, if_neg n13, if_neg n19, eN, oB_s, zb0]
    rw [eX, eM]
    exact out_fail l1
theorem sim_all (H : TKs xk xs xn mk mf xw mv T) (hq : QH mk mf mv T nt ne xec xtc xew xtw Q QE) {N1 N2 : Nat} (hN1 : 500 < N1) (hN2 : 500 < N2) : ∀ m, Sim xk xs xn mk mf xw mv T nt xec xtc xew xtw Q QE N1 N2 0 true m ∧ Sim xk xs xn mk mf xw mv T nt xec xtc xew xtw Q QE N1 N2 1 true m ∧ Sim xk xs xn mk mf xw mv T nt xec xtc xew xtw Q QE N1 N2 2 true m ∧ Sim xk xs xn mk mf xw mv T nt xec xtc xew xtw Q QE N1 N2 4 false m ∧ Sim xk xs xn mk mf xw mv T nt xec xtc xew xtw Q QE N1 N2 5 false m ∧ Sim xk xs xn mk mf xw mv T nt xec xtc xew xtw Q QE N1 N2 6 false m := by
  intro m
  induction m with
  | zero =>
    have z : ∀ k b, 0 < bsN k → Sim xk xs xn mk mf xw mv T nt xec xtc xew xtw Q QE N1 N2 k b 0 := fun k b h δ DX DM h1 h2 => absurd h2 (by omega)
    exact ⟨z 0 true (by decide), z 1 true (by decide), z 2 true (by decide), z 4 false (by decide), z 5 false (by decide), z 6 false (by decide)⟩
  | succ m ih =>
    obtain ⟨i0, i1, i2, i4, i5, i6⟩ := ih
    exact ⟨sim_test H hq hN1 hN2 i1, sim_both H hq hN1 hN2 i2, sim_single H hq hN1 hN2 i0 i2 i4, sim_sum H hq hN1 hN2 i5, sim_prod H hq hN1 hN2 i6, sim_value H hq hN1 hN2 i4 i6⟩
/-- a whole test, from the outside -/
theorem test_same (H : TKs xk xs xn mk mf xw mv T) (hq : QH mk mf mv T nt ne xec xtc xew xtw Q QE) {N1 N2 : Nat} (hN1 : 500 < N1) (hN2 : 500 < N2) {t q : Nat} {e ep : Int32} {mm who sk sp mo mw ma : Nat → Int32} (hTS : TS Q QE T nt t q e ep mm who sk sp mo mw ma) :
    OutP xk mf Q QE T nt true t 0 q sk (f_Re_parse N1 xk xs xn xw xec xew xtc xtw 64 0 0 0 (nI t, xk t, nI 0, e, ep, nI q, sk, sp)) (f_M_parse N2 mk mv 64 0 0 0 (nI t, nI 0, mm, nI q, mo, mw, ma)) :=
  (sim_all H hq hN1 hN2 64).1 0 64 64 (by decide) (by decide) (by decide) (by decide) t q e ep mm who sk sp mo mw ma hTS
end PS
