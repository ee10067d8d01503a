/-! the reader: trees -/
theorem nd1 (d : Nat) : nI (d + 1) - 1 = nI d := by
  rw [show (1 : Int32) = nI 1 from rfl, tI_sub (by omega), Nat.add_sub_cancel]
theorem sh4 : ∀ n, n < 10 → ∀ m, m < 10 → (nI n <<< ((4 : Int32) &&& 31)) ||| nI m = nI (16 * n + m) := by decide +kernel
def hk (c : Int32) : Prop := ¬ c = 91 ∧ ¬ c = 213 ∧ ¬ c = 217 ∧ ¬ c = 218 ∧ ¬ c = 219 ∧ ¬ c = 220
section PR
variable {tk ts tn : Nat → Int32} {tw w1 w2 : Nat → Int64} {N ne nt D dd : Nat} {ep : Int32} {nx : Int32 → Prop} {ta tb : List Tok} {La Lb : List (Int32 × Int32)}
theorem v_num {v : Nat} : Rd tk ts tn tw w1 w2 N ne nt ep 6 (D + 1) [(3, v, 0)] [(131, nI v)] 0 any := by
  intro i d sc sk sp a1 a2 a3 a4 a5
  obtain ⟨⟨k1, k2, -⟩, -⟩ := a2
  have ek : tk i = 131 := k1
  have en : tn i = nI v := k2 rfl
  have h3 : i + 1 < 401 := a3
  have h4 : sc < 400 := a4
  rw [ek, p_6]
  unfold f_Re_readValue
  rw [if_neg (by decide), if_neg (by decide), if_pos rfl, rg (show i < 401 by omega) (by decide), en, r_add h4, oB_s, r_adv h3, oB_s]
  rfl
theorem v_210 : Rd tk ts tn tw w1 w2 N ne nt ep 6 (D + 1) [(0, 10, 1)] [(210, 0)] 0 any := by
  intro i d sc sk sp a1 a2 a3 a4 a5
  obtain ⟨⟨k1, -, -⟩, -⟩ := a2
  have ek : tk i = 210 := k1
  have h3 : i + 1 < 401 := a3
  have h4 : sc < 400 := a4
  rw [ek, p_6]
  unfold f_Re_readValue
  rw [if_neg (by decide), if_neg (by decide), if_neg (by decide), if_pos rfl, r_add h4, oB_s, r_adv h3, oB_s]
  rfl
theorem v_211 : Rd tk ts tn tw w1 w2 N ne nt ep 6 (D + 1) [(0, 11, 1)] [(211, 0)] 0 any := by
  intro i d sc sk sp a1 a2 a3 a4 a5
  obtain ⟨⟨k1, -, -⟩, -⟩ := a2
  have ek : tk i = 211 := k1
  have h3 : i + 1 < 401 := a3
  have h4 : sc < 400 := a4
  rw [ek, p_6]
  unfold f_Re_readValue
  rw [if_neg (by decide), if_neg (by decide), if_neg (by decide), if_neg (by decide), if_pos rfl, r_add h4, oB_s, r_adv h3, oB_s]
  rfl
theorem v_212 : Rd tk ts tn tw w1 w2 N ne nt ep 6 (D + 1) [(0, 12, 1)] [(212, 0)] 0 any := by
  intro i d sc sk sp a1 a2 a3 a4 a5
  obtain ⟨⟨k1, -, -⟩, -⟩ := a2
  have ek : tk i = 212 := k1
  have h3 : i + 1 < 401 := a3
  have h4 : sc < 400 := a4
  rw [ek, p_6]
  unfold f_Re_readValue
  rw [if_neg (by decide), if_neg (by decide), if_neg (by decide), if_neg (by decide), if_neg (by decide), if_pos rfl, r_add h4, oB_s, r_adv h3, oB_s]
  rfl
theorem v_214 {n : Nat} (hE : TeW w2 nt) (hn : n < nt) (h10 : n < 10) : Rd tk ts tn tw w1 w2 N ne nt ep 6 (D + 1) [(0, 14, 1), (0, 16, 1), (2, n, 1)] [(214, nI n)] 0 any := by
  intro i d sc sk sp a1 a2 a3 a4 a5
  obtain ⟨⟨k1, -, -⟩, ⟨k2, -, -⟩, ⟨k3, -, k4⟩, -⟩ := a2
  have ek : tk i = 214 := k1
  have h3 : i + 3 < 401 := a3
  have h4 : sc < 400 := a4
  rw [ek, p_6]
  unfold f_Re_readValue
  rw [if_neg (by decide), if_neg (by decide), if_neg (by decide), if_neg (by decide), if_neg (by decide), if_neg (by decide), if_pos rfl, r_adv (show i + 1 < 401 by omega), oB_s]
  dsimp only
  rw [r_exp (p := 216) (show i + 1 + 1 < 401 by omega) k2, oB_s]
  dsimp only
  rw [if_pos rfl, r_te hE (show i + 1 + 1 + 1 < 401 by omega) hn h10 k3 (k4 (Or.inr rfl)), oB_s]
  dsimp only
  rw [r_add h4, oB_s]
  rfl
theorem v_215 {n : Nat} (hE : EvW w1 ne) (hn : n < ne) (h10 : n < 10) : Rd tk ts tn tw w1 w2 N ne nt ep 6 (D + 1) [(0, 15, 1), (0, 16, 1), (1, n, 1)] [(215, nI n)] 0 any := by
  intro i d sc sk sp a1 a2 a3 a4 a5
  obtain ⟨⟨k1, -, -⟩, ⟨k2, -, -⟩, ⟨k3, -, k4⟩, -⟩ := a2
  have ek : tk i = 215 := k1
  have h3 : i + 3 < 401 := a3
  have h4 : sc < 400 := a4
  rw [ek, p_6]
  unfold f_Re_readValue
  rw [if_neg (by decide), if_neg (by decide), if_neg (by decide), if_neg (by decide), if_neg (by decide), if_neg (by decide), if_neg (by decide), if_pos rfl, r_adv (show i + 1 < 401 by omega), oB_s]
  dsimp only
  rw [r_exp (p := 216) (show i + 1 + 1 < 401 by omega) k2, oB_s]
  dsimp only
  rw [if_neg (by decide), r_ev hE (show i + 1 + 1 + 1 < 401 by omega) hn h10 k3 (k4 (Or.inl rfl)), oB_s]
  dsimp only
  rw [r_add h4, oB_s]
  rfl
theorem v_par {n1 : Int32 → Prop} (hn1 : n1 41) (h : Rd tk ts tn tw w1 w2 N ne nt ep 4 D ta La dd n1) : Rd tk ts tn tw w1 w2 N ne nt ep 6 (D + 1) ((4, 40, 0) :: (ta ++ [(4, 41, 0)])) La (dd + 1) any := by
  intro i d sc sk sp a1 a2 a3 a4 a5
  obtain ⟨⟨k1, -, -⟩, k2⟩ := a2
  obtain ⟨k3, ⟨k4, -, -⟩, -⟩ := Tks.app ta [(4, 41, 0)] (i + 1) k2
  have ek : tk i = 40 := k1
  have ec : tk (i + 1 + ta.length) = 41 := k4
  have l1 : ((4, 40, 0) :: (ta ++ [(4, 41, 0)]) : List Tok).length = ta.length + 2 := by rw [List.length_cons, List.length_append]; rfl
  rw [l1] at a3 ⊢
  have e1 : i + (ta.length + 2) = i + 1 + ta.length + 1 := by omega
  rw [e1]
  have h1 := h (i + 1) (d + 1) sc sk sp (by omega) k3 (by omega) a4 (by rw [ec]; exact hn1)
  rw [ek, p_6]
  unfold f_Re_readValue
  rw [if_pos rfl, r_deep (show i + 1 < 401 by omega) (show d < 8 by omega), oB_s]
  dsimp only
  rw [if_neg (by decide), h1, oB_s]
  dsimp only
  rw [r_exp (show i + 1 + ta.length + 1 < 401 by omega) ec, oB_s]
  dsimp only
  rw [nd1]
theorem s_br {n1 : Int32 → Prop} (hn1 : n1 93) (h : Rd tk ts tn tw w1 w2 N ne nt ep 0 D ta La dd n1) : Rd tk ts tn tw w1 w2 N ne nt ep 2 (D + 1) ((4, 91, 0) :: (ta ++ [(4, 93, 0)])) La (dd + 1) any := by
  intro i d sc sk sp a1 a2 a3 a4 a5
  obtain ⟨⟨k1, -, -⟩, k2⟩ := a2
  obtain ⟨k3, ⟨k4, -, -⟩, -⟩ := Tks.app ta [(4, 93, 0)] (i + 1) k2
  have ek : tk i = 91 := k1
  have ec : tk (i + 1 + ta.length) = 93 := k4
  have l1 : ((4, 91, 0) :: (ta ++ [(4, 93, 0)]) : List Tok).length = ta.length + 2 := by rw [List.length_cons, List.length_append]; rfl
  rw [l1] at a3 ⊢
  have e1 : i + (ta.length + 2) = i + 1 + ta.length + 1 := by omega
  rw [e1]
  have h1 := h (i + 1) (d + 1) sc sk sp (by omega) k3 (by omega) a4 (by rw [ec]; exact hn1)
  rw [ek, p_2]
  unfold f_Re_readSingle
  rw [if_pos rfl, r_deep (show i + 1 < 401 by omega) (show d < 8 by omega), oB_s]
  dsimp only
  rw [if_neg (by decide), h1, oB_s]
  dsimp only
  rw [r_exp (show i + 1 + ta.length + 1 < 401 by omega) ec, oB_s]
  dsimp only
  rw [nd1]
theorem v_neg (h : Rd tk ts tn tw w1 w2 N ne nt ep 6 D ta La dd nx) : Rd tk ts tn tw w1 w2 N ne nt ep 6 (D + 1) ((4, 45, 1) :: ta) (La ++ [(134, 0)]) (dd + 1) nx := by
  intro i d sc sk sp a1 a2 a3 a4 a5
  obtain ⟨⟨k1, -, -⟩, k2⟩ := a2
  have ek : tk i = 45 := k1
  have l1 : ((4, 45, 1) :: ta : List Tok).length = ta.length + 1 := rfl
  have l2 : (La ++ [((134 : Int32), (0 : Int32))]).length = La.length + 1 := by rw [List.length_append]; rfl
  rw [l1] at a3 a5 ⊢
  rw [l2] at a4 ⊢
  have e1 : i + (ta.length + 1) = i + 1 + ta.length := by omega
  rw [e1] at a5 ⊢
  have h1 := h (i + 1) (d + 1) sc sk sp (by omega) k2 (by omega) (by omega) a5
  rw [ek, p_6]
  unfold f_Re_readValue
  rw [if_neg (by decide), if_pos rfl, r_deep (show i + 1 < 401 by omega) (show d < 8 by omega), oB_s]
  dsimp only
  rw [if_neg (by decide), h1, oB_s]
  dsimp only
  rw [r_add (show sc + La.length < 400 by omega), oB_s]
  dsimp only
  rw [nd1, adA_app, adB_app]
  rfl
theorem s_not (h : Rd tk ts tn tw w1 w2 N ne nt ep 2 D ta La dd nx) : Rd tk ts tn tw w1 w2 N ne nt ep 2 (D + 1) ((0, 20, 0) :: ta) (La ++ [(220, 0)]) (dd + 1) nx := by
  intro i d sc sk sp a1 a2 a3 a4 a5
  obtain ⟨⟨k1, -, -⟩, k2⟩ := a2
  have ek : tk i = 220 := k1
  have l1 : ((0, 20, 0) :: ta : List Tok).length = ta.length + 1 := rfl
  have l2 : (La ++ [((220 : Int32), (0 : Int32))]).length = La.length + 1 := by rw [List.length_append]; rfl
  rw [l1] at a3 a5 ⊢
  rw [l2] at a4 ⊢
  have e1 : i + (ta.length + 1) = i + 1 + ta.length := by omega
  rw [e1] at a5 ⊢
  have h1 := h (i + 1) (d + 1) sc sk sp (by omega) k2 (by omega) (by omega) a5
  rw [ek, p_2]
  unfold f_Re_readSingle
  rw [if_neg (by decide), if_neg (by decide), if_neg (by decide), if_neg (by decide), if_neg (by decide), if_pos rfl, r_deep (show i + 1 < 401 by omega) (show d < 8 by omega), oB_s]
  dsimp only
  rw [if_neg (by decide), h1, oB_s]
  dsimp only
  rw [r_add (show sc + La.length < 400 by omega), oB_s]
  dsimp only
  rw [nd1, adA_app, adB_app]
  rfl
theorem v_223 {n1 : Int32 → Prop} (h44 : n1 44) (h41 : n1 41) (ha : Rd tk ts tn tw w1 w2 N ne nt ep 4 D ta La dd n1) (hb : Rd tk ts tn tw w1 w2 N ne nt ep 4 D tb Lb dd n1) : Rd tk ts tn tw w1 w2 N ne nt ep 6 (D + 2) (tkM (0, 23, 0) ta tb) ((La ++ Lb) ++ [(223, 0)]) (dd + 1) any := by
  intro i d sc sk sp a1 a2 a3 a4 a5
  obtain ⟨⟨k1, -, -⟩, ⟨k2, -, -⟩, k3⟩ := a2
  obtain ⟨k4, ⟨k5, -, -⟩, k6⟩ := Tks.app ta _ (i + 1 + 1) k3
  obtain ⟨k7, ⟨k8, -, -⟩, -⟩ := Tks.app tb [(4, 41, 0)] _ k6
  have ek : tk i = 223 := k1
  have e2 : tk (i + 1) = 40 := k2
  have e5 : tk (i + 1 + 1 + ta.length) = 44 := k5
  have e8 : tk (i + 1 + 1 + ta.length + 1 + tb.length) = 41 := k8
  have l1 : (tkM (0, 23, 0) ta tb).length = ta.length + tb.length + 4 := by
    unfold tkM
    simp only [List.length_append, List.length_cons, List.length_nil]
    omega
  have l2 : ((La ++ Lb) ++ [((223 : Int32), (0 : Int32))]).length = La.length + Lb.length + 1 := by rw [List.length_append, List.length_append]; rfl
  rw [l1] at a3 ⊢
  rw [l2] at a4 ⊢
  have e1 : i + (ta.length + tb.length + 4) = i + 1 + 1 + ta.length + 1 + tb.length + 1 := by omega
  rw [e1]
  have h1 := ha (i + 1 + 1) (d + 1) sc sk sp (by omega) k4 (by omega) (by omega) (by rw [e5]; exact h44)
  have h2 := hb (i + 1 + 1 + ta.length + 1) (d + 1) (sc + La.length) (adA sk sc La) (adB sp sc La) (by omega) k7 (by omega) (by omega) (by rw [e8]; exact h41)
  rw [ek, p_6]
  unfold f_Re_readValue
  rw [if_neg (by decide), if_neg (by decide), if_neg (by decide), if_neg (by decide), if_neg (by decide), if_neg (by decide), if_neg (by decide), if_neg (by decide), if_pos rfl, r_adv (show i + 1 < 401 by omega), oB_s]
  dsimp only
  rw [e2, p_7]
  unfold f_Re_readTwoSums
  rw [if_pos rfl, r_deep (show i + 1 + 1 < 401 by omega) (show d < 8 by omega), oB_s]
  dsimp only
  rw [if_neg (by decide), h1, oB_s]
  dsimp only
  rw [r_exp (show i + 1 + 1 + ta.length + 1 < 401 by omega) e5, oB_s]
  dsimp only
  rw [h2, oB_s]
  dsimp only
  rw [r_exp (show i + 1 + 1 + ta.length + 1 + tb.length + 1 < 401 by omega) e8, oB_s]
  dsimp only
  rw [oB_s]
  dsimp only
  rw [r_add (show sc + La.length + Lb.length < 400 by omega), oB_s]
  dsimp only
  rw [nd1, adA_app, adB_app, adA_app, adB_app, show sc + (La ++ Lb).length = sc + La.length + Lb.length by rw [List.length_append]; omega, show sc + (La.length + Lb.length + 1) = sc + La.length + Lb.length + 1 by omega]
  rfl
theorem v_224 {n1 : Int32 → Prop} (h44 : n1 44) (h41 : n1 41) (ha : Rd tk ts tn tw w1 w2 N ne nt ep 4 D ta La dd n1) (hb : Rd tk ts tn tw w1 w2 N ne nt ep 4 D tb Lb dd n1) : Rd tk ts tn tw w1 w2 N ne nt ep 6 (D + 2) (tkM (0, 24, 0) ta tb) ((La ++ Lb) ++ [(224, 0)]) (dd + 1) any := by
  intro i d sc sk sp a1 a2 a3 a4 a5
  obtain ⟨⟨k1, -, -⟩, ⟨k2, -, -⟩, k3⟩ := a2
  obtain ⟨k4, ⟨k5, -, -⟩, k6⟩ := Tks.app ta _ (i + 1 + 1) k3
  obtain ⟨k7, ⟨k8, -, -⟩, -⟩ := Tks.app tb [(4, 41, 0)] _ k6
  have ek : tk i = 224 := k1
  have e2 : tk (i + 1) = 40 := k2
  have e5 : tk (i + 1 + 1 + ta.length) = 44 := k5
  have e8 : tk (i + 1 + 1 + ta.length + 1 + tb.length) = 41 := k8
  have l1 : (tkM (0, 24, 0) ta tb).length = ta.length + tb.length + 4 := by
    unfold tkM
    simp only [List.length_append, List.length_cons, List.length_nil]
    omega
  have l2 : ((La ++ Lb) ++ [((224 : Int32), (0 : Int32))]).length = La.length + Lb.length + 1 := by rw [List.length_append, List.length_append]; rfl
  rw [l1] at a3 ⊢
  rw [l2] at a4 ⊢
  have e1 : i + (ta.length + tb.length + 4) = i + 1 + 1 + ta.length + 1 + tb.length + 1 := by omega
  rw [e1]
  have h1 := ha (i + 1 + 1) (d + 1) sc sk sp (by omega) k4 (by omega) (by omega) (by rw [e5]; exact h44)
  have h2 := hb (i + 1 + 1 + ta.length + 1) (d + 1) (sc + La.length) (adA sk sc La) (adB sp sc La) (by omega) k7 (by omega) (by omega) (by rw [e8]; exact h41)
  rw [ek, p_6]
  unfold f_Re_readValue
  rw [if_neg (by decide), if_neg (by decide), if_neg (by decide), if_neg (by decide), if_neg (by decide), if_neg (by decide), if_neg (by decide), if_neg (by decide), if_neg (by decide), if_pos rfl, r_adv (show i + 1 < 401 by omega), oB_s]
  dsimp only
  rw [e2, p_7]
  unfold f_Re_readTwoSums
  rw [if_pos rfl, r_deep (show i + 1 + 1 < 401 by omega) (show d < 8 by omega), oB_s]
  dsimp only
  rw [if_neg (by decide), h1, oB_s]
  dsimp only
  rw [r_exp (show i + 1 + 1 + ta.length + 1 < 401 by omega) e5, oB_s]
  dsimp only
  rw [h2, oB_s]
  dsimp only
  rw [r_exp (show i + 1 + 1 + ta.length + 1 + tb.length + 1 < 401 by omega) e8, oB_s]
  dsimp only
  rw [oB_s]
  dsimp only
  rw [r_add (show sc + La.length + Lb.length < 400 by omega), oB_s]
  dsimp only
  rw [nd1, adA_app, adB_app, adA_app, adB_app, show sc + (La ++ Lb).length = sc + La.length + Lb.length by rw [List.length_append]; omega, show sc + (La.length + Lb.length + 1) = sc + La.length + Lb.length + 1 by omega]
  rfl
theorem s_217 {n m : Nat} (hE : TeW w2 nt) (hn : n < nt) (hm : m < nt) (n10 : n < 10) (m10 : m < 10) : Rd tk ts tn tw w1 w2 N ne nt ep 2 (D + 1) [(0, 17, 1), (2, n, 1), (2, m, 1)] [(217, nI (16 * n + m))] 0 any := by
  intro i d sc sk sp a1 a2 a3 a4 a5
  obtain ⟨⟨k1, -, -⟩, ⟨k2, -, k3⟩, ⟨k4, -, k5⟩, -⟩ := a2
  have ek : tk i = 217 := k1
  have h3 : i + 3 < 401 := a3
  have h4 : sc < 400 := a4
  rw [ek, p_2]
  unfold f_Re_readSingle
  rw [if_neg (by decide), if_neg (by decide), if_pos rfl]
  unfold f_Re_readTwoTellers
  rw [r_adv (show i + 1 < 401 by omega), oB_s]
  dsimp only
  rw [r_te hE (show i + 1 + 1 < 401 by omega) hn n10 k2 (k3 (Or.inr rfl)), oB_s]
  dsimp only
  rw [r_te hE (show i + 1 + 1 + 1 < 401 by omega) hm m10 k4 (k5 (Or.inr rfl)), oB_s]
  dsimp only
  rw [sh4 n n10 m m10, r_add h4, oB_s, oB_s]
  rfl
theorem s_213 {n : Nat} (hE : TeW w2 nt) (hn : n < nt) (h10 : n < 10) : Rd tk ts tn tw w1 w2 N ne nt ep 2 (D + 1) [(0, 13, 1), (2, n, 1)] [(213, nI n)] 0 any := by
  intro i d sc sk sp a1 a2 a3 a4 a5
  obtain ⟨⟨k1, -, -⟩, ⟨k3, -, k4⟩, -⟩ := a2
  have ek : tk i = 213 := k1
  have h3 : i + 2 < 401 := a3
  have h4 : sc < 400 := a4
  rw [ek, p_2]
  unfold f_Re_readSingle
  rw [if_neg (by decide), if_pos rfl, r_adv (show i + 1 < 401 by omega), oB_s]
  dsimp only
  rw [r_te hE (show i + 1 + 1 < 401 by omega) hn h10 k3 (k4 (Or.inr rfl)), oB_s]
  dsimp only
  rw [r_add h4, oB_s]
  rfl
theorem s_218 {n : Nat} (hE : TeW w2 nt) (hn : n < nt) (h10 : n < 10) : Rd tk ts tn tw w1 w2 N ne nt ep 2 (D + 1) [(0, 18, 1), (2, n, 1)] [(218, nI n)] 0 any := by
  intro i d sc sk sp a1 a2 a3 a4 a5
  obtain ⟨⟨k1, -, -⟩, ⟨k3, -, k4⟩, -⟩ := a2
  have ek : tk i = 218 := k1
  have h3 : i + 2 < 401 := a3
  have h4 : sc < 400 := a4
  rw [ek, p_2]
  unfold f_Re_readSingle
  rw [if_neg (by decide), if_neg (by decide), if_neg (by decide), if_pos rfl, r_adv (show i + 1 < 401 by omega), oB_s]
  dsimp only
  rw [r_te hE (show i + 1 + 1 < 401 by omega) hn h10 k3 (k4 (Or.inr rfl)), oB_s]
  dsimp only
  rw [r_add h4, oB_s]
  rfl
theorem s_219 {n : Nat} (hE : EvW w1 ne) (hn : n < ne) (h10 : n < 10) : Rd tk ts tn tw w1 w2 N ne nt ep 2 (D + 1) [(0, 19, 1), (1, n, 1)] [(219, nI n)] 0 any := by
  intro i d sc sk sp a1 a2 a3 a4 a5
  obtain ⟨⟨k1, -, -⟩, ⟨k3, -, k4⟩, -⟩ := a2
  have ek : tk i = 219 := k1
  have h3 : i + 2 < 401 := a3
  have h4 : sc < 400 := a4
  rw [ek, p_2]
  unfold f_Re_readSingle
  rw [if_neg (by decide), if_neg (by decide), if_neg (by decide), if_neg (by decide), if_pos rfl, r_adv (show i + 1 < 401 by omega), oB_s]
  dsimp only
  rw [r_ev hE (show i + 1 + 1 < 401 by omega) hn h10 k3 (k4 (Or.inl rfl)), oB_s]
  dsimp only
  rw [r_add h4, oB_s]
  rfl
theorem s_c60 {n1 : Int32 → Prop} (hh : ∃ a r, ta = a :: r ∧ hk (kd a)) (hn : n1 60) (ha : Rd tk ts tn tw w1 w2 N ne nt ep 4 (D + 1) ta La dd n1) (hb : Rd tk ts tn tw w1 w2 N ne nt ep 4 D tb Lb dd nx) : Rd tk ts tn tw w1 w2 N ne nt ep 2 (D + 2) (tkC (4, 60, 0) ta tb) ((La ++ Lb) ++ [(60, 0)]) dd nx := by
  intro i d sc sk sp a1 a2 a3 a4 a5
  obtain ⟨k3, ⟨k5, -, -⟩, k6⟩ := Tks.app ta _ i a2
  have e5 : tk (i + ta.length) = 60 := k5
  have l1 : (tkC (4, 60, 0) ta tb).length = ta.length + (tb.length + 1) := by unfold tkC; rw [List.length_append]; rfl
  have l2 : ((La ++ Lb) ++ [((60 : Int32), (0 : Int32))]).length = La.length + Lb.length + 1 := by rw [List.length_append, List.length_append]; rfl
  rw [l1] at a3 a5 ⊢
  rw [l2] at a4 ⊢
  have e1 : i + (ta.length + (tb.length + 1)) = i + ta.length + 1 + tb.length := by omega
  rw [e1] at a5 ⊢
  have h1 := ha i d sc sk sp a1 k3 (by omega) (by omega) (by rw [e5]; exact hn)
  have h2 := hb (i + ta.length + 1) d (sc + La.length) (adA sk sc La) (adB sp sc La) a1 k6 (by omega) (by omega) a5
  have hq : hk (tk i) := by
    obtain ⟨a, r, rfl, hq⟩ := hh
    rw [k3.1.1]
    exact hq
  obtain ⟨q1, q2, q3, q4, q5, q6⟩ := hq
  rw [p_2]
  unfold f_Re_readSingle
  rw [if_neg q1, if_neg q2, if_neg q3, if_neg q4, if_neg q5, if_neg q6, h1, oB_s]
  dsimp only
  rw [e5, p_3]
  unfold f_Re_readCompared
  rw [if_pos rfl, r_adv (show i + ta.length + 1 < 401 by omega), oB_s]
  dsimp only
  rw [h2, oB_s]
  dsimp only
  rw [r_add (show sc + La.length + Lb.length < 400 by omega), oB_s, oB_s]
  dsimp only
  rw [adA_app, adB_app, adA_app, adB_app, show sc + (La ++ Lb).length = sc + La.length + Lb.length by rw [List.length_append]; omega, show sc + (La.length + Lb.length + 1) = sc + La.length + Lb.length + 1 by omega]
  rfl
theorem s_c62 {n1 : Int32 → Prop} (hh : ∃ a r, ta = a :: r ∧ hk (kd a)) (hn : n1 62) (ha : Rd tk ts tn tw w1 w2 N ne nt ep 4 (D + 1) ta La dd n1) (hb : Rd tk ts tn tw w1 w2 N ne nt ep 4 D tb Lb dd nx) : Rd tk ts tn tw w1 w2 N ne nt ep 2 (D + 2) (tkC (4, 62, 0) ta tb) ((La ++ Lb) ++ [(62, 0)]) dd nx := by
  intro i d sc sk sp a1 a2 a3 a4 a5
  obtain ⟨k3, ⟨k5, -, -⟩, k6⟩ := Tks.app ta _ i a2
  have e5 : tk (i + ta.length) = 62 := k5
  have l1 : (tkC (4, 62, 0) ta tb).length = ta.length + (tb.length + 1) := by unfold tkC; rw [List.length_append]; rfl
  have l2 : ((La ++ Lb) ++ [((62 : Int32), (0 : Int32))]).length = La.length + Lb.length + 1 := by rw [List.length_append, List.length_append]; rfl
  rw [l1] at a3 a5 ⊢
  rw [l2] at a4 ⊢
  have e1 : i + (ta.length + (tb.length + 1)) = i + ta.length + 1 + tb.length := by omega
  rw [e1] at a5 ⊢
  have h1 := ha i d sc sk sp a1 k3 (by omega) (by omega) (by rw [e5]; exact hn)
  have h2 := hb (i + ta.length + 1) d (sc + La.length) (adA sk sc La) (adB sp sc La) a1 k6 (by omega) (by omega) a5
  have hq : hk (tk i) := by
    obtain ⟨a, r, rfl, hq⟩ := hh
    rw [k3.1.1]
    exact hq
  obtain ⟨q1, q2, q3, q4, q5, q6⟩ := hq
  rw [p_2]
  unfold f_Re_readSingle
  rw [if_neg q1, if_neg q2, if_neg q3, if_neg q4, if_neg q5, if_neg q6, h1, oB_s]
  dsimp only
  rw [e5, p_3]
  unfold f_Re_readCompared
  rw [if_neg (by decide), if_pos rfl, r_adv (show i + ta.length + 1 < 401 by omega), oB_s]
  dsimp only
  rw [h2, oB_s]
  dsimp only
  rw [r_add (show sc + La.length + Lb.length < 400 by omega), oB_s, oB_s]
  dsimp only
  rw [adA_app, adB_app, adA_app, adB_app, show sc + (La ++ Lb).length = sc + La.length + Lb.length by rw [List.length_append]; omega, show sc + (La.length + Lb.length + 1) = sc + La.length + Lb.length + 1 by omega]
  rfl
theorem s_c61 {n1 : Int32 → Prop} (hh : ∃ a r, ta = a :: r ∧ hk (kd a)) (hn : n1 61) (ha : Rd tk ts tn tw w1 w2 N ne nt ep 4 (D + 1) ta La dd n1) (hb : Rd tk ts tn tw w1 w2 N ne nt ep 4 D tb Lb dd nx) : Rd tk ts tn tw w1 w2 N ne nt ep 2 (D + 2) (tkC (4, 61, 0) ta tb) ((La ++ Lb) ++ [(61, 0)]) dd nx := by
  intro i d sc sk sp a1 a2 a3 a4 a5
  obtain ⟨k3, ⟨k5, -, -⟩, k6⟩ := Tks.app ta _ i a2
  have e5 : tk (i + ta.length) = 61 := k5
  have l1 : (tkC (4, 61, 0) ta tb).length = ta.length + (tb.length + 1) := by unfold tkC; rw [List.length_append]; rfl
  have l2 : ((La ++ Lb) ++ [((61 : Int32), (0 : Int32))]).length = La.length + Lb.length + 1 := by rw [List.length_append, List.length_append]; rfl
  rw [l1] at a3 a5 ⊢
  rw [l2] at a4 ⊢
  have e1 : i + (ta.length + (tb.length + 1)) = i + ta.length + 1 + tb.length := by omega
  rw [e1] at a5 ⊢
  have h1 := ha i d sc sk sp a1 k3 (by omega) (by omega) (by rw [e5]; exact hn)
  have h2 := hb (i + ta.length + 1) d (sc + La.length) (adA sk sc La) (adB sp sc La) a1 k6 (by omega) (by omega) a5
  have hq : hk (tk i) := by
    obtain ⟨a, r, rfl, hq⟩ := hh
    rw [k3.1.1]
    exact hq
  obtain ⟨q1, q2, q3, q4, q5, q6⟩ := hq
  rw [p_2]
  unfold f_Re_readSingle
  rw [if_neg q1, if_neg q2, if_neg q3, if_neg q4, if_neg q5, if_neg q6, h1, oB_s]
  dsimp only
  rw [e5, p_3]
  unfold f_Re_readCompared
  rw [if_neg (by decide), if_neg (by decide), if_pos rfl, r_adv (show i + ta.length + 1 < 401 by omega), oB_s]
  dsimp only
  rw [h2, oB_s]
  dsimp only
  rw [r_add (show sc + La.length + Lb.length < 400 by omega), oB_s, oB_s]
  dsimp only
  rw [adA_app, adB_app, adA_app, adB_app, show sc + (La ++ Lb).length = sc + La.length + Lb.length by rw [List.length_append]; omega, show sc + (La.length + Lb.length + 1) = sc + La.length + Lb.length + 1 by omega]
  rfl
theorem s_c128 {n1 : Int32 → Prop} (hh : ∃ a r, ta = a :: r ∧ hk (kd a)) (hn : n1 128) (ha : Rd tk ts tn tw w1 w2 N ne nt ep 4 (D + 1) ta La dd n1) (hb : Rd tk ts tn tw w1 w2 N ne nt ep 4 D tb Lb dd nx) : Rd tk ts tn tw w1 w2 N ne nt ep 2 (D + 2) (tkC (5, 0, 0) ta tb) ((La ++ Lb) ++ [(128, 0)]) dd nx := by
  intro i d sc sk sp a1 a2 a3 a4 a5
  obtain ⟨k3, ⟨k5, -, -⟩, k6⟩ := Tks.app ta _ i a2
  have e5 : tk (i + ta.length) = 128 := k5
  have l1 : (tkC (5, 0, 0) ta tb).length = ta.length + (tb.length + 1) := by unfold tkC; rw [List.length_append]; rfl
  have l2 : ((La ++ Lb) ++ [((128 : Int32), (0 : Int32))]).length = La.length + Lb.length + 1 := by rw [List.length_append, List.length_append]; rfl
  rw [l1] at a3 a5 ⊢
  rw [l2] at a4 ⊢
  have e1 : i + (ta.length + (tb.length + 1)) = i + ta.length + 1 + tb.length := by omega
  rw [e1] at a5 ⊢
  have h1 := ha i d sc sk sp a1 k3 (by omega) (by omega) (by rw [e5]; exact hn)
  have h2 := hb (i + ta.length + 1) d (sc + La.length) (adA sk sc La) (adB sp sc La) a1 k6 (by omega) (by omega) a5
  have hq : hk (tk i) := by
    obtain ⟨a, r, rfl, hq⟩ := hh
    rw [k3.1.1]
    exact hq
  obtain ⟨q1, q2, q3, q4, q5, q6⟩ := hq
  rw [p_2]
  unfold f_Re_readSingle
  rw [if_neg q1, if_neg q2, if_neg q3, if_neg q4, if_neg q5, if_neg q6, h1, oB_s]
  dsimp only
  rw [e5, p_3]
  unfold f_Re_readCompared
  rw [if_neg (by decide), if_neg (by decide), if_neg (by decide), if_pos rfl, r_adv (show i + ta.length + 1 < 401 by omega), oB_s]
  dsimp only
  rw [h2, oB_s]
  dsimp only
  rw [r_add (show sc + La.length + Lb.length < 400 by omega), oB_s, oB_s]
  dsimp only
  rw [adA_app, adB_app, adA_app, adB_app, show sc + (La ++ Lb).length = sc + La.length + Lb.length by rw [List.length_append]; omega, show sc + (La.length + Lb.length + 1) = sc + La.length + Lb.length + 1 by omega]
  rfl
theorem s_c129 {n1 : Int32 → Prop} (hh : ∃ a r, ta = a :: r ∧ hk (kd a)) (hn : n1 129) (ha : Rd tk ts tn tw w1 w2 N ne nt ep 4 (D + 1) ta La dd n1) (hb : Rd tk ts tn tw w1 w2 N ne nt ep 4 D tb Lb dd nx) : Rd tk ts tn tw w1 w2 N ne nt ep 2 (D + 2) (tkC (6, 0, 0) ta tb) ((La ++ Lb) ++ [(129, 0)]) dd nx := by
  intro i d sc sk sp a1 a2 a3 a4 a5
  obtain ⟨k3, ⟨k5, -, -⟩, k6⟩ := Tks.app ta _ i a2
  have e5 : tk (i + ta.length) = 129 := k5
  have l1 : (tkC (6, 0, 0) ta tb).length = ta.length + (tb.length + 1) := by unfold tkC; rw [List.length_append]; rfl
  have l2 : ((La ++ Lb) ++ [((129 : Int32), (0 : Int32))]).length = La.length + Lb.length + 1 := by rw [List.length_append, List.length_append]; rfl
  rw [l1] at a3 a5 ⊢
  rw [l2] at a4 ⊢
  have e1 : i + (ta.length + (tb.length + 1)) = i + ta.length + 1 + tb.length := by omega
  rw [e1] at a5 ⊢
  have h1 := ha i d sc sk sp a1 k3 (by omega) (by omega) (by rw [e5]; exact hn)
  have h2 := hb (i + ta.length + 1) d (sc + La.length) (adA sk sc La) (adB sp sc La) a1 k6 (by omega) (by omega) a5
  have hq : hk (tk i) := by
    obtain ⟨a, r, rfl, hq⟩ := hh
    rw [k3.1.1]
    exact hq
  obtain ⟨q1, q2, q3, q4, q5, q6⟩ := hq
  rw [p_2]
  unfold f_Re_readSingle
  rw [if_neg q1, if_neg q2, if_neg q3, if_neg q4, if_neg q5, if_neg q6, h1, oB_s]
  dsimp only
  rw [e5, p_3]
  unfold f_Re_readCompared
  rw [if_neg (by decide), if_neg (by decide), if_neg (by decide), if_neg (by decide), if_pos rfl, r_adv (show i + ta.length + 1 < 401 by omega), oB_s]
  dsimp only
  rw [h2, oB_s]
  dsimp only
  rw [r_add (show sc + La.length + Lb.length < 400 by omega), oB_s, oB_s]
  dsimp only
  rw [adA_app, adB_app, adA_app, adB_app, show sc + (La ++ Lb).length = sc + La.length + Lb.length by rw [List.length_append]; omega, show sc + (La.length + Lb.length + 1) = sc + La.length + Lb.length + 1 by omega]
  rfl
end PR
