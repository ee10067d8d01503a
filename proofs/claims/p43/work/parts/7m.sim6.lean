theorem txt_len {ne nt : Nat} (hne : ne ≤ 10) (hnt : nt ≤ 10) : ∀ k T, (TE ne nt k T ∨ TB ne nt k T) → (txt k T).length ≤ 12 * 2 ^ k - 7
  | 0, T, _ => nomatch T
  | k + 1, ((a, kd, n, o), ta, tb), hk => by
    have hp : 2 ^ (k + 1) = 2 ^ k + 2 ^ k := by rw [Nat.pow_succ]; omega
    have hp1 : 0 < 2 ^ k := Nat.two_pow_pos k
    have kids := tr_kids hk
    rcases kids with ⟨rfl, hb⟩ | rfl | rfl | rfl | ⟨rfl, hb⟩ | ⟨rfl, hb⟩ | ⟨hk1, x, rfl, hx⟩ | ⟨hk2, x, y, rfl, rfl, hx, hy⟩ | ⟨rfl, hb, hb2⟩ | ⟨rfl, hb⟩ | ⟨rfl, hb⟩ | ⟨rfl, hb⟩
    · exact Nat.le_trans (show ((([] : List Int32) ++ kT 20) ++ dgL n).length ≤ _ from (lnA (lnA (Nat.le_refl 0) (Nat.le_of_eq kl_20)) (dgL_6 hb))) (by omega)
    · exact Nat.le_trans (Nat.le_of_eq kl_27) (by omega)
    · exact Nat.le_trans (Nat.le_of_eq kl_28) (by omega)
    · exact Nat.le_trans (Nat.le_of_eq kl_29) (by omega)
    · exact Nat.le_trans (show (((([] : List Int32) ++ kT 30) ++ dgL n) ++ kT 47).length ≤ _ from (lnA (lnA (lnA (Nat.le_refl 0) (Nat.le_of_eq kl_30)) (dgL_t1 (v := n) (by omega))) (Nat.le_of_eq kl_47))) (by omega)
    · exact Nat.le_trans (show (((([] : List Int32) ++ kT 31) ++ dgL n) ++ kT 47).length ≤ _ from (lnA (lnA (lnA (Nat.le_refl 0) (Nat.le_of_eq kl_31)) (dgL_t1 (v := n) (by omega))) (Nat.le_of_eq kl_47))) (by omega)
    · rcases hk1 with rfl | rfl
      · exact Nat.le_trans (show (((([] : List Int32) ++ kT 48) ++ (txt k x)) ++ kT 49).length ≤ _ from (lnA (lnA (lnA (Nat.le_refl 0) (Nat.le_of_eq kl_48)) (txt_len hne hnt k x hx)) (Nat.le_of_eq kl_49))) (by omega)
      · exact Nat.le_trans (show (((([] : List Int32) ++ kT 53) ++ (txt k x)) ++ kT 54).length ≤ _ from (lnA (lnA (lnA (Nat.le_refl 0) (Nat.le_of_eq kl_53)) (txt_len hne hnt k x hx)) (Nat.le_of_eq kl_54))) (by omega)
    · rcases hk2 with rfl | rfl | rfl | rfl | rfl | rfl | rfl | rfl | rfl | rfl | rfl | rfl | rfl
      · exact Nat.le_trans (show (((((((([] : List Int32) ++ kT 50) ++ (txt k x)) ++ kT 49) ++ kT 32) ++ kT 50) ++ (txt k y)) ++ kT 49).length ≤ _ from (lnA (lnA (lnA (lnA (lnA (lnA (lnA (Nat.le_refl 0) (Nat.le_of_eq kl_50)) (txt_len hne hnt k x hx)) (Nat.le_of_eq kl_49)) (Nat.le_of_eq kl_32)) (Nat.le_of_eq kl_50)) (txt_len hne hnt k y hy)) (Nat.le_of_eq kl_49))) (by omega)
      · exact Nat.le_trans (show (((((((([] : List Int32) ++ kT 50) ++ (txt k x)) ++ kT 49) ++ kT 33) ++ kT 50) ++ (txt k y)) ++ kT 49).length ≤ _ from (lnA (lnA (lnA (lnA (lnA (lnA (lnA (Nat.le_refl 0) (Nat.le_of_eq kl_50)) (txt_len hne hnt k x hx)) (Nat.le_of_eq kl_49)) (Nat.le_of_eq kl_33)) (Nat.le_of_eq kl_50)) (txt_len hne hnt k y hy)) (Nat.le_of_eq kl_49))) (by omega)
      · exact Nat.le_trans (show (((((((([] : List Int32) ++ kT 50) ++ (txt k x)) ++ kT 49) ++ kT 34) ++ kT 50) ++ (txt k y)) ++ kT 49).length ≤ _ from (lnA (lnA (lnA (lnA (lnA (lnA (lnA (Nat.le_refl 0) (Nat.le_of_eq kl_50)) (txt_len hne hnt k x hx)) (Nat.le_of_eq kl_49)) (Nat.le_of_eq kl_34)) (Nat.le_of_eq kl_50)) (txt_len hne hnt k y hy)) (Nat.le_of_eq kl_49))) (by omega)
      · exact Nat.le_trans (show (((((((([] : List Int32) ++ kT 50) ++ (txt k x)) ++ kT 49) ++ kT 35) ++ kT 50) ++ (txt k y)) ++ kT 49).length ≤ _ from (lnA (lnA (lnA (lnA (lnA (lnA (lnA (Nat.le_refl 0) (Nat.le_of_eq kl_50)) (txt_len hne hnt k x hx)) (Nat.le_of_eq kl_49)) (Nat.le_of_eq kl_35)) (Nat.le_of_eq kl_50)) (txt_len hne hnt k y hy)) (Nat.le_of_eq kl_49))) (by omega)
      · exact Nat.le_trans (show (((((([] : List Int32) ++ kT 36) ++ (txt k x)) ++ kT 51) ++ (txt k y)) ++ kT 49).length ≤ _ from (lnA (lnA (lnA (lnA (lnA (Nat.le_refl 0) (Nat.le_of_eq kl_36)) (txt_len hne hnt k x hx)) (Nat.le_of_eq kl_51)) (txt_len hne hnt k y hy)) (Nat.le_of_eq kl_49))) (by omega)
      · exact Nat.le_trans (show (((((([] : List Int32) ++ kT 37) ++ (txt k x)) ++ kT 51) ++ (txt k y)) ++ kT 49).length ≤ _ from (lnA (lnA (lnA (lnA (lnA (Nat.le_refl 0) (Nat.le_of_eq kl_37)) (txt_len hne hnt k x hx)) (Nat.le_of_eq kl_51)) (txt_len hne hnt k y hy)) (Nat.le_of_eq kl_49))) (by omega)
      · exact Nat.le_trans (show (((([] : List Int32) ++ (txt k x)) ++ kT 38) ++ (txt k y)).length ≤ _ from (lnA (lnA (lnA (Nat.le_refl 0) (txt_len hne hnt k x hx)) (Nat.le_of_eq kl_38)) (txt_len hne hnt k y hy))) (by omega)
      · exact Nat.le_trans (show (((([] : List Int32) ++ (txt k x)) ++ kT 39) ++ (txt k y)).length ≤ _ from (lnA (lnA (lnA (Nat.le_refl 0) (txt_len hne hnt k x hx)) (Nat.le_of_eq kl_39)) (txt_len hne hnt k y hy))) (by omega)
      · exact Nat.le_trans (show (((([] : List Int32) ++ (txt k x)) ++ kT 40) ++ (txt k y)).length ≤ _ from (lnA (lnA (lnA (Nat.le_refl 0) (txt_len hne hnt k x hx)) (Nat.le_of_eq kl_40)) (txt_len hne hnt k y hy))) (by omega)
      · exact Nat.le_trans (show (((([] : List Int32) ++ (txt k x)) ++ kT 41) ++ (txt k y)).length ≤ _ from (lnA (lnA (lnA (Nat.le_refl 0) (txt_len hne hnt k x hx)) (Nat.le_of_eq kl_41)) (txt_len hne hnt k y hy))) (by omega)
      · exact Nat.le_trans (show (((([] : List Int32) ++ (txt k x)) ++ kT 42) ++ (txt k y)).length ≤ _ from (lnA (lnA (lnA (Nat.le_refl 0) (txt_len hne hnt k x hx)) (Nat.le_of_eq kl_42)) (txt_len hne hnt k y hy))) (by omega)
      · exact Nat.le_trans (show (((((((([] : List Int32) ++ kT 55) ++ (txt k x)) ++ kT 54) ++ kT 56) ++ kT 55) ++ (txt k y)) ++ kT 54).length ≤ _ from (lnA (lnA (lnA (lnA (lnA (lnA (lnA (Nat.le_refl 0) (Nat.le_of_eq kl_55)) (txt_len hne hnt k x hx)) (Nat.le_of_eq kl_54)) (Nat.le_of_eq kl_56)) (Nat.le_of_eq kl_55)) (txt_len hne hnt k y hy)) (Nat.le_of_eq kl_54))) (by omega)
      · exact Nat.le_trans (show (((((((([] : List Int32) ++ kT 55) ++ (txt k x)) ++ kT 54) ++ kT 57) ++ kT 55) ++ (txt k y)) ++ kT 54).length ≤ _ from (lnA (lnA (lnA (lnA (lnA (lnA (lnA (Nat.le_refl 0) (Nat.le_of_eq kl_55)) (txt_len hne hnt k x hx)) (Nat.le_of_eq kl_54)) (Nat.le_of_eq kl_57)) (Nat.le_of_eq kl_55)) (txt_len hne hnt k y hy)) (Nat.le_of_eq kl_54))) (by omega)
    · exact Nat.le_trans (show (((((([] : List Int32) ++ kT 43) ++ dgL n) ++ kT 52) ++ dgL o) ++ kT 47).length ≤ _ from (lnA (lnA (lnA (lnA (lnA (Nat.le_refl 0) (Nat.le_of_eq kl_43)) (dgL_t1 (v := n) (by omega))) (Nat.le_of_eq kl_52)) (dgL_t1 (v := o) (by omega))) (Nat.le_of_eq kl_47))) (by omega)
    · exact Nat.le_trans (show (((([] : List Int32) ++ kT 44) ++ dgL n) ++ kT 47).length ≤ _ from (lnA (lnA (lnA (Nat.le_refl 0) (Nat.le_of_eq kl_44)) (dgL_t1 (v := n) (by omega))) (Nat.le_of_eq kl_47))) (by omega)
    · exact Nat.le_trans (show (((([] : List Int32) ++ kT 45) ++ dgL n) ++ kT 47).length ≤ _ from (lnA (lnA (lnA (Nat.le_refl 0) (Nat.le_of_eq kl_45)) (dgL_t1 (v := n) (by omega))) (Nat.le_of_eq kl_47))) (by omega)
    · exact Nat.le_trans (show (((([] : List Int32) ++ kT 46) ++ dgL n) ++ kT 47).length ≤ _ from (lnA (lnA (lnA (Nat.le_refl 0) (Nat.le_of_eq kl_46)) (dgL_t1 (v := n) (by omega))) (Nat.le_of_eq kl_47))) (by omega)
def TextH (g : GG) (ne nt k : Nat) : Prop := ∀ (T : TT k) (t : va_W), TM g t k T → (TE ne nt k T ∨ TB ne nt k T) → Ct g mX11_text (k + 8) (16 * 2 ^ k - 16) (33000 * 2 ^ k - 33000) [.ref (tA k T)] t (Dq (fun (z : SZ) => some (sv g z)) (fun z => sw g (txt k T).length z ++ t) (fun z => sP (txt k T) z))
set_option maxRecDepth 20000 in
set_option maxHeartbeats 8000000 in
theorem tx_0 {g : GG} {ne nt k a n o u1 u2 u3 u4 : Nat} {t t0 : va_W}  {vb : Value} {va : Value} (IH : TextH g ne nt k) (e0 : t0 = ((u4, qA g 7 4 (va_up (va_up (va_up (va_up (fun _ => none) 0 (some (gK g 43))) 1 (some (gK g 44))) 2 (some (gK g 45))) 3 (some (gK g 46)))) :: ((u3, qA g 7 5 (va_up (va_up (va_up (va_up (va_up (fun _ => none) 0 (some (gK g 38))) 1 (some (gK g 39))) 2 (some (gK g 40))) 3 (some (gK g 41))) 4 (some (gK g 42)))) :: ((u2, qA g 7 6 (va_up (va_up (va_up (va_up (va_up (va_up (fun _ => none) 0 (some (gK g 32))) 1 (some (gK g 33))) 2 (some (gK g 34))) 3 (some (gK g 35))) 4 (some (gK g 36))) 5 (some (gK g 37)))) :: ((u1, qA g 7 6 (va_up (va_up (va_up (va_up (va_up (va_up (fun _ => none) 0 (some (gK g iE))) 1 (some (gK g 27))) 2 (some (gK g 28))) 3 (some (gK g 29))) 4 (some (gK g 30))) 5 (some (gK g 31)))) :: t))))) (hk5 : k ≤ 5) (hn : nt ≤ 10) (hne : ne ≤ 10) (ho : (a, .inr (11, [.int (0 : Int32), .int (nI n), .int (nI o), va, vb])) ∈ t) (hb : n < 1000000) : R g mX11_text (k + 1 + 8) ((16 * 2 ^ k - 16) + (16 * 2 ^ k - 16) + 12) ((33000 * 2 ^ k - 33000) + (33000 * 2 ^ k - 33000) + 32900) 128 [(4, .ref u4), (3, .ref u3), (2, .ref u2), (1, .ref u1), (0, .ref a)] [] t0 (Dq (fun (z : SZ) => some (sv g z)) (fun z => sw g ((([] : List Int32) ++ kT 20) ++ dgL n).length z ++ t) (fun z => sP ((([] : List Int32) ++ kT 20) ++ dgL n) z)) := by
  have hd3 : 3 + 1 ≤ k + 1 + 8 := by omega
  have hd6 : 6 + 1 ≤ k + 1 + 8 := by omega
  have hd7 : 7 + 1 ≤ k + 1 + 8 := by omega
  have m0 : (u4, qA g 7 4 (va_up (va_up (va_up (va_up (fun _ => none) 0 (some (gK g 43))) 1 (some (gK g 44))) 2 (some (gK g 45))) 3 (some (gK g 46)))) ∈ t0 := by rw [e0]; exact List.mem_cons_self
  have m1 : (u3, qA g 7 5 (va_up (va_up (va_up (va_up (va_up (fun _ => none) 0 (some (gK g 38))) 1 (some (gK g 39))) 2 (some (gK g 40))) 3 (some (gK g 41))) 4 (some (gK g 42)))) ∈ t0 := by rw [e0]; exact (List.mem_cons_of_mem _ List.mem_cons_self)
  have m2 : (u2, qA g 7 6 (va_up (va_up (va_up (va_up (va_up (va_up (fun _ => none) 0 (some (gK g 32))) 1 (some (gK g 33))) 2 (some (gK g 34))) 3 (some (gK g 35))) 4 (some (gK g 36))) 5 (some (gK g 37)))) ∈ t0 := by rw [e0]; exact (List.mem_cons_of_mem _ (List.mem_cons_of_mem _ List.mem_cons_self))
  have m3 : (u1, qA g 7 6 (va_up (va_up (va_up (va_up (va_up (va_up (fun _ => none) 0 (some (gK g iE))) 1 (some (gK g 27))) 2 (some (gK g 28))) 3 (some (gK g 29))) 4 (some (gK g 30))) 5 (some (gK g 31)))) ∈ t0 := by rw [e0]; exact (List.mem_cons_of_mem _ (List.mem_cons_of_mem _ (List.mem_cons_of_mem _ List.mem_cons_self)))
  have mt : ∀ p ∈ t, p ∈ t0 := fun p hp => by rw [e0]; exact (List.mem_cons_of_mem _ (List.mem_cons_of_mem _ (List.mem_cons_of_mem _ (List.mem_cons_of_mem _ hp))))
  have hoK := mt _ ho
  refine r_aload_n 4 dX11_text_128 rfl ?_
  refine r_getm (v := .int (0 : Int32)) (ci := 11) (fs := [.int (0 : Int32), .int (nI n), .int (nI o), va, vb]) dX11_text_129 fl_X11_7 hoK rfl ?_
  refine r_if_ne (tgt := 158) dX11_text_132 (by decide) (fun hc => absurd (by decide) hc) (fun _ => ?_)
  refine r_new (N := 4) (x := ((16 * 2 ^ k - 16) + (16 * 2 ^ k - 16) + 11)) (y := ((33000 * 2 ^ k - 33000) + (33000 * 2 ^ k - 33000) + 32896)) dX11_text_135 nl_X11_110 (fun q1 => ?_)
  refine r_dup dX11_text_138 rfl ?_
  refine r_room (x2 := ((16 * 2 ^ k - 16) + (16 * 2 ^ k - 16) + 10) + 1) (y2 := ((33000 * 2 ^ k - 33000) + (33000 * 2 ^ k - 33000) + 32880) + 16) (rq rfl) (rq rfl) ?_
  refine k_I (x := ((16 * 2 ^ k - 16) + (16 * 2 ^ k - 16) + 10)) (y := ((33000 * 2 ^ k - 33000) + (33000 * 2 ^ k - 33000) + 32880)) (rest := [.ref q1]) dX11_text_139 ki_X11_112 (cj_sb) rfl rfl (Nat.le_of_ble_eq_true rfl) (by first | exact hd3 | exact hd6 | exact hd7) (by decide) ?_
  rintro bv1 -
  show R g mX11_text (k + 1 + 8) ((16 * 2 ^ k - 16) + (16 * 2 ^ k - 16) + 10) ((33000 * 2 ^ k - 33000) + (33000 * 2 ^ k - 33000) + 32880) 142 [(4, .ref u4), (3, .ref u3), (2, .ref u2), (1, .ref u1), (0, .ref a)] [.ref q1] ((q1, .inr (13, [.ref bv1, .int (0 : Int32), .int (0 : Int32), .int (nI ([] : List Int32).length)])) :: ((bv1, yA g 16 (fun _ => 0)) :: t0)) _
  refine r_ldcE dX11_text_142 rfl ?_
  refine r_top (w := .ref (gK g 20)) (rfl) ?_
  obtain ⟨L7, eL8⟩ : ∃ L9 : List Int32, L9 = ([] : List Int32) ++ kT 20 := ⟨_, rfl⟩
  have bn6 : L7.length ≤ 0 := by rw [eL8]; exact lnA (L := ([] : List Int32)) (L2 := kT 20) (n := 0) (n2 := 0) (Nat.le_refl 0) (Nat.le_of_eq kl_20)
  refine r_room (x2 := ((16 * 2 ^ k - 16) + (16 * 2 ^ k - 16) + 9) + 1) (y2 := ((33000 * 2 ^ k - 33000) + (33000 * 2 ^ k - 33000) + 28878) + 4002) (rq rfl) (rq rfl) ?_
  refine k_V (x := ((16 * 2 ^ k - 16) + (16 * 2 ^ k - 16) + 9)) (y := ((33000 * 2 ^ k - 33000) + (33000 * 2 ^ k - 33000) + 28878)) (rest := []) 0 dX11_text_144 kv_X11_113 (cj_apK (i := 20) (by decide) eL8 BL.nil (Nat.le_trans bn6 (by decide))) rfl rfl rfl rfl (Nat.le_of_ble_eq_true rfl) (by first | exact hd3 | exact hd6 | exact hd7) (by decide) ?_
  rintro ⟨bv2, bm3, bf4⟩ bh5
  try dsimp only at bh5
  show R g mX11_text (k + 1 + 8) ((16 * 2 ^ k - 16) + (16 * 2 ^ k - 16) + 9) ((33000 * 2 ^ k - 33000) + (33000 * 2 ^ k - 33000) + 28878) 147 [(4, .ref u4), (3, .ref u3), (2, .ref u2), (1, .ref u1), (0, .ref a)] [.ref q1] ((q1, .inr (13, [.ref bv2, .int (0 : Int32), .int (0 : Int32), .int (nI L7.length)])) :: ((bv2, yA g bm3 bf4) :: t0)) _
  refine r_aload_n 4 dX11_text_147 rfl ?_
  refine r_getm (v := .int (nI n)) (ci := 11) (fs := [.int (0 : Int32), .int (nI n), .int (nI o), va, vb]) dX11_text_148 fl_X11_13 (List.mem_cons_of_mem _ (List.mem_cons_of_mem _ hoK)) rfl ?_
  obtain ⟨L14, eL15⟩ : ∃ L9 : List Int32, L9 = L7 ++ dgL n := ⟨_, rfl⟩
  have bn13 : L14.length ≤ 6 := by rw [eL15]; exact lnA (L := L7) (L2 := dgL n) (n := 0) (n2 := 6) bn6 (dgL_6 hb)
  refine r_room (x2 := ((16 * 2 ^ k - 16) + (16 * 2 ^ k - 16) + 8) + 1) (y2 := ((33000 * 2 ^ k - 33000) + (33000 * 2 ^ k - 33000) + 24876) + 4002) (rq rfl) (rq rfl) ?_
  refine k_V (x := ((16 * 2 ^ k - 16) + (16 * 2 ^ k - 16) + 8)) (y := ((33000 * 2 ^ k - 33000) + (33000 * 2 ^ k - 33000) + 24876)) (rest := []) 0 dX11_text_151 kv_X11_117 (cj_apI (x9 := n) (hb) eL15 bh5 (Nat.le_trans bn13 (by decide))) rfl rfl rfl rfl (Nat.le_of_ble_eq_true rfl) (by first | exact hd3 | exact hd6 | exact hd7) (by decide) ?_
  rintro ⟨bv9, bm10, bf11⟩ bh12
  try dsimp only at bh12
  show R g mX11_text (k + 1 + 8) ((16 * 2 ^ k - 16) + (16 * 2 ^ k - 16) + 8) ((33000 * 2 ^ k - 33000) + (33000 * 2 ^ k - 33000) + 24876) 154 [(4, .ref u4), (3, .ref u3), (2, .ref u2), (1, .ref u1), (0, .ref a)] [.ref q1] ((q1, .inr (13, [.ref bv9, .int (0 : Int32), .int (0 : Int32), .int (nI L14.length)])) :: ((bv9, yA g bm10 bf11) :: t0)) _
  refine r_room (x2 := ((16 * 2 ^ k - 16) + (16 * 2 ^ k - 16) + 6) + 2) (y2 := ((33000 * 2 ^ k - 33000) + (33000 * 2 ^ k - 33000) + 20870) + 4006) (rq rfl) (rq rfl) ?_
  refine k_V (x := ((16 * 2 ^ k - 16) + (16 * 2 ^ k - 16) + 6)) (y := ((33000 * 2 ^ k - 33000) + (33000 * 2 ^ k - 33000) + 20870)) (rest := []) 0 dX11_text_154 kv_X11_120 (cj_strB bh12) rfl rfl rfl rfl (Nat.le_of_ble_eq_true rfl) (by first | exact hd3 | exact hd6 | exact hd7) (by decide) ?_
  rintro ⟨ts16, tb17, tf18⟩ th19
  try dsimp only at th19
  show R g mX11_text (k + 1 + 8) ((16 * 2 ^ k - 16) + (16 * 2 ^ k - 16) + 6) ((33000 * 2 ^ k - 33000) + (33000 * 2 ^ k - 33000) + 20870) 157 [(4, .ref u4), (3, .ref u3), (2, .ref u2), (1, .ref u1), (0, .ref a)] [.ref ts16] ((ts16, .inr (12, [.ref tb17, .int (0 : Int32), .int (0 : Int32), .int (0 : Int32)])) :: ((tb17, yA g L14.length tf18) :: ((q1, .inr (13, [.ref bv9, .int (0 : Int32), .int (0 : Int32), .int (nI L14.length)])) :: ((bv9, yA g bm10 bf11) :: t0)))) _
  rw [e0]
  refine r_seg (ws2 := ((ts16, .inr (12, [.ref tb17, .int (0 : Int32), .int (0 : Int32), .int (0 : Int32)])) :: ((tb17, yA g L14.length tf18) :: t))) [[(ts16, .inr (12, [.ref tb17, .int (0 : Int32), .int (0 : Int32), .int (0 : Int32)]))], [(tb17, yA g L14.length tf18)], [(q1, .inr (13, [.ref bv9, .int (0 : Int32), .int (0 : Int32), .int (nI L14.length)]))], [(bv9, yA g bm10 bf11)], [(u4, qA g 7 4 (va_up (va_up (va_up (va_up (fun _ => none) 0 (some (gK g 43))) 1 (some (gK g 44))) 2 (some (gK g 45))) 3 (some (gK g 46))))], [(u3, qA g 7 5 (va_up (va_up (va_up (va_up (va_up (fun _ => none) 0 (some (gK g 38))) 1 (some (gK g 39))) 2 (some (gK g 40))) 3 (some (gK g 41))) 4 (some (gK g 42))))], [(u2, qA g 7 6 (va_up (va_up (va_up (va_up (va_up (va_up (fun _ => none) 0 (some (gK g 32))) 1 (some (gK g 33))) 2 (some (gK g 34))) 3 (some (gK g 35))) 4 (some (gK g 36))) 5 (some (gK g 37))))], [(u1, qA g 7 6 (va_up (va_up (va_up (va_up (va_up (va_up (fun _ => none) 0 (some (gK g iE))) 1 (some (gK g 27))) 2 (some (gK g 28))) 3 (some (gK g 29))) 4 (some (gK g 30))) 5 (some (gK g 31))))], t] [0, 1, 8] rfl rfl rfl ?_
  subst eL15
  subst eL8
  refine r_aret dX11_text_157 rfl rfl (Or.inr ⟨_, rfl⟩) ?_
  exact Dq.mk (Sum.inr (ts16, tb17, tf18)) rfl rfl th19
set_option maxRecDepth 20000 in
set_option maxHeartbeats 8000000 in
theorem tx_1 {g : GG} {ne nt k a n o u1 u2 u3 u4 : Nat} {t t0 : va_W}  {vb : Value} {va : Value} (IH : TextH g ne nt k) (e0 : t0 = ((u4, qA g 7 4 (va_up (va_up (va_up (va_up (fun _ => none) 0 (some (gK g 43))) 1 (some (gK g 44))) 2 (some (gK g 45))) 3 (some (gK g 46)))) :: ((u3, qA g 7 5 (va_up (va_up (va_up (va_up (va_up (fun _ => none) 0 (some (gK g 38))) 1 (some (gK g 39))) 2 (some (gK g 40))) 3 (some (gK g 41))) 4 (some (gK g 42)))) :: ((u2, qA g 7 6 (va_up (va_up (va_up (va_up (va_up (va_up (fun _ => none) 0 (some (gK g 32))) 1 (some (gK g 33))) 2 (some (gK g 34))) 3 (some (gK g 35))) 4 (some (gK g 36))) 5 (some (gK g 37)))) :: ((u1, qA g 7 6 (va_up (va_up (va_up (va_up (va_up (va_up (fun _ => none) 0 (some (gK g iE))) 1 (some (gK g 27))) 2 (some (gK g 28))) 3 (some (gK g 29))) 4 (some (gK g 30))) 5 (some (gK g 31)))) :: t))))) (hk5 : k ≤ 5) (hn : nt ≤ 10) (hne : ne ≤ 10) (ho : (a, .inr (11, [.int (1 : Int32), .int (nI n), .int (nI o), va, vb])) ∈ t) : R g mX11_text (k + 1 + 8) ((16 * 2 ^ k - 16) + (16 * 2 ^ k - 16) + 12) ((33000 * 2 ^ k - 33000) + (33000 * 2 ^ k - 33000) + 32900) 128 [(4, .ref u4), (3, .ref u3), (2, .ref u2), (1, .ref u1), (0, .ref a)] [] t0 (Dq (fun (z : SZ) => some (sv g z)) (fun z => sw g (kT 27).length z ++ t) (fun z => sP (kT 27) z)) := by
  have hd3 : 3 + 1 ≤ k + 1 + 8 := by omega
  have hd6 : 6 + 1 ≤ k + 1 + 8 := by omega
  have hd7 : 7 + 1 ≤ k + 1 + 8 := by omega
  have m0 : (u4, qA g 7 4 (va_up (va_up (va_up (va_up (fun _ => none) 0 (some (gK g 43))) 1 (some (gK g 44))) 2 (some (gK g 45))) 3 (some (gK g 46)))) ∈ t0 := by rw [e0]; exact List.mem_cons_self
  have m1 : (u3, qA g 7 5 (va_up (va_up (va_up (va_up (va_up (fun _ => none) 0 (some (gK g 38))) 1 (some (gK g 39))) 2 (some (gK g 40))) 3 (some (gK g 41))) 4 (some (gK g 42)))) ∈ t0 := by rw [e0]; exact (List.mem_cons_of_mem _ List.mem_cons_self)
  have m2 : (u2, qA g 7 6 (va_up (va_up (va_up (va_up (va_up (va_up (fun _ => none) 0 (some (gK g 32))) 1 (some (gK g 33))) 2 (some (gK g 34))) 3 (some (gK g 35))) 4 (some (gK g 36))) 5 (some (gK g 37)))) ∈ t0 := by rw [e0]; exact (List.mem_cons_of_mem _ (List.mem_cons_of_mem _ List.mem_cons_self))
  have m3 : (u1, qA g 7 6 (va_up (va_up (va_up (va_up (va_up (va_up (fun _ => none) 0 (some (gK g iE))) 1 (some (gK g 27))) 2 (some (gK g 28))) 3 (some (gK g 29))) 4 (some (gK g 30))) 5 (some (gK g 31)))) ∈ t0 := by rw [e0]; exact (List.mem_cons_of_mem _ (List.mem_cons_of_mem _ (List.mem_cons_of_mem _ List.mem_cons_self)))
  have mt : ∀ p ∈ t, p ∈ t0 := fun p hp => by rw [e0]; exact (List.mem_cons_of_mem _ (List.mem_cons_of_mem _ (List.mem_cons_of_mem _ (List.mem_cons_of_mem _ hp))))
  have hoK := mt _ ho
  refine r_aload_n 4 dX11_text_128 rfl ?_
  refine r_getm (v := .int (1 : Int32)) (ci := 11) (fs := [.int (1 : Int32), .int (nI n), .int (nI o), va, vb]) dX11_text_129 fl_X11_7 hoK rfl ?_
  refine r_if_ne (tgt := 158) dX11_text_132 (by decide) (fun _ => ?_) (fun hc => absurd hc (by decide))
  refine r_aload_n 4 dX11_text_158 rfl ?_
  refine r_getm (v := .int (1 : Int32)) (ci := 11) (fs := [.int (1 : Int32), .int (nI n), .int (nI o), va, vb]) dX11_text_159 fl_X11_7 hoK rfl ?_
  refine r_iconst (v := (4 : Int32)) dX11_text_162 (by decide) ?_
  refine r_icmp_ge (tgt := 173) dX11_text_163 (by decide) (fun hc => absurd hc (by decide)) (fun _ => ?_)
  refine r_aload_n 3 dX11_text_166 rfl ?_
  refine r_aload_n 4 dX11_text_167 rfl ?_
  refine r_getm (v := .int (1 : Int32)) (ci := 11) (fs := [.int (1 : Int32), .int (nI n), .int (nI o), va, vb]) dX11_text_168 fl_X11_7 hoK rfl ?_
  refine r_aaldm (t := 7) (n := 6) (f := (va_up (va_up (va_up (va_up (va_up (va_up (fun _ => none) 0 (some (gK g iE))) 1 (some (gK g 27))) 2 (some (gK g 28))) 3 (some (gK g 29))) 4 (some (gK g 30))) 5 (some (gK g 31)))) (v := .ref (gK g 27)) dX11_text_171 rfl rfl m3 (by decide) (by rfl) ?_
  rw [e0]
  refine r_seg (ws2 := t) [[(u4, qA g 7 4 (va_up (va_up (va_up (va_up (fun _ => none) 0 (some (gK g 43))) 1 (some (gK g 44))) 2 (some (gK g 45))) 3 (some (gK g 46))))], [(u3, qA g 7 5 (va_up (va_up (va_up (va_up (va_up (fun _ => none) 0 (some (gK g 38))) 1 (some (gK g 39))) 2 (some (gK g 40))) 3 (some (gK g 41))) 4 (some (gK g 42))))], [(u2, qA g 7 6 (va_up (va_up (va_up (va_up (va_up (va_up (fun _ => none) 0 (some (gK g 32))) 1 (some (gK g 33))) 2 (some (gK g 34))) 3 (some (gK g 35))) 4 (some (gK g 36))) 5 (some (gK g 37))))], [(u1, qA g 7 6 (va_up (va_up (va_up (va_up (va_up (va_up (fun _ => none) 0 (some (gK g iE))) 1 (some (gK g 27))) 2 (some (gK g 28))) 3 (some (gK g 29))) 4 (some (gK g 30))) 5 (some (gK g 31))))], t] [4] rfl rfl rfl ?_
  refine r_aret dX11_text_172 rfl rfl (Or.inr ⟨_, rfl⟩) ?_
  exact Dq.mk (Sum.inl 27) rfl rfl ⟨by decide, rfl⟩
set_option maxRecDepth 20000 in
set_option maxHeartbeats 8000000 in
theorem tx_2 {g : GG} {ne nt k a n o u1 u2 u3 u4 : Nat} {t t0 : va_W}  {vb : Value} {va : Value} (IH : TextH g ne nt k) (e0 : t0 = ((u4, qA g 7 4 (va_up (va_up (va_up (va_up (fun _ => none) 0 (some (gK g 43))) 1 (some (gK g 44))) 2 (some (gK g 45))) 3 (some (gK g 46)))) :: ((u3, qA g 7 5 (va_up (va_up (va_up (va_up (va_up (fun _ => none) 0 (some (gK g 38))) 1 (some (gK g 39))) 2 (some (gK g 40))) 3 (some (gK g 41))) 4 (some (gK g 42)))) :: ((u2, qA g 7 6 (va_up (va_up (va_up (va_up (va_up (va_up (fun _ => none) 0 (some (gK g 32))) 1 (some (gK g 33))) 2 (some (gK g 34))) 3 (some (gK g 35))) 4 (some (gK g 36))) 5 (some (gK g 37)))) :: ((u1, qA g 7 6 (va_up (va_up (va_up (va_up (va_up (va_up (fun _ => none) 0 (some (gK g iE))) 1 (some (gK g 27))) 2 (some (gK g 28))) 3 (some (gK g 29))) 4 (some (gK g 30))) 5 (some (gK g 31)))) :: t))))) (hk5 : k ≤ 5) (hn : nt ≤ 10) (hne : ne ≤ 10) (ho : (a, .inr (11, [.int (2 : Int32), .int (nI n), .int (nI o), va, vb])) ∈ t) : R g mX11_text (k + 1 + 8) ((16 * 2 ^ k - 16) + (16 * 2 ^ k - 16) + 12) ((33000 * 2 ^ k - 33000) + (33000 * 2 ^ k - 33000) + 32900) 128 [(4, .ref u4), (3, .ref u3), (2, .ref u2), (1, .ref u1), (0, .ref a)] [] t0 (Dq (fun (z : SZ) => some (sv g z)) (fun z => sw g (kT 28).length z ++ t) (fun z => sP (kT 28) z)) := by
  have hd3 : 3 + 1 ≤ k + 1 + 8 := by omega
  have hd6 : 6 + 1 ≤ k + 1 + 8 := by omega
  have hd7 : 7 + 1 ≤ k + 1 + 8 := by omega
  have m0 : (u4, qA g 7 4 (va_up (va_up (va_up (va_up (fun _ => none) 0 (some (gK g 43))) 1 (some (gK g 44))) 2 (some (gK g 45))) 3 (some (gK g 46)))) ∈ t0 := by rw [e0]; exact List.mem_cons_self
  have m1 : (u3, qA g 7 5 (va_up (va_up (va_up (va_up (va_up (fun _ => none) 0 (some (gK g 38))) 1 (some (gK g 39))) 2 (some (gK g 40))) 3 (some (gK g 41))) 4 (some (gK g 42)))) ∈ t0 := by rw [e0]; exact (List.mem_cons_of_mem _ List.mem_cons_self)
  have m2 : (u2, qA g 7 6 (va_up (va_up (va_up (va_up (va_up (va_up (fun _ => none) 0 (some (gK g 32))) 1 (some (gK g 33))) 2 (some (gK g 34))) 3 (some (gK g 35))) 4 (some (gK g 36))) 5 (some (gK g 37)))) ∈ t0 := by rw [e0]; exact (List.mem_cons_of_mem _ (List.mem_cons_of_mem _ List.mem_cons_self))
  have m3 : (u1, qA g 7 6 (va_up (va_up (va_up (va_up (va_up (va_up (fun _ => none) 0 (some (gK g iE))) 1 (some (gK g 27))) 2 (some (gK g 28))) 3 (some (gK g 29))) 4 (some (gK g 30))) 5 (some (gK g 31)))) ∈ t0 := by rw [e0]; exact (List.mem_cons_of_mem _ (List.mem_cons_of_mem _ (List.mem_cons_of_mem _ List.mem_cons_self)))
  have mt : ∀ p ∈ t, p ∈ t0 := fun p hp => by rw [e0]; exact (List.mem_cons_of_mem _ (List.mem_cons_of_mem _ (List.mem_cons_of_mem _ (List.mem_cons_of_mem _ hp))))
  have hoK := mt _ ho
  refine r_aload_n 4 dX11_text_128 rfl ?_
  refine r_getm (v := .int (2 : Int32)) (ci := 11) (fs := [.int (2 : Int32), .int (nI n), .int (nI o), va, vb]) dX11_text_129 fl_X11_7 hoK rfl ?_
  refine r_if_ne (tgt := 158) dX11_text_132 (by decide) (fun _ => ?_) (fun hc => absurd hc (by decide))
  refine r_aload_n 4 dX11_text_158 rfl ?_
  refine r_getm (v := .int (2 : Int32)) (ci := 11) (fs := [.int (2 : Int32), .int (nI n), .int (nI o), va, vb]) dX11_text_159 fl_X11_7 hoK rfl ?_
  refine r_iconst (v := (4 : Int32)) dX11_text_162 (by decide) ?_
  refine r_icmp_ge (tgt := 173) dX11_text_163 (by decide) (fun hc => absurd hc (by decide)) (fun _ => ?_)
  refine r_aload_n 3 dX11_text_166 rfl ?_
  refine r_aload_n 4 dX11_text_167 rfl ?_
  refine r_getm (v := .int (2 : Int32)) (ci := 11) (fs := [.int (2 : Int32), .int (nI n), .int (nI o), va, vb]) dX11_text_168 fl_X11_7 hoK rfl ?_
  refine r_aaldm (t := 7) (n := 6) (f := (va_up (va_up (va_up (va_up (va_up (va_up (fun _ => none) 0 (some (gK g iE))) 1 (some (gK g 27))) 2 (some (gK g 28))) 3 (some (gK g 29))) 4 (some (gK g 30))) 5 (some (gK g 31)))) (v := .ref (gK g 28)) dX11_text_171 rfl rfl m3 (by decide) (by rfl) ?_
  rw [e0]
  refine r_seg (ws2 := t) [[(u4, qA g 7 4 (va_up (va_up (va_up (va_up (fun _ => none) 0 (some (gK g 43))) 1 (some (gK g 44))) 2 (some (gK g 45))) 3 (some (gK g 46))))], [(u3, qA g 7 5 (va_up (va_up (va_up (va_up (va_up (fun _ => none) 0 (some (gK g 38))) 1 (some (gK g 39))) 2 (some (gK g 40))) 3 (some (gK g 41))) 4 (some (gK g 42))))], [(u2, qA g 7 6 (va_up (va_up (va_up (va_up (va_up (va_up (fun _ => none) 0 (some (gK g 32))) 1 (some (gK g 33))) 2 (some (gK g 34))) 3 (some (gK g 35))) 4 (some (gK g 36))) 5 (some (gK g 37))))], [(u1, qA g 7 6 (va_up (va_up (va_up (va_up (va_up (va_up (fun _ => none) 0 (some (gK g iE))) 1 (some (gK g 27))) 2 (some (gK g 28))) 3 (some (gK g 29))) 4 (some (gK g 30))) 5 (some (gK g 31))))], t] [4] rfl rfl rfl ?_
  refine r_aret dX11_text_172 rfl rfl (Or.inr ⟨_, rfl⟩) ?_
  exact Dq.mk (Sum.inl 28) rfl rfl ⟨by decide, rfl⟩
set_option maxRecDepth 20000 in
set_option maxHeartbeats 8000000 in
theorem tx_3 {g : GG} {ne nt k a n o u1 u2 u3 u4 : Nat} {t t0 : va_W}  {vb : Value} {va : Value} (IH : TextH g ne nt k) (e0 : t0 = ((u4, qA g 7 4 (va_up (va_up (va_up (va_up (fun _ => none) 0 (some (gK g 43))) 1 (some (gK g 44))) 2 (some (gK g 45))) 3 (some (gK g 46)))) :: ((u3, qA g 7 5 (va_up (va_up (va_up (va_up (va_up (fun _ => none) 0 (some (gK g 38))) 1 (some (gK g 39))) 2 (some (gK g 40))) 3 (some (gK g 41))) 4 (some (gK g 42)))) :: ((u2, qA g 7 6 (va_up (va_up (va_up (va_up (va_up (va_up (fun _ => none) 0 (some (gK g 32))) 1 (some (gK g 33))) 2 (some (gK g 34))) 3 (some (gK g 35))) 4 (some (gK g 36))) 5 (some (gK g 37)))) :: ((u1, qA g 7 6 (va_up (va_up (va_up (va_up (va_up (va_up (fun _ => none) 0 (some (gK g iE))) 1 (some (gK g 27))) 2 (some (gK g 28))) 3 (some (gK g 29))) 4 (some (gK g 30))) 5 (some (gK g 31)))) :: t))))) (hk5 : k ≤ 5) (hn : nt ≤ 10) (hne : ne ≤ 10) (ho : (a, .inr (11, [.int (3 : Int32), .int (nI n), .int (nI o), va, vb])) ∈ t) : R g mX11_text (k + 1 + 8) ((16 * 2 ^ k - 16) + (16 * 2 ^ k - 16) + 12) ((33000 * 2 ^ k - 33000) + (33000 * 2 ^ k - 33000) + 32900) 128 [(4, .ref u4), (3, .ref u3), (2, .ref u2), (1, .ref u1), (0, .ref a)] [] t0 (Dq (fun (z : SZ) => some (sv g z)) (fun z => sw g (kT 29).length z ++ t) (fun z => sP (kT 29) z)) := by
  have hd3 : 3 + 1 ≤ k + 1 + 8 := by omega
  have hd6 : 6 + 1 ≤ k + 1 + 8 := by omega
  have hd7 : 7 + 1 ≤ k + 1 + 8 := by omega
  have m0 : (u4, qA g 7 4 (va_up (va_up (va_up (va_up (fun _ => none) 0 (some (gK g 43))) 1 (some (gK g 44))) 2 (some (gK g 45))) 3 (some (gK g 46)))) ∈ t0 := by rw [e0]; exact List.mem_cons_self
  have m1 : (u3, qA g 7 5 (va_up (va_up (va_up (va_up (va_up (fun _ => none) 0 (some (gK g 38))) 1 (some (gK g 39))) 2 (some (gK g 40))) 3 (some (gK g 41))) 4 (some (gK g 42)))) ∈ t0 := by rw [e0]; exact (List.mem_cons_of_mem _ List.mem_cons_self)
  have m2 : (u2, qA g 7 6 (va_up (va_up (va_up (va_up (va_up (va_up (fun _ => none) 0 (some (gK g 32))) 1 (some (gK g 33))) 2 (some (gK g 34))) 3 (some (gK g 35))) 4 (some (gK g 36))) 5 (some (gK g 37)))) ∈ t0 := by rw [e0]; exact (List.mem_cons_of_mem _ (List.mem_cons_of_mem _ List.mem_cons_self))
  have m3 : (u1, qA g 7 6 (va_up (va_up (va_up (va_up (va_up (va_up (fun _ => none) 0 (some (gK g iE))) 1 (some (gK g 27))) 2 (some (gK g 28))) 3 (some (gK g 29))) 4 (some (gK g 30))) 5 (some (gK g 31)))) ∈ t0 := by rw [e0]; exact (List.mem_cons_of_mem _ (List.mem_cons_of_mem _ (List.mem_cons_of_mem _ List.mem_cons_self)))
  have mt : ∀ p ∈ t, p ∈ t0 := fun p hp => by rw [e0]; exact (List.mem_cons_of_mem _ (List.mem_cons_of_mem _ (List.mem_cons_of_mem _ (List.mem_cons_of_mem _ hp))))
  have hoK := mt _ ho
  refine r_aload_n 4 dX11_text_128 rfl ?_
  refine r_getm (v := .int (3 : Int32)) (ci := 11) (fs := [.int (3 : Int32), .int (nI n), .int (nI o), va, vb]) dX11_text_129 fl_X11_7 hoK rfl ?_
  refine r_if_ne (tgt := 158) dX11_text_132 (by decide) (fun _ => ?_) (fun hc => absurd hc (by decide))
  refine r_aload_n 4 dX11_text_158 rfl ?_
  refine r_getm (v := .int (3 : Int32)) (ci := 11) (fs := [.int (3 : Int32), .int (nI n), .int (nI o), va, vb]) dX11_text_159 fl_X11_7 hoK rfl ?_
  refine r_iconst (v := (4 : Int32)) dX11_text_162 (by decide) ?_
  refine r_icmp_ge (tgt := 173) dX11_text_163 (by decide) (fun hc => absurd hc (by decide)) (fun _ => ?_)
  refine r_aload_n 3 dX11_text_166 rfl ?_
  refine r_aload_n 4 dX11_text_167 rfl ?_
  refine r_getm (v := .int (3 : Int32)) (ci := 11) (fs := [.int (3 : Int32), .int (nI n), .int (nI o), va, vb]) dX11_text_168 fl_X11_7 hoK rfl ?_
  refine r_aaldm (t := 7) (n := 6) (f := (va_up (va_up (va_up (va_up (va_up (va_up (fun _ => none) 0 (some (gK g iE))) 1 (some (gK g 27))) 2 (some (gK g 28))) 3 (some (gK g 29))) 4 (some (gK g 30))) 5 (some (gK g 31)))) (v := .ref (gK g 29)) dX11_text_171 rfl rfl m3 (by decide) (by rfl) ?_
  rw [e0]
  refine r_seg (ws2 := t) [[(u4, qA g 7 4 (va_up (va_up (va_up (va_up (fun _ => none) 0 (some (gK g 43))) 1 (some (gK g 44))) 2 (some (gK g 45))) 3 (some (gK g 46))))], [(u3, qA g 7 5 (va_up (va_up (va_up (va_up (va_up (fun _ => none) 0 (some (gK g 38))) 1 (some (gK g 39))) 2 (some (gK g 40))) 3 (some (gK g 41))) 4 (some (gK g 42))))], [(u2, qA g 7 6 (va_up (va_up (va_up (va_up (va_up (va_up (fun _ => none) 0 (some (gK g 32))) 1 (some (gK g 33))) 2 (some (gK g 34))) 3 (some (gK g 35))) 4 (some (gK g 36))) 5 (some (gK g 37))))], [(u1, qA g 7 6 (va_up (va_up (va_up (va_up (va_up (va_up (fun _ => none) 0 (some (gK g iE))) 1 (some (gK g 27))) 2 (some (gK g 28))) 3 (some (gK g 29))) 4 (some (gK g 30))) 5 (some (gK g 31))))], t] [4] rfl rfl rfl ?_
  refine r_aret dX11_text_172 rfl rfl (Or.inr ⟨_, rfl⟩) ?_
  exact Dq.mk (Sum.inl 29) rfl rfl ⟨by decide, rfl⟩
set_option maxRecDepth 20000 in
set_option maxHeartbeats 8000000 in
theorem tx_4 {g : GG} {ne nt k a n o u1 u2 u3 u4 : Nat} {t t0 : va_W}  {vb : Value} {va : Value} (IH : TextH g ne nt k) (e0 : t0 = ((u4, qA g 7 4 (va_up (va_up (va_up (va_up (fun _ => none) 0 (some (gK g 43))) 1 (some (gK g 44))) 2 (some (gK g 45))) 3 (some (gK g 46)))) :: ((u3, qA g 7 5 (va_up (va_up (va_up (va_up (va_up (fun _ => none) 0 (some (gK g 38))) 1 (some (gK g 39))) 2 (some (gK g 40))) 3 (some (gK g 41))) 4 (some (gK g 42)))) :: ((u2, qA g 7 6 (va_up (va_up (va_up (va_up (va_up (va_up (fun _ => none) 0 (some (gK g 32))) 1 (some (gK g 33))) 2 (some (gK g 34))) 3 (some (gK g 35))) 4 (some (gK g 36))) 5 (some (gK g 37)))) :: ((u1, qA g 7 6 (va_up (va_up (va_up (va_up (va_up (va_up (fun _ => none) 0 (some (gK g iE))) 1 (some (gK g 27))) 2 (some (gK g 28))) 3 (some (gK g 29))) 4 (some (gK g 30))) 5 (some (gK g 31)))) :: t))))) (hk5 : k ≤ 5) (hn : nt ≤ 10) (hne : ne ≤ 10) (ho : (a, .inr (11, [.int (4 : Int32), .int (nI n), .int (nI o), va, vb])) ∈ t) (hb : n < 10) : R g mX11_text (k + 1 + 8) ((16 * 2 ^ k - 16) + (16 * 2 ^ k - 16) + 12) ((33000 * 2 ^ k - 33000) + (33000 * 2 ^ k - 33000) + 32900) 128 [(4, .ref u4), (3, .ref u3), (2, .ref u2), (1, .ref u1), (0, .ref a)] [] t0 (Dq (fun (z : SZ) => some (sv g z)) (fun z => sw g (((([] : List Int32) ++ kT 30) ++ dgL n) ++ kT 47).length z ++ t) (fun z => sP (((([] : List Int32) ++ kT 30) ++ dgL n) ++ kT 47) z)) := by
  have hd3 : 3 + 1 ≤ k + 1 + 8 := by omega
  have hd6 : 6 + 1 ≤ k + 1 + 8 := by omega
  have hd7 : 7 + 1 ≤ k + 1 + 8 := by omega
  have m0 : (u4, qA g 7 4 (va_up (va_up (va_up (va_up (fun _ => none) 0 (some (gK g 43))) 1 (some (gK g 44))) 2 (some (gK g 45))) 3 (some (gK g 46)))) ∈ t0 := by rw [e0]; exact List.mem_cons_self
  have m1 : (u3, qA g 7 5 (va_up (va_up (va_up (va_up (va_up (fun _ => none) 0 (some (gK g 38))) 1 (some (gK g 39))) 2 (some (gK g 40))) 3 (some (gK g 41))) 4 (some (gK g 42)))) ∈ t0 := by rw [e0]; exact (List.mem_cons_of_mem _ List.mem_cons_self)
  have m2 : (u2, qA g 7 6 (va_up (va_up (va_up (va_up (va_up (va_up (fun _ => none) 0 (some (gK g 32))) 1 (some (gK g 33))) 2 (some (gK g 34))) 3 (some (gK g 35))) 4 (some (gK g 36))) 5 (some (gK g 37)))) ∈ t0 := by rw [e0]; exact (List.mem_cons_of_mem _ (List.mem_cons_of_mem _ List.mem_cons_self))
  have m3 : (u1, qA g 7 6 (va_up (va_up (va_up (va_up (va_up (va_up (fun _ => none) 0 (some (gK g iE))) 1 (some (gK g 27))) 2 (some (gK g 28))) 3 (some (gK g 29))) 4 (some (gK g 30))) 5 (some (gK g 31)))) ∈ t0 := by rw [e0]; exact (List.mem_cons_of_mem _ (List.mem_cons_of_mem _ (List.mem_cons_of_mem _ List.mem_cons_self)))
  have mt : ∀ p ∈ t, p ∈ t0 := fun p hp => by rw [e0]; exact (List.mem_cons_of_mem _ (List.mem_cons_of_mem _ (List.mem_cons_of_mem _ (List.mem_cons_of_mem _ hp))))
  have hoK := mt _ ho
  refine r_aload_n 4 dX11_text_128 rfl ?_
  refine r_getm (v := .int (4 : Int32)) (ci := 11) (fs := [.int (4 : Int32), .int (nI n), .int (nI o), va, vb]) dX11_text_129 fl_X11_7 hoK rfl ?_
  refine r_if_ne (tgt := 158) dX11_text_132 (by decide) (fun _ => ?_) (fun hc => absurd hc (by decide))
  refine r_aload_n 4 dX11_text_158 rfl ?_
  refine r_getm (v := .int (4 : Int32)) (ci := 11) (fs := [.int (4 : Int32), .int (nI n), .int (nI o), va, vb]) dX11_text_159 fl_X11_7 hoK rfl ?_
  refine r_iconst (v := (4 : Int32)) dX11_text_162 (by decide) ?_
  refine r_icmp_ge (tgt := 173) dX11_text_163 (by decide) (fun _ => ?_) (fun hc => absurd (by decide) hc)
  refine r_aload_n 4 dX11_text_173 rfl ?_
  refine r_getm (v := .int (4 : Int32)) (ci := 11) (fs := [.int (4 : Int32), .int (nI n), .int (nI o), va, vb]) dX11_text_174 fl_X11_7 hoK rfl ?_
  refine r_bipush (v := (6 : Int32)) dX11_text_177 (by decide) ?_
  refine r_icmp_ge (tgt := 214) dX11_text_179 (by decide) (fun hc => absurd hc (by decide)) (fun _ => ?_)
  refine r_new (N := 4) (x := ((16 * 2 ^ k - 16) + (16 * 2 ^ k - 16) + 11)) (y := ((33000 * 2 ^ k - 33000) + (33000 * 2 ^ k - 33000) + 32896)) dX11_text_182 nl_X11_110 (fun q2 => ?_)
  refine r_dup dX11_text_185 rfl ?_
  refine r_room (x2 := ((16 * 2 ^ k - 16) + (16 * 2 ^ k - 16) + 10) + 1) (y2 := ((33000 * 2 ^ k - 33000) + (33000 * 2 ^ k - 33000) + 32880) + 16) (rq rfl) (rq rfl) ?_
  refine k_I (x := ((16 * 2 ^ k - 16) + (16 * 2 ^ k - 16) + 10)) (y := ((33000 * 2 ^ k - 33000) + (33000 * 2 ^ k - 33000) + 32880)) (rest := [.ref q2]) dX11_text_186 ki_X11_112 (cj_sb) rfl rfl (Nat.le_of_ble_eq_true rfl) (by first | exact hd3 | exact hd6 | exact hd7) (by decide) ?_
  rintro bv20 -
  show R g mX11_text (k + 1 + 8) ((16 * 2 ^ k - 16) + (16 * 2 ^ k - 16) + 10) ((33000 * 2 ^ k - 33000) + (33000 * 2 ^ k - 33000) + 32880) 189 [(4, .ref u4), (3, .ref u3), (2, .ref u2), (1, .ref u1), (0, .ref a)] [.ref q2] ((q2, .inr (13, [.ref bv20, .int (0 : Int32), .int (0 : Int32), .int (nI ([] : List Int32).length)])) :: ((bv20, yA g 16 (fun _ => 0)) :: t0)) _
  refine r_aload_n 3 dX11_text_189 rfl ?_
  refine r_aload_n 4 dX11_text_190 rfl ?_
  refine r_getm (v := .int (4 : Int32)) (ci := 11) (fs := [.int (4 : Int32), .int (nI n), .int (nI o), va, vb]) dX11_text_191 fl_X11_7 (List.mem_cons_of_mem _ (List.mem_cons_of_mem _ hoK)) rfl ?_
  refine r_aaldm (t := 7) (n := 6) (f := (va_up (va_up (va_up (va_up (va_up (va_up (fun _ => none) 0 (some (gK g iE))) 1 (some (gK g 27))) 2 (some (gK g 28))) 3 (some (gK g 29))) 4 (some (gK g 30))) 5 (some (gK g 31)))) (v := .ref (gK g 30)) dX11_text_194 rfl rfl (List.mem_cons_of_mem _ (List.mem_cons_of_mem _ m3)) (by decide) (by rfl) ?_
  obtain ⟨L26, eL27⟩ : ∃ L9 : List Int32, L9 = ([] : List Int32) ++ kT 30 := ⟨_, rfl⟩
  have bn25 : L26.length ≤ 11 := by rw [eL27]; exact lnA (L := ([] : List Int32)) (L2 := kT 30) (n := 0) (n2 := 11) (Nat.le_refl 0) (Nat.le_of_eq kl_30)
  refine r_room (x2 := ((16 * 2 ^ k - 16) + (16 * 2 ^ k - 16) + 9) + 1) (y2 := ((33000 * 2 ^ k - 33000) + (33000 * 2 ^ k - 33000) + 28878) + 4002) (rq rfl) (rq rfl) ?_
  refine k_V (x := ((16 * 2 ^ k - 16) + (16 * 2 ^ k - 16) + 9)) (y := ((33000 * 2 ^ k - 33000) + (33000 * 2 ^ k - 33000) + 28878)) (rest := []) 0 dX11_text_195 kv_X11_113 (cj_apK (i := 30) (by decide) eL27 BL.nil (Nat.le_trans bn25 (by decide))) rfl rfl rfl rfl (Nat.le_of_ble_eq_true rfl) (by first | exact hd3 | exact hd6 | exact hd7) (by decide) ?_
  rintro ⟨bv21, bm22, bf23⟩ bh24
  try dsimp only at bh24
  show R g mX11_text (k + 1 + 8) ((16 * 2 ^ k - 16) + (16 * 2 ^ k - 16) + 9) ((33000 * 2 ^ k - 33000) + (33000 * 2 ^ k - 33000) + 28878) 198 [(4, .ref u4), (3, .ref u3), (2, .ref u2), (1, .ref u1), (0, .ref a)] [.ref q2] ((q2, .inr (13, [.ref bv21, .int (0 : Int32), .int (0 : Int32), .int (nI L26.length)])) :: ((bv21, yA g bm22 bf23) :: t0)) _
  refine r_aload_n 4 dX11_text_198 rfl ?_
  refine r_getm (v := .int (nI n)) (ci := 11) (fs := [.int (4 : Int32), .int (nI n), .int (nI o), va, vb]) dX11_text_199 fl_X11_13 (List.mem_cons_of_mem _ (List.mem_cons_of_mem _ hoK)) rfl ?_
  obtain ⟨L33, eL34⟩ : ∃ L9 : List Int32, L9 = L26 ++ dgL n := ⟨_, rfl⟩
  have bn32 : L33.length ≤ 12 := by rw [eL34]; exact lnA (L := L26) (L2 := dgL n) (n := 11) (n2 := 1) bn25 (dgL_t1 hb)
  refine r_room (x2 := ((16 * 2 ^ k - 16) + (16 * 2 ^ k - 16) + 8) + 1) (y2 := ((33000 * 2 ^ k - 33000) + (33000 * 2 ^ k - 33000) + 24876) + 4002) (rq rfl) (rq rfl) ?_
  refine k_V (x := ((16 * 2 ^ k - 16) + (16 * 2 ^ k - 16) + 8)) (y := ((33000 * 2 ^ k - 33000) + (33000 * 2 ^ k - 33000) + 24876)) (rest := []) 0 dX11_text_202 kv_X11_117 (cj_apI (x9 := n) (Nat.lt_trans hb (by decide)) eL34 bh24 (Nat.le_trans bn32 (by decide))) rfl rfl rfl rfl (Nat.le_of_ble_eq_true rfl) (by first | exact hd3 | exact hd6 | exact hd7) (by decide) ?_
  rintro ⟨bv28, bm29, bf30⟩ bh31
  try dsimp only at bh31
  show R g mX11_text (k + 1 + 8) ((16 * 2 ^ k - 16) + (16 * 2 ^ k - 16) + 8) ((33000 * 2 ^ k - 33000) + (33000 * 2 ^ k - 33000) + 24876) 205 [(4, .ref u4), (3, .ref u3), (2, .ref u2), (1, .ref u1), (0, .ref a)] [.ref q2] ((q2, .inr (13, [.ref bv28, .int (0 : Int32), .int (0 : Int32), .int (nI L33.length)])) :: ((bv28, yA g bm29 bf30) :: t0)) _
  refine r_ldcS (i := 47) dX11_text_205 rfl ?_
  obtain ⟨L40, eL41⟩ : ∃ L9 : List Int32, L9 = L33 ++ kT 47 := ⟨_, rfl⟩
  have bn39 : L40.length ≤ 13 := by rw [eL41]; exact lnA (L := L33) (L2 := kT 47) (n := 12) (n2 := 1) bn32 (Nat.le_of_eq kl_47)
  refine r_room (x2 := ((16 * 2 ^ k - 16) + (16 * 2 ^ k - 16) + 7) + 1) (y2 := ((33000 * 2 ^ k - 33000) + (33000 * 2 ^ k - 33000) + 20874) + 4002) (rq rfl) (rq rfl) ?_
  refine k_V (x := ((16 * 2 ^ k - 16) + (16 * 2 ^ k - 16) + 7)) (y := ((33000 * 2 ^ k - 33000) + (33000 * 2 ^ k - 33000) + 20874)) (rest := []) 0 dX11_text_207 kv_X11_113 (cj_apK (i := 47) (by decide) eL41 bh31 (Nat.le_trans bn39 (by decide))) rfl rfl rfl rfl (Nat.le_of_ble_eq_true rfl) (by first | exact hd3 | exact hd6 | exact hd7) (by decide) ?_
  rintro ⟨bv35, bm36, bf37⟩ bh38
  try dsimp only at bh38
  show R g mX11_text (k + 1 + 8) ((16 * 2 ^ k - 16) + (16 * 2 ^ k - 16) + 7) ((33000 * 2 ^ k - 33000) + (33000 * 2 ^ k - 33000) + 20874) 210 [(4, .ref u4), (3, .ref u3), (2, .ref u2), (1, .ref u1), (0, .ref a)] [.ref q2] ((q2, .inr (13, [.ref bv35, .int (0 : Int32), .int (0 : Int32), .int (nI L40.length)])) :: ((bv35, yA g bm36 bf37) :: t0)) _
  refine r_room (x2 := ((16 * 2 ^ k - 16) + (16 * 2 ^ k - 16) + 5) + 2) (y2 := ((33000 * 2 ^ k - 33000) + (33000 * 2 ^ k - 33000) + 16868) + 4006) (rq rfl) (rq rfl) ?_
  refine k_V (x := ((16 * 2 ^ k - 16) + (16 * 2 ^ k - 16) + 5)) (y := ((33000 * 2 ^ k - 33000) + (33000 * 2 ^ k - 33000) + 16868)) (rest := []) 0 dX11_text_210 kv_X11_120 (cj_strB bh38) rfl rfl rfl rfl (Nat.le_of_ble_eq_true rfl) (by first | exact hd3 | exact hd6 | exact hd7) (by decide) ?_
  rintro ⟨ts42, tb43, tf44⟩ th45
  try dsimp only at th45
  show R g mX11_text (k + 1 + 8) ((16 * 2 ^ k - 16) + (16 * 2 ^ k - 16) + 5) ((33000 * 2 ^ k - 33000) + (33000 * 2 ^ k - 33000) + 16868) 213 [(4, .ref u4), (3, .ref u3), (2, .ref u2), (1, .ref u1), (0, .ref a)] [.ref ts42] ((ts42, .inr (12, [.ref tb43, .int (0 : Int32), .int (0 : Int32), .int (0 : Int32)])) :: ((tb43, yA g L40.length tf44) :: ((q2, .inr (13, [.ref bv35, .int (0 : Int32), .int (0 : Int32), .int (nI L40.length)])) :: ((bv35, yA g bm36 bf37) :: t0)))) _
  rw [e0]
  refine r_seg (ws2 := ((ts42, .inr (12, [.ref tb43, .int (0 : Int32), .int (0 : Int32), .int (0 : Int32)])) :: ((tb43, yA g L40.length tf44) :: t))) [[(ts42, .inr (12, [.ref tb43, .int (0 : Int32), .int (0 : Int32), .int (0 : Int32)]))], [(tb43, yA g L40.length tf44)], [(q2, .inr (13, [.ref bv35, .int (0 : Int32), .int (0 : Int32), .int (nI L40.length)]))], [(bv35, yA g bm36 bf37)], [(u4, qA g 7 4 (va_up (va_up (va_up (va_up (fun _ => none) 0 (some (gK g 43))) 1 (some (gK g 44))) 2 (some (gK g 45))) 3 (some (gK g 46))))], [(u3, qA g 7 5 (va_up (va_up (va_up (va_up (va_up (fun _ => none) 0 (some (gK g 38))) 1 (some (gK g 39))) 2 (some (gK g 40))) 3 (some (gK g 41))) 4 (some (gK g 42))))], [(u2, qA g 7 6 (va_up (va_up (va_up (va_up (va_up (va_up (fun _ => none) 0 (some (gK g 32))) 1 (some (gK g 33))) 2 (some (gK g 34))) 3 (some (gK g 35))) 4 (some (gK g 36))) 5 (some (gK g 37))))], [(u1, qA g 7 6 (va_up (va_up (va_up (va_up (va_up (va_up (fun _ => none) 0 (some (gK g iE))) 1 (some (gK g 27))) 2 (some (gK g 28))) 3 (some (gK g 29))) 4 (some (gK g 30))) 5 (some (gK g 31))))], t] [0, 1, 8] rfl rfl rfl ?_
  subst eL41
  subst eL34
  subst eL27
  refine r_aret dX11_text_213 rfl rfl (Or.inr ⟨_, rfl⟩) ?_
  exact Dq.mk (Sum.inr (ts42, tb43, tf44)) rfl rfl th45
set_option maxRecDepth 20000 in
set_option maxHeartbeats 8000000 in
theorem tx_5 {g : GG} {ne nt k a n o u1 u2 u3 u4 : Nat} {t t0 : va_W}  {vb : Value} {va : Value} (IH : TextH g ne nt k) (e0 : t0 = ((u4, qA g 7 4 (va_up (va_up (va_up (va_up (fun _ => none) 0 (some (gK g 43))) 1 (some (gK g 44))) 2 (some (gK g 45))) 3 (some (gK g 46)))) :: ((u3, qA g 7 5 (va_up (va_up (va_up (va_up (va_up (fun _ => none) 0 (some (gK g 38))) 1 (some (gK g 39))) 2 (some (gK g 40))) 3 (some (gK g 41))) 4 (some (gK g 42)))) :: ((u2, qA g 7 6 (va_up (va_up (va_up (va_up (va_up (va_up (fun _ => none) 0 (some (gK g 32))) 1 (some (gK g 33))) 2 (some (gK g 34))) 3 (some (gK g 35))) 4 (some (gK g 36))) 5 (some (gK g 37)))) :: ((u1, qA g 7 6 (va_up (va_up (va_up (va_up (va_up (va_up (fun _ => none) 0 (some (gK g iE))) 1 (some (gK g 27))) 2 (some (gK g 28))) 3 (some (gK g 29))) 4 (some (gK g 30))) 5 (some (gK g 31)))) :: t))))) (hk5 : k ≤ 5) (hn : nt ≤ 10) (hne : ne ≤ 10) (ho : (a, .inr (11, [.int (5 : Int32), .int (nI n), .int (nI o), va, vb])) ∈ t) (hb : n < 10) : R g mX11_text (k + 1 + 8) ((16 * 2 ^ k - 16) + (16 * 2 ^ k - 16) + 12) ((33000 * 2 ^ k - 33000) + (33000 * 2 ^ k - 33000) + 32900) 128 [(4, .ref u4), (3, .ref u3), (2, .ref u2), (1, .ref u1), (0, .ref a)] [] t0 (Dq (fun (z : SZ) => some (sv g z)) (fun z => sw g (((([] : List Int32) ++ kT 31) ++ dgL n) ++ kT 47).length z ++ t) (fun z => sP (((([] : List Int32) ++ kT 31) ++ dgL n) ++ kT 47) z)) := by
  have hd3 : 3 + 1 ≤ k + 1 + 8 := by omega
  have hd6 : 6 + 1 ≤ k + 1 + 8 := by omega
  have hd7 : 7 + 1 ≤ k + 1 + 8 := by omega
  have m0 : (u4, qA g 7 4 (va_up (va_up (va_up (va_up (fun _ => none) 0 (some (gK g 43))) 1 (some (gK g 44))) 2 (some (gK g 45))) 3 (some (gK g 46)))) ∈ t0 := by rw [e0]; exact List.mem_cons_self
  have m1 : (u3, qA g 7 5 (va_up (va_up (va_up (va_up (va_up (fun _ => none) 0 (some (gK g 38))) 1 (some (gK g 39))) 2 (some (gK g 40))) 3 (some (gK g 41))) 4 (some (gK g 42)))) ∈ t0 := by rw [e0]; exact (List.mem_cons_of_mem _ List.mem_cons_self)
  have m2 : (u2, qA g 7 6 (va_up (va_up (va_up (va_up (va_up (va_up (fun _ => none) 0 (some (gK g 32))) 1 (some (gK g 33))) 2 (some (gK g 34))) 3 (some (gK g 35))) 4 (some (gK g 36))) 5 (some (gK g 37)))) ∈ t0 := by rw [e0]; exact (List.mem_cons_of_mem _ (List.mem_cons_of_mem _ List.mem_cons_self))
  have m3 : (u1, qA g 7 6 (va_up (va_up (va_up (va_up (va_up (va_up (fun _ => none) 0 (some (gK g iE))) 1 (some (gK g 27))) 2 (some (gK g 28))) 3 (some (gK g 29))) 4 (some (gK g 30))) 5 (some (gK g 31)))) ∈ t0 := by rw [e0]; exact (List.mem_cons_of_mem _ (List.mem_cons_of_mem _ (List.mem_cons_of_mem _ List.mem_cons_self)))
  have mt : ∀ p ∈ t, p ∈ t0 := fun p hp => by rw [e0]; exact (List.mem_cons_of_mem _ (List.mem_cons_of_mem _ (List.mem_cons_of_mem _ (List.mem_cons_of_mem _ hp))))
  have hoK := mt _ ho
  refine r_aload_n 4 dX11_text_128 rfl ?_
  refine r_getm (v := .int (5 : Int32)) (ci := 11) (fs := [.int (5 : Int32), .int (nI n), .int (nI o), va, vb]) dX11_text_129 fl_X11_7 hoK rfl ?_
  refine r_if_ne (tgt := 158) dX11_text_132 (by decide) (fun _ => ?_) (fun hc => absurd hc (by decide))
  refine r_aload_n 4 dX11_text_158 rfl ?_
  refine r_getm (v := .int (5 : Int32)) (ci := 11) (fs := [.int (5 : Int32), .int (nI n), .int (nI o), va, vb]) dX11_text_159 fl_X11_7 hoK rfl ?_
  refine r_iconst (v := (4 : Int32)) dX11_text_162 (by decide) ?_
  refine r_icmp_ge (tgt := 173) dX11_text_163 (by decide) (fun _ => ?_) (fun hc => absurd (by decide) hc)
  refine r_aload_n 4 dX11_text_173 rfl ?_
  refine r_getm (v := .int (5 : Int32)) (ci := 11) (fs := [.int (5 : Int32), .int (nI n), .int (nI o), va, vb]) dX11_text_174 fl_X11_7 hoK rfl ?_
  refine r_bipush (v := (6 : Int32)) dX11_text_177 (by decide) ?_
  refine r_icmp_ge (tgt := 214) dX11_text_179 (by decide) (fun hc => absurd hc (by decide)) (fun _ => ?_)
  refine r_new (N := 4) (x := ((16 * 2 ^ k - 16) + (16 * 2 ^ k - 16) + 11)) (y := ((33000 * 2 ^ k - 33000) + (33000 * 2 ^ k - 33000) + 32896)) dX11_text_182 nl_X11_110 (fun q3 => ?_)
  refine r_dup dX11_text_185 rfl ?_
  refine r_room (x2 := ((16 * 2 ^ k - 16) + (16 * 2 ^ k - 16) + 10) + 1) (y2 := ((33000 * 2 ^ k - 33000) + (33000 * 2 ^ k - 33000) + 32880) + 16) (rq rfl) (rq rfl) ?_
  refine k_I (x := ((16 * 2 ^ k - 16) + (16 * 2 ^ k - 16) + 10)) (y := ((33000 * 2 ^ k - 33000) + (33000 * 2 ^ k - 33000) + 32880)) (rest := [.ref q3]) dX11_text_186 ki_X11_112 (cj_sb) rfl rfl (Nat.le_of_ble_eq_true rfl) (by first | exact hd3 | exact hd6 | exact hd7) (by decide) ?_
  rintro bv46 -
  show R g mX11_text (k + 1 + 8) ((16 * 2 ^ k - 16) + (16 * 2 ^ k - 16) + 10) ((33000 * 2 ^ k - 33000) + (33000 * 2 ^ k - 33000) + 32880) 189 [(4, .ref u4), (3, .ref u3), (2, .ref u2), (1, .ref u1), (0, .ref a)] [.ref q3] ((q3, .inr (13, [.ref bv46, .int (0 : Int32), .int (0 : Int32), .int (nI ([] : List Int32).length)])) :: ((bv46, yA g 16 (fun _ => 0)) :: t0)) _
  refine r_aload_n 3 dX11_text_189 rfl ?_
  refine r_aload_n 4 dX11_text_190 rfl ?_
  refine r_getm (v := .int (5 : Int32)) (ci := 11) (fs := [.int (5 : Int32), .int (nI n), .int (nI o), va, vb]) dX11_text_191 fl_X11_7 (List.mem_cons_of_mem _ (List.mem_cons_of_mem _ hoK)) rfl ?_
  refine r_aaldm (t := 7) (n := 6) (f := (va_up (va_up (va_up (va_up (va_up (va_up (fun _ => none) 0 (some (gK g iE))) 1 (some (gK g 27))) 2 (some (gK g 28))) 3 (some (gK g 29))) 4 (some (gK g 30))) 5 (some (gK g 31)))) (v := .ref (gK g 31)) dX11_text_194 rfl rfl (List.mem_cons_of_mem _ (List.mem_cons_of_mem _ m3)) (by decide) (by rfl) ?_
  obtain ⟨L52, eL53⟩ : ∃ L9 : List Int32, L9 = ([] : List Int32) ++ kT 31 := ⟨_, rfl⟩
  have bn51 : L52.length ≤ 11 := by rw [eL53]; exact lnA (L := ([] : List Int32)) (L2 := kT 31) (n := 0) (n2 := 11) (Nat.le_refl 0) (Nat.le_of_eq kl_31)
  refine r_room (x2 := ((16 * 2 ^ k - 16) + (16 * 2 ^ k - 16) + 9) + 1) (y2 := ((33000 * 2 ^ k - 33000) + (33000 * 2 ^ k - 33000) + 28878) + 4002) (rq rfl) (rq rfl) ?_
  refine k_V (x := ((16 * 2 ^ k - 16) + (16 * 2 ^ k - 16) + 9)) (y := ((33000 * 2 ^ k - 33000) + (33000 * 2 ^ k - 33000) + 28878)) (rest := []) 0 dX11_text_195 kv_X11_113 (cj_apK (i := 31) (by decide) eL53 BL.nil (Nat.le_trans bn51 (by decide))) rfl rfl rfl rfl (Nat.le_of_ble_eq_true rfl) (by first | exact hd3 | exact hd6 | exact hd7) (by decide) ?_
  rintro ⟨bv47, bm48, bf49⟩ bh50
  try dsimp only at bh50
  show R g mX11_text (k + 1 + 8) ((16 * 2 ^ k - 16) + (16 * 2 ^ k - 16) + 9) ((33000 * 2 ^ k - 33000) + (33000 * 2 ^ k - 33000) + 28878) 198 [(4, .ref u4), (3, .ref u3), (2, .ref u2), (1, .ref u1), (0, .ref a)] [.ref q3] ((q3, .inr (13, [.ref bv47, .int (0 : Int32), .int (0 : Int32), .int (nI L52.length)])) :: ((bv47, yA g bm48 bf49) :: t0)) _
  refine r_aload_n 4 dX11_text_198 rfl ?_
  refine r_getm (v := .int (nI n)) (ci := 11) (fs := [.int (5 : Int32), .int (nI n), .int (nI o), va, vb]) dX11_text_199 fl_X11_13 (List.mem_cons_of_mem _ (List.mem_cons_of_mem _ hoK)) rfl ?_
  obtain ⟨L59, eL60⟩ : ∃ L9 : List Int32, L9 = L52 ++ dgL n := ⟨_, rfl⟩
  have bn58 : L59.length ≤ 12 := by rw [eL60]; exact lnA (L := L52) (L2 := dgL n) (n := 11) (n2 := 1) bn51 (dgL_t1 hb)
  refine r_room (x2 := ((16 * 2 ^ k - 16) + (16 * 2 ^ k - 16) + 8) + 1) (y2 := ((33000 * 2 ^ k - 33000) + (33000 * 2 ^ k - 33000) + 24876) + 4002) (rq rfl) (rq rfl) ?_
  refine k_V (x := ((16 * 2 ^ k - 16) + (16 * 2 ^ k - 16) + 8)) (y := ((33000 * 2 ^ k - 33000) + (33000 * 2 ^ k - 33000) + 24876)) (rest := []) 0 dX11_text_202 kv_X11_117 (cj_apI (x9 := n) (Nat.lt_trans hb (by decide)) eL60 bh50 (Nat.le_trans bn58 (by decide))) rfl rfl rfl rfl (Nat.le_of_ble_eq_true rfl) (by first | exact hd3 | exact hd6 | exact hd7) (by decide) ?_
  rintro ⟨bv54, bm55, bf56⟩ bh57
  try dsimp only at bh57
  show R g mX11_text (k + 1 + 8) ((16 * 2 ^ k - 16) + (16 * 2 ^ k - 16) + 8) ((33000 * 2 ^ k - 33000) + (33000 * 2 ^ k - 33000) + 24876) 205 [(4, .ref u4), (3, .ref u3), (2, .ref u2), (1, .ref u1), (0, .ref a)] [.ref q3] ((q3, .inr (13, [.ref bv54, .int (0 : Int32), .int (0 : Int32), .int (nI L59.length)])) :: ((bv54, yA g bm55 bf56) :: t0)) _
  refine r_ldcS (i := 47) dX11_text_205 rfl ?_
  obtain ⟨L66, eL67⟩ : ∃ L9 : List Int32, L9 = L59 ++ kT 47 := ⟨_, rfl⟩
  have bn65 : L66.length ≤ 13 := by rw [eL67]; exact lnA (L := L59) (L2 := kT 47) (n := 12) (n2 := 1) bn58 (Nat.le_of_eq kl_47)
  refine r_room (x2 := ((16 * 2 ^ k - 16) + (16 * 2 ^ k - 16) + 7) + 1) (y2 := ((33000 * 2 ^ k - 33000) + (33000 * 2 ^ k - 33000) + 20874) + 4002) (rq rfl) (rq rfl) ?_
  refine k_V (x := ((16 * 2 ^ k - 16) + (16 * 2 ^ k - 16) + 7)) (y := ((33000 * 2 ^ k - 33000) + (33000 * 2 ^ k - 33000) + 20874)) (rest := []) 0 dX11_text_207 kv_X11_113 (cj_apK (i := 47) (by decide) eL67 bh57 (Nat.le_trans bn65 (by decide))) rfl rfl rfl rfl (Nat.le_of_ble_eq_true rfl) (by first | exact hd3 | exact hd6 | exact hd7) (by decide) ?_
  rintro ⟨bv61, bm62, bf63⟩ bh64
  try dsimp only at bh64
  show R g mX11_text (k + 1 + 8) ((16 * 2 ^ k - 16) + (16 * 2 ^ k - 16) + 7) ((33000 * 2 ^ k - 33000) + (33000 * 2 ^ k - 33000) + 20874) 210 [(4, .ref u4), (3, .ref u3), (2, .ref u2), (1, .ref u1), (0, .ref a)] [.ref q3] ((q3, .inr (13, [.ref bv61, .int (0 : Int32), .int (0 : Int32), .int (nI L66.length)])) :: ((bv61, yA g bm62 bf63) :: t0)) _
  refine r_room (x2 := ((16 * 2 ^ k - 16) + (16 * 2 ^ k - 16) + 5) + 2) (y2 := ((33000 * 2 ^ k - 33000) + (33000 * 2 ^ k - 33000) + 16868) + 4006) (rq rfl) (rq rfl) ?_
  refine k_V (x := ((16 * 2 ^ k - 16) + (16 * 2 ^ k - 16) + 5)) (y := ((33000 * 2 ^ k - 33000) + (33000 * 2 ^ k - 33000) + 16868)) (rest := []) 0 dX11_text_210 kv_X11_120 (cj_strB bh64) rfl rfl rfl rfl (Nat.le_of_ble_eq_true rfl) (by first | exact hd3 | exact hd6 | exact hd7) (by decide) ?_
  rintro ⟨ts68, tb69, tf70⟩ th71
  try dsimp only at th71
  show R g mX11_text (k + 1 + 8) ((16 * 2 ^ k - 16) + (16 * 2 ^ k - 16) + 5) ((33000 * 2 ^ k - 33000) + (33000 * 2 ^ k - 33000) + 16868) 213 [(4, .ref u4), (3, .ref u3), (2, .ref u2), (1, .ref u1), (0, .ref a)] [.ref ts68] ((ts68, .inr (12, [.ref tb69, .int (0 : Int32), .int (0 : Int32), .int (0 : Int32)])) :: ((tb69, yA g L66.length tf70) :: ((q3, .inr (13, [.ref bv61, .int (0 : Int32), .int (0 : Int32), .int (nI L66.length)])) :: ((bv61, yA g bm62 bf63) :: t0)))) _
  rw [e0]
  refine r_seg (ws2 := ((ts68, .inr (12, [.ref tb69, .int (0 : Int32), .int (0 : Int32), .int (0 : Int32)])) :: ((tb69, yA g L66.length tf70) :: t))) [[(ts68, .inr (12, [.ref tb69, .int (0 : Int32), .int (0 : Int32), .int (0 : Int32)]))], [(tb69, yA g L66.length tf70)], [(q3, .inr (13, [.ref bv61, .int (0 : Int32), .int (0 : Int32), .int (nI L66.length)]))], [(bv61, yA g bm62 bf63)], [(u4, qA g 7 4 (va_up (va_up (va_up (va_up (fun _ => none) 0 (some (gK g 43))) 1 (some (gK g 44))) 2 (some (gK g 45))) 3 (some (gK g 46))))], [(u3, qA g 7 5 (va_up (va_up (va_up (va_up (va_up (fun _ => none) 0 (some (gK g 38))) 1 (some (gK g 39))) 2 (some (gK g 40))) 3 (some (gK g 41))) 4 (some (gK g 42))))], [(u2, qA g 7 6 (va_up (va_up (va_up (va_up (va_up (va_up (fun _ => none) 0 (some (gK g 32))) 1 (some (gK g 33))) 2 (some (gK g 34))) 3 (some (gK g 35))) 4 (some (gK g 36))) 5 (some (gK g 37))))], [(u1, qA g 7 6 (va_up (va_up (va_up (va_up (va_up (va_up (fun _ => none) 0 (some (gK g iE))) 1 (some (gK g 27))) 2 (some (gK g 28))) 3 (some (gK g 29))) 4 (some (gK g 30))) 5 (some (gK g 31))))], t] [0, 1, 8] rfl rfl rfl ?_
  subst eL67
  subst eL60
  subst eL53
  refine r_aret dX11_text_213 rfl rfl (Or.inr ⟨_, rfl⟩) ?_
  exact Dq.mk (Sum.inr (ts68, tb69, tf70)) rfl rfl th71
set_option maxRecDepth 20000 in
set_option maxHeartbeats 8000000 in
theorem tx_6 {g : GG} {ne nt k a n o u1 u2 u3 u4 : Nat} {t t0 : va_W} {x : TT k} {vb : Value} (IH : TextH g ne nt k) (e0 : t0 = ((u4, qA g 7 4 (va_up (va_up (va_up (va_up (fun _ => none) 0 (some (gK g 43))) 1 (some (gK g 44))) 2 (some (gK g 45))) 3 (some (gK g 46)))) :: ((u3, qA g 7 5 (va_up (va_up (va_up (va_up (va_up (fun _ => none) 0 (some (gK g 38))) 1 (some (gK g 39))) 2 (some (gK g 40))) 3 (some (gK g 41))) 4 (some (gK g 42)))) :: ((u2, qA g 7 6 (va_up (va_up (va_up (va_up (va_up (va_up (fun _ => none) 0 (some (gK g 32))) 1 (some (gK g 33))) 2 (some (gK g 34))) 3 (some (gK g 35))) 4 (some (gK g 36))) 5 (some (gK g 37)))) :: ((u1, qA g 7 6 (va_up (va_up (va_up (va_up (va_up (va_up (fun _ => none) 0 (some (gK g iE))) 1 (some (gK g 27))) 2 (some (gK g 28))) 3 (some (gK g 29))) 4 (some (gK g 30))) 5 (some (gK g 31)))) :: t))))) (hk5 : k ≤ 5) (hn : nt ≤ 10) (hne : ne ≤ 10) (ho : (a, .inr (11, [.int (6 : Int32), .int (nI n), .int (nI o), .ref (tA k x), vb])) ∈ t) (hmx : TM g t k x) (hx : TE ne nt k x ∨ TB ne nt k x) : R g mX11_text (k + 1 + 8) ((16 * 2 ^ k - 16) + (16 * 2 ^ k - 16) + 12) ((33000 * 2 ^ k - 33000) + (33000 * 2 ^ k - 33000) + 32900) 128 [(4, .ref u4), (3, .ref u3), (2, .ref u2), (1, .ref u1), (0, .ref a)] [] t0 (Dq (fun (z : SZ) => some (sv g z)) (fun z => sw g (((([] : List Int32) ++ kT 48) ++ (txt k x)) ++ kT 49).length z ++ t) (fun z => sP (((([] : List Int32) ++ kT 48) ++ (txt k x)) ++ kT 49) z)) := by
  have hd3 : 3 + 1 ≤ k + 1 + 8 := by omega
  have hd6 : 6 + 1 ≤ k + 1 + 8 := by omega
  have hd7 : 7 + 1 ≤ k + 1 + 8 := by omega
  have hp5 : 2 ^ k ≤ 32 := Nat.le_trans (Nat.pow_le_pow_right (by decide) hk5) (by decide)
  have hlk : 12 * 2 ^ k - 7 ≤ 377 := by omega
  have lx := Nat.le_trans (txt_len hne hn k x hx) hlk
  have m0 : (u4, qA g 7 4 (va_up (va_up (va_up (va_up (fun _ => none) 0 (some (gK g 43))) 1 (some (gK g 44))) 2 (some (gK g 45))) 3 (some (gK g 46)))) ∈ t0 := by rw [e0]; exact List.mem_cons_self
  have m1 : (u3, qA g 7 5 (va_up (va_up (va_up (va_up (va_up (fun _ => none) 0 (some (gK g 38))) 1 (some (gK g 39))) 2 (some (gK g 40))) 3 (some (gK g 41))) 4 (some (gK g 42)))) ∈ t0 := by rw [e0]; exact (List.mem_cons_of_mem _ List.mem_cons_self)
  have m2 : (u2, qA g 7 6 (va_up (va_up (va_up (va_up (va_up (va_up (fun _ => none) 0 (some (gK g 32))) 1 (some (gK g 33))) 2 (some (gK g 34))) 3 (some (gK g 35))) 4 (some (gK g 36))) 5 (some (gK g 37)))) ∈ t0 := by rw [e0]; exact (List.mem_cons_of_mem _ (List.mem_cons_of_mem _ List.mem_cons_self))
  have m3 : (u1, qA g 7 6 (va_up (va_up (va_up (va_up (va_up (va_up (fun _ => none) 0 (some (gK g iE))) 1 (some (gK g 27))) 2 (some (gK g 28))) 3 (some (gK g 29))) 4 (some (gK g 30))) 5 (some (gK g 31)))) ∈ t0 := by rw [e0]; exact (List.mem_cons_of_mem _ (List.mem_cons_of_mem _ (List.mem_cons_of_mem _ List.mem_cons_self)))
  have mt : ∀ p ∈ t, p ∈ t0 := fun p hp => by rw [e0]; exact (List.mem_cons_of_mem _ (List.mem_cons_of_mem _ (List.mem_cons_of_mem _ (List.mem_cons_of_mem _ hp))))
  have hoK := mt _ ho
  refine r_aload_n 4 dX11_text_128 rfl ?_
  refine r_getm (v := .int (6 : Int32)) (ci := 11) (fs := [.int (6 : Int32), .int (nI n), .int (nI o), .ref (tA k x), vb]) dX11_text_129 fl_X11_7 hoK rfl ?_
  refine r_if_ne (tgt := 158) dX11_text_132 (by decide) (fun _ => ?_) (fun hc => absurd hc (by decide))
  refine r_aload_n 4 dX11_text_158 rfl ?_
  refine r_getm (v := .int (6 : Int32)) (ci := 11) (fs := [.int (6 : Int32), .int (nI n), .int (nI o), .ref (tA k x), vb]) dX11_text_159 fl_X11_7 hoK rfl ?_
  refine r_iconst (v := (4 : Int32)) dX11_text_162 (by decide) ?_
  refine r_icmp_ge (tgt := 173) dX11_text_163 (by decide) (fun _ => ?_) (fun hc => absurd (by decide) hc)
  refine r_aload_n 4 dX11_text_173 rfl ?_
  refine r_getm (v := .int (6 : Int32)) (ci := 11) (fs := [.int (6 : Int32), .int (nI n), .int (nI o), .ref (tA k x), vb]) dX11_text_174 fl_X11_7 hoK rfl ?_
  refine r_bipush (v := (6 : Int32)) dX11_text_177 (by decide) ?_
  refine r_icmp_ge (tgt := 214) dX11_text_179 (by decide) (fun _ => ?_) (fun hc => absurd (by decide) hc)
  refine r_aload_n 4 dX11_text_214 rfl ?_
  refine r_getm (v := .int (6 : Int32)) (ci := 11) (fs := [.int (6 : Int32), .int (nI n), .int (nI o), .ref (tA k x), vb]) dX11_text_215 fl_X11_7 hoK rfl ?_
  refine r_bipush (v := (6 : Int32)) dX11_text_218 (by decide) ?_
  refine r_icmp_ne (tgt := 254) dX11_text_220 (by decide) (fun hc => absurd (by decide) hc) (fun _ => ?_)
  refine r_new (N := 4) (x := ((16 * 2 ^ k - 16) + (16 * 2 ^ k - 16) + 11)) (y := ((33000 * 2 ^ k - 33000) + (33000 * 2 ^ k - 33000) + 32896)) dX11_text_223 nl_X11_110 (fun q4 => ?_)
  refine r_dup dX11_text_226 rfl ?_
  refine r_room (x2 := ((16 * 2 ^ k - 16) + (16 * 2 ^ k - 16) + 10) + 1) (y2 := ((33000 * 2 ^ k - 33000) + (33000 * 2 ^ k - 33000) + 32880) + 16) (rq rfl) (rq rfl) ?_
  refine k_I (x := ((16 * 2 ^ k - 16) + (16 * 2 ^ k - 16) + 10)) (y := ((33000 * 2 ^ k - 33000) + (33000 * 2 ^ k - 33000) + 32880)) (rest := [.ref q4]) dX11_text_227 ki_X11_112 (cj_sb) rfl rfl (Nat.le_of_ble_eq_true rfl) (by first | exact hd3 | exact hd6 | exact hd7) (by decide) ?_
  rintro bv72 -
  show R g mX11_text (k + 1 + 8) ((16 * 2 ^ k - 16) + (16 * 2 ^ k - 16) + 10) ((33000 * 2 ^ k - 33000) + (33000 * 2 ^ k - 33000) + 32880) 230 [(4, .ref u4), (3, .ref u3), (2, .ref u2), (1, .ref u1), (0, .ref a)] [.ref q4] ((q4, .inr (13, [.ref bv72, .int (0 : Int32), .int (0 : Int32), .int (nI ([] : List Int32).length)])) :: ((bv72, yA g 16 (fun _ => 0)) :: t0)) _
  refine r_ldcS (i := 48) dX11_text_230 rfl ?_
  obtain ⟨L78, eL79⟩ : ∃ L9 : List Int32, L9 = ([] : List Int32) ++ kT 48 := ⟨_, rfl⟩
  have bn77 : L78.length ≤ 3 := by rw [eL79]; exact lnA (L := ([] : List Int32)) (L2 := kT 48) (n := 0) (n2 := 3) (Nat.le_refl 0) (Nat.le_of_eq kl_48)
  refine r_room (x2 := ((16 * 2 ^ k - 16) + (16 * 2 ^ k - 16) + 9) + 1) (y2 := ((33000 * 2 ^ k - 33000) + (33000 * 2 ^ k - 33000) + 28878) + 4002) (rq rfl) (rq rfl) ?_
  refine k_V (x := ((16 * 2 ^ k - 16) + (16 * 2 ^ k - 16) + 9)) (y := ((33000 * 2 ^ k - 33000) + (33000 * 2 ^ k - 33000) + 28878)) (rest := []) 0 dX11_text_232 kv_X11_113 (cj_apK (i := 48) (by decide) eL79 BL.nil (Nat.le_trans bn77 (by decide))) rfl rfl rfl rfl (Nat.le_of_ble_eq_true rfl) (by first | exact hd3 | exact hd6 | exact hd7) (by decide) ?_
  rintro ⟨bv73, bm74, bf75⟩ bh76
  try dsimp only at bh76
  show R g mX11_text (k + 1 + 8) ((16 * 2 ^ k - 16) + (16 * 2 ^ k - 16) + 9) ((33000 * 2 ^ k - 33000) + (33000 * 2 ^ k - 33000) + 28878) 235 [(4, .ref u4), (3, .ref u3), (2, .ref u2), (1, .ref u1), (0, .ref a)] [.ref q4] ((q4, .inr (13, [.ref bv73, .int (0 : Int32), .int (0 : Int32), .int (nI L78.length)])) :: ((bv73, yA g bm74 bf75) :: t0)) _
  refine r_aload_n 4 dX11_text_235 rfl ?_
  refine r_getm (v := .ref (tA k x)) (ci := 11) (fs := [.int (6 : Int32), .int (nI n), .int (nI o), .ref (tA k x), vb]) dX11_text_236 fl_X11_40 (List.mem_cons_of_mem _ (List.mem_cons_of_mem _ hoK)) rfl ?_
  obtain ⟨fszz80, hfzz80⟩ := TM.cell k x hmx
  refine r_room (x2 := ((16 * 2 ^ k - 16) + 9) + (16 * 2 ^ k - 16)) (y2 := ((33000 * 2 ^ k - 33000) + 28878) + (33000 * 2 ^ k - 33000)) (Nat.le_of_eq (Nat.add_right_comm _ _ _)) (Nat.le_of_eq (Nat.add_right_comm _ _ _)) ?_
  refine k_Vm (x := ((16 * 2 ^ k - 16) + 9)) (y := ((33000 * 2 ^ k - 33000) + 28878)) (rest := [.ref q4]) dX11_text_239 kv_X11_128 (IH x _ (TM.mono (fun p hp => (List.mem_cons_of_mem _ (List.mem_cons_of_mem _ (mt p hp)))) k x hmx) hx) rfl rfl (List.mem_cons_of_mem _ (List.mem_cons_of_mem _ (mt _ hfzz80))) rfl (Nat.le_of_ble_eq_true rfl) (Nat.le_of_eq (Nat.add_right_comm _ _ _)) (by decide) ?_
  rintro zz80 hz81
  refine r_seg (ws2 := ((q4, .inr (13, [.ref bv73, .int (0 : Int32), .int (0 : Int32), .int (nI L78.length)])) :: ((bv73, yA g bm74 bf75) :: ((sw g (txt k x).length zz80) ++ t0)))) [sw g (txt k x).length zz80, [(q4, .inr (13, [.ref bv73, .int (0 : Int32), .int (0 : Int32), .int (nI L78.length)]))], [(bv73, yA g bm74 bf75)], t0] [1, 2, 0, 3] rfl rfl rfl ?_
  obtain ⟨L87, eL88⟩ : ∃ L9 : List Int32, L9 = L78 ++ txt k x := ⟨_, rfl⟩
  have bn86 : L87.length ≤ 380 := by rw [eL88]; exact lnA (L := L78) (L2 := txt k x) (n := 3) (n2 := 377) bn77 (lx)
  refine r_room (x2 := ((16 * 2 ^ k - 16) + 8) + 1) (y2 := ((33000 * 2 ^ k - 33000) + 24876) + 4002) (rq rfl) (rq rfl) ?_
  refine k_V (x := ((16 * 2 ^ k - 16) + 8)) (y := ((33000 * 2 ^ k - 33000) + 24876)) (rest := []) 0 dX11_text_242 kv_X11_113 (cj_apX (L2 := txt k x) (z := zz80) hz81 eL88 bh76 (Nat.le_trans bn86 (by decide))) rfl rfl rfl rfl (Nat.le_of_ble_eq_true rfl) (by first | exact hd3 | exact hd6 | exact hd7) (by decide) ?_
  rintro ⟨bv82, bm83, bf84⟩ bh85
  try dsimp only at bh85
  show R g mX11_text (k + 1 + 8) ((16 * 2 ^ k - 16) + 8) ((33000 * 2 ^ k - 33000) + 24876) 245 [(4, .ref u4), (3, .ref u3), (2, .ref u2), (1, .ref u1), (0, .ref a)] [.ref q4] ((q4, .inr (13, [.ref bv82, .int (0 : Int32), .int (0 : Int32), .int (nI L87.length)])) :: ((bv82, yA g bm83 bf84) :: ((sw g (txt k x).length zz80) ++ t0))) _
  refine r_seg (ws2 := ((q4, .inr (13, [.ref bv82, .int (0 : Int32), .int (0 : Int32), .int (nI L87.length)])) :: ((bv82, yA g bm83 bf84) :: t0))) [[(q4, .inr (13, [.ref bv82, .int (0 : Int32), .int (0 : Int32), .int (nI L87.length)]))], [(bv82, yA g bm83 bf84)], sw g (txt k x).length zz80, t0] [0, 1, 3] rfl rfl rfl ?_
  refine r_ldcS (i := 49) dX11_text_245 rfl ?_
  obtain ⟨L94, eL95⟩ : ∃ L9 : List Int32, L9 = L87 ++ kT 49 := ⟨_, rfl⟩
  have bn93 : L94.length ≤ 381 := by rw [eL95]; exact lnA (L := L87) (L2 := kT 49) (n := 380) (n2 := 1) bn86 (Nat.le_of_eq kl_49)
  refine r_room (x2 := ((16 * 2 ^ k - 16) + 7) + 1) (y2 := ((33000 * 2 ^ k - 33000) + 20874) + 4002) (rq rfl) (rq rfl) ?_
  refine k_V (x := ((16 * 2 ^ k - 16) + 7)) (y := ((33000 * 2 ^ k - 33000) + 20874)) (rest := []) 0 dX11_text_247 kv_X11_113 (cj_apK (i := 49) (by decide) eL95 bh85 (Nat.le_trans bn93 (by decide))) rfl rfl rfl rfl (Nat.le_of_ble_eq_true rfl) (by first | exact hd3 | exact hd6 | exact hd7) (by decide) ?_
  rintro ⟨bv89, bm90, bf91⟩ bh92
  try dsimp only at bh92
  show R g mX11_text (k + 1 + 8) ((16 * 2 ^ k - 16) + 7) ((33000 * 2 ^ k - 33000) + 20874) 250 [(4, .ref u4), (3, .ref u3), (2, .ref u2), (1, .ref u1), (0, .ref a)] [.ref q4] ((q4, .inr (13, [.ref bv89, .int (0 : Int32), .int (0 : Int32), .int (nI L94.length)])) :: ((bv89, yA g bm90 bf91) :: t0)) _
  refine r_room (x2 := ((16 * 2 ^ k - 16) + 5) + 2) (y2 := ((33000 * 2 ^ k - 33000) + 16868) + 4006) (rq rfl) (rq rfl) ?_
  refine k_V (x := ((16 * 2 ^ k - 16) + 5)) (y := ((33000 * 2 ^ k - 33000) + 16868)) (rest := []) 0 dX11_text_250 kv_X11_120 (cj_strB bh92) rfl rfl rfl rfl (Nat.le_of_ble_eq_true rfl) (by first | exact hd3 | exact hd6 | exact hd7) (by decide) ?_
  rintro ⟨ts96, tb97, tf98⟩ th99
  try dsimp only at th99
  show R g mX11_text (k + 1 + 8) ((16 * 2 ^ k - 16) + 5) ((33000 * 2 ^ k - 33000) + 16868) 253 [(4, .ref u4), (3, .ref u3), (2, .ref u2), (1, .ref u1), (0, .ref a)] [.ref ts96] ((ts96, .inr (12, [.ref tb97, .int (0 : Int32), .int (0 : Int32), .int (0 : Int32)])) :: ((tb97, yA g L94.length tf98) :: ((q4, .inr (13, [.ref bv89, .int (0 : Int32), .int (0 : Int32), .int (nI L94.length)])) :: ((bv89, yA g bm90 bf91) :: t0)))) _
  rw [e0]
  refine r_seg (ws2 := ((ts96, .inr (12, [.ref tb97, .int (0 : Int32), .int (0 : Int32), .int (0 : Int32)])) :: ((tb97, yA g L94.length tf98) :: t))) [[(ts96, .inr (12, [.ref tb97, .int (0 : Int32), .int (0 : Int32), .int (0 : Int32)]))], [(tb97, yA g L94.length tf98)], [(q4, .inr (13, [.ref bv89, .int (0 : Int32), .int (0 : Int32), .int (nI L94.length)]))], [(bv89, yA g bm90 bf91)], [(u4, qA g 7 4 (va_up (va_up (va_up (va_up (fun _ => none) 0 (some (gK g 43))) 1 (some (gK g 44))) 2 (some (gK g 45))) 3 (some (gK g 46))))], [(u3, qA g 7 5 (va_up (va_up (va_up (va_up (va_up (fun _ => none) 0 (some (gK g 38))) 1 (some (gK g 39))) 2 (some (gK g 40))) 3 (some (gK g 41))) 4 (some (gK g 42))))], [(u2, qA g 7 6 (va_up (va_up (va_up (va_up (va_up (va_up (fun _ => none) 0 (some (gK g 32))) 1 (some (gK g 33))) 2 (some (gK g 34))) 3 (some (gK g 35))) 4 (some (gK g 36))) 5 (some (gK g 37))))], [(u1, qA g 7 6 (va_up (va_up (va_up (va_up (va_up (va_up (fun _ => none) 0 (some (gK g iE))) 1 (some (gK g 27))) 2 (some (gK g 28))) 3 (some (gK g 29))) 4 (some (gK g 30))) 5 (some (gK g 31))))], t] [0, 1, 8] rfl rfl rfl ?_
  subst eL95
  subst eL88
  subst eL79
  refine r_aret dX11_text_253 rfl rfl (Or.inr ⟨_, rfl⟩) ?_
  exact Dq.mk (Sum.inr (ts96, tb97, tf98)) rfl rfl th99
set_option maxRecDepth 20000 in
set_option maxHeartbeats 8000000 in
theorem tx_7 {g : GG} {ne nt k a n o u1 u2 u3 u4 : Nat} {t t0 : va_W} {x y : TT k} (IH : TextH g ne nt k) (e0 : t0 = ((u4, qA g 7 4 (va_up (va_up (va_up (va_up (fun _ => none) 0 (some (gK g 43))) 1 (some (gK g 44))) 2 (some (gK g 45))) 3 (some (gK g 46)))) :: ((u3, qA g 7 5 (va_up (va_up (va_up (va_up (va_up (fun _ => none) 0 (some (gK g 38))) 1 (some (gK g 39))) 2 (some (gK g 40))) 3 (some (gK g 41))) 4 (some (gK g 42)))) :: ((u2, qA g 7 6 (va_up (va_up (va_up (va_up (va_up (va_up (fun _ => none) 0 (some (gK g 32))) 1 (some (gK g 33))) 2 (some (gK g 34))) 3 (some (gK g 35))) 4 (some (gK g 36))) 5 (some (gK g 37)))) :: ((u1, qA g 7 6 (va_up (va_up (va_up (va_up (va_up (va_up (fun _ => none) 0 (some (gK g iE))) 1 (some (gK g 27))) 2 (some (gK g 28))) 3 (some (gK g 29))) 4 (some (gK g 30))) 5 (some (gK g 31)))) :: t))))) (hk5 : k ≤ 5) (hn : nt ≤ 10) (hne : ne ≤ 10) (ho : (a, .inr (11, [.int (7 : Int32), .int (nI n), .int (nI o), .ref (tA k x), .ref (tA k y)])) ∈ t) (hmx : TM g t k x) (hx : TE ne nt k x ∨ TB ne nt k x) (hmy : TM g t k y) (hy : TE ne nt k y ∨ TB ne nt k y) : R g mX11_text (k + 1 + 8) ((16 * 2 ^ k - 16) + (16 * 2 ^ k - 16) + 12) ((33000 * 2 ^ k - 33000) + (33000 * 2 ^ k - 33000) + 32900) 128 [(4, .ref u4), (3, .ref u3), (2, .ref u2), (1, .ref u1), (0, .ref a)] [] t0 (Dq (fun (z : SZ) => some (sv g z)) (fun z => sw g (((((((([] : List Int32) ++ kT 50) ++ (txt k x)) ++ kT 49) ++ kT 32) ++ kT 50) ++ (txt k y)) ++ kT 49).length z ++ t) (fun z => sP (((((((([] : List Int32) ++ kT 50) ++ (txt k x)) ++ kT 49) ++ kT 32) ++ kT 50) ++ (txt k y)) ++ kT 49) z)) := by
  have hd3 : 3 + 1 ≤ k + 1 + 8 := by omega
  have hd6 : 6 + 1 ≤ k + 1 + 8 := by omega
  have hd7 : 7 + 1 ≤ k + 1 + 8 := by omega
  have hp5 : 2 ^ k ≤ 32 := Nat.le_trans (Nat.pow_le_pow_right (by decide) hk5) (by decide)
  have hlk : 12 * 2 ^ k - 7 ≤ 377 := by omega
  have lx := Nat.le_trans (txt_len hne hn k x hx) hlk
  have ly := Nat.le_trans (txt_len hne hn k y hy) hlk
  have m0 : (u4, qA g 7 4 (va_up (va_up (va_up (va_up (fun _ => none) 0 (some (gK g 43))) 1 (some (gK g 44))) 2 (some (gK g 45))) 3 (some (gK g 46)))) ∈ t0 := by rw [e0]; exact List.mem_cons_self
  have m1 : (u3, qA g 7 5 (va_up (va_up (va_up (va_up (va_up (fun _ => none) 0 (some (gK g 38))) 1 (some (gK g 39))) 2 (some (gK g 40))) 3 (some (gK g 41))) 4 (some (gK g 42)))) ∈ t0 := by rw [e0]; exact (List.mem_cons_of_mem _ List.mem_cons_self)
  have m2 : (u2, qA g 7 6 (va_up (va_up (va_up (va_up (va_up (va_up (fun _ => none) 0 (some (gK g 32))) 1 (some (gK g 33))) 2 (some (gK g 34))) 3 (some (gK g 35))) 4 (some (gK g 36))) 5 (some (gK g 37)))) ∈ t0 := by rw [e0]; exact (List.mem_cons_of_mem _ (List.mem_cons_of_mem _ List.mem_cons_self))
  have m3 : (u1, qA g 7 6 (va_up (va_up (va_up (va_up (va_up (va_up (fun _ => none) 0 (some (gK g iE))) 1 (some (gK g 27))) 2 (some (gK g 28))) 3 (some (gK g 29))) 4 (some (gK g 30))) 5 (some (gK g 31)))) ∈ t0 := by rw [e0]; exact (List.mem_cons_of_mem _ (List.mem_cons_of_mem _ (List.mem_cons_of_mem _ List.mem_cons_self)))
  have mt : ∀ p ∈ t, p ∈ t0 := fun p hp => by rw [e0]; exact (List.mem_cons_of_mem _ (List.mem_cons_of_mem _ (List.mem_cons_of_mem _ (List.mem_cons_of_mem _ hp))))
  have hoK := mt _ ho
  refine r_aload_n 4 dX11_text_128 rfl ?_
  refine r_getm (v := .int (7 : Int32)) (ci := 11) (fs := [.int (7 : Int32), .int (nI n), .int (nI o), .ref (tA k x), .ref (tA k y)]) dX11_text_129 fl_X11_7 hoK rfl ?_
  refine r_if_ne (tgt := 158) dX11_text_132 (by decide) (fun _ => ?_) (fun hc => absurd hc (by decide))
  refine r_aload_n 4 dX11_text_158 rfl ?_
  refine r_getm (v := .int (7 : Int32)) (ci := 11) (fs := [.int (7 : Int32), .int (nI n), .int (nI o), .ref (tA k x), .ref (tA k y)]) dX11_text_159 fl_X11_7 hoK rfl ?_
  refine r_iconst (v := (4 : Int32)) dX11_text_162 (by decide) ?_
  refine r_icmp_ge (tgt := 173) dX11_text_163 (by decide) (fun _ => ?_) (fun hc => absurd (by decide) hc)
  refine r_aload_n 4 dX11_text_173 rfl ?_
  refine r_getm (v := .int (7 : Int32)) (ci := 11) (fs := [.int (7 : Int32), .int (nI n), .int (nI o), .ref (tA k x), .ref (tA k y)]) dX11_text_174 fl_X11_7 hoK rfl ?_
  refine r_bipush (v := (6 : Int32)) dX11_text_177 (by decide) ?_
  refine r_icmp_ge (tgt := 214) dX11_text_179 (by decide) (fun _ => ?_) (fun hc => absurd (by decide) hc)
  refine r_aload_n 4 dX11_text_214 rfl ?_
  refine r_getm (v := .int (7 : Int32)) (ci := 11) (fs := [.int (7 : Int32), .int (nI n), .int (nI o), .ref (tA k x), .ref (tA k y)]) dX11_text_215 fl_X11_7 hoK rfl ?_
  refine r_bipush (v := (6 : Int32)) dX11_text_218 (by decide) ?_
  refine r_icmp_ne (tgt := 254) dX11_text_220 (by decide) (fun _ => ?_) (fun hc => absurd hc (by decide))
  refine r_aload_n 4 dX11_text_254 rfl ?_
  refine r_getm (v := .int (7 : Int32)) (ci := 11) (fs := [.int (7 : Int32), .int (nI n), .int (nI o), .ref (tA k x), .ref (tA k y)]) dX11_text_255 fl_X11_7 hoK rfl ?_
  refine r_bipush (v := (11 : Int32)) dX11_text_258 (by decide) ?_
  refine r_icmp_ge (tgt := 326) dX11_text_260 (by decide) (fun hc => absurd hc (by decide)) (fun _ => ?_)
  refine r_new (N := 4) (x := ((16 * 2 ^ k - 16) + (16 * 2 ^ k - 16) + 11)) (y := ((33000 * 2 ^ k - 33000) + (33000 * 2 ^ k - 33000) + 32896)) dX11_text_263 nl_X11_110 (fun q5 => ?_)
  refine r_dup dX11_text_266 rfl ?_
  refine r_room (x2 := ((16 * 2 ^ k - 16) + (16 * 2 ^ k - 16) + 10) + 1) (y2 := ((33000 * 2 ^ k - 33000) + (33000 * 2 ^ k - 33000) + 32880) + 16) (rq rfl) (rq rfl) ?_
  refine k_I (x := ((16 * 2 ^ k - 16) + (16 * 2 ^ k - 16) + 10)) (y := ((33000 * 2 ^ k - 33000) + (33000 * 2 ^ k - 33000) + 32880)) (rest := [.ref q5]) dX11_text_267 ki_X11_112 (cj_sb) rfl rfl (Nat.le_of_ble_eq_true rfl) (by first | exact hd3 | exact hd6 | exact hd7) (by decide) ?_
  rintro bv100 -
  show R g mX11_text (k + 1 + 8) ((16 * 2 ^ k - 16) + (16 * 2 ^ k - 16) + 10) ((33000 * 2 ^ k - 33000) + (33000 * 2 ^ k - 33000) + 32880) 270 [(4, .ref u4), (3, .ref u3), (2, .ref u2), (1, .ref u1), (0, .ref a)] [.ref q5] ((q5, .inr (13, [.ref bv100, .int (0 : Int32), .int (0 : Int32), .int (nI ([] : List Int32).length)])) :: ((bv100, yA g 16 (fun _ => 0)) :: t0)) _
  refine r_ldcS (i := 50) dX11_text_270 rfl ?_
  obtain ⟨L106, eL107⟩ : ∃ L9 : List Int32, L9 = ([] : List Int32) ++ kT 50 := ⟨_, rfl⟩
  have bn105 : L106.length ≤ 1 := by rw [eL107]; exact lnA (L := ([] : List Int32)) (L2 := kT 50) (n := 0) (n2 := 1) (Nat.le_refl 0) (Nat.le_of_eq kl_50)
  refine r_room (x2 := ((16 * 2 ^ k - 16) + (16 * 2 ^ k - 16) + 9) + 1) (y2 := ((33000 * 2 ^ k - 33000) + (33000 * 2 ^ k - 33000) + 28878) + 4002) (rq rfl) (rq rfl) ?_
  refine k_V (x := ((16 * 2 ^ k - 16) + (16 * 2 ^ k - 16) + 9)) (y := ((33000 * 2 ^ k - 33000) + (33000 * 2 ^ k - 33000) + 28878)) (rest := []) 0 dX11_text_272 kv_X11_113 (cj_apK (i := 50) (by decide) eL107 BL.nil (Nat.le_trans bn105 (by decide))) rfl rfl rfl rfl (Nat.le_of_ble_eq_true rfl) (by first | exact hd3 | exact hd6 | exact hd7) (by decide) ?_
  rintro ⟨bv101, bm102, bf103⟩ bh104
  try dsimp only at bh104
  show R g mX11_text (k + 1 + 8) ((16 * 2 ^ k - 16) + (16 * 2 ^ k - 16) + 9) ((33000 * 2 ^ k - 33000) + (33000 * 2 ^ k - 33000) + 28878) 275 [(4, .ref u4), (3, .ref u3), (2, .ref u2), (1, .ref u1), (0, .ref a)] [.ref q5] ((q5, .inr (13, [.ref bv101, .int (0 : Int32), .int (0 : Int32), .int (nI L106.length)])) :: ((bv101, yA g bm102 bf103) :: t0)) _
  refine r_aload_n 4 dX11_text_275 rfl ?_
  refine r_getm (v := .ref (tA k x)) (ci := 11) (fs := [.int (7 : Int32), .int (nI n), .int (nI o), .ref (tA k x), .ref (tA k y)]) dX11_text_276 fl_X11_40 (List.mem_cons_of_mem _ (List.mem_cons_of_mem _ hoK)) rfl ?_
  obtain ⟨fszz108, hfzz108⟩ := TM.cell k x hmx
  refine r_room (x2 := ((16 * 2 ^ k - 16) + 9) + (16 * 2 ^ k - 16)) (y2 := ((33000 * 2 ^ k - 33000) + 28878) + (33000 * 2 ^ k - 33000)) (Nat.le_of_eq (Nat.add_right_comm _ _ _)) (Nat.le_of_eq (Nat.add_right_comm _ _ _)) ?_
  refine k_Vm (x := ((16 * 2 ^ k - 16) + 9)) (y := ((33000 * 2 ^ k - 33000) + 28878)) (rest := [.ref q5]) dX11_text_279 kv_X11_128 (IH x _ (TM.mono (fun p hp => (List.mem_cons_of_mem _ (List.mem_cons_of_mem _ (mt p hp)))) k x hmx) hx) rfl rfl (List.mem_cons_of_mem _ (List.mem_cons_of_mem _ (mt _ hfzz108))) rfl (Nat.le_of_ble_eq_true rfl) (Nat.le_of_eq (Nat.add_right_comm _ _ _)) (by decide) ?_
  rintro zz108 hz109
  refine r_seg (ws2 := ((q5, .inr (13, [.ref bv101, .int (0 : Int32), .int (0 : Int32), .int (nI L106.length)])) :: ((bv101, yA g bm102 bf103) :: ((sw g (txt k x).length zz108) ++ t0)))) [sw g (txt k x).length zz108, [(q5, .inr (13, [.ref bv101, .int (0 : Int32), .int (0 : Int32), .int (nI L106.length)]))], [(bv101, yA g bm102 bf103)], t0] [1, 2, 0, 3] rfl rfl rfl ?_
  obtain ⟨L115, eL116⟩ : ∃ L9 : List Int32, L9 = L106 ++ txt k x := ⟨_, rfl⟩
  have bn114 : L115.length ≤ 378 := by rw [eL116]; exact lnA (L := L106) (L2 := txt k x) (n := 1) (n2 := 377) bn105 (lx)
  refine r_room (x2 := ((16 * 2 ^ k - 16) + 8) + 1) (y2 := ((33000 * 2 ^ k - 33000) + 24876) + 4002) (rq rfl) (rq rfl) ?_
  refine k_V (x := ((16 * 2 ^ k - 16) + 8)) (y := ((33000 * 2 ^ k - 33000) + 24876)) (rest := []) 0 dX11_text_282 kv_X11_113 (cj_apX (L2 := txt k x) (z := zz108) hz109 eL116 bh104 (Nat.le_trans bn114 (by decide))) rfl rfl rfl rfl (Nat.le_of_ble_eq_true rfl) (by first | exact hd3 | exact hd6 | exact hd7) (by decide) ?_
  rintro ⟨bv110, bm111, bf112⟩ bh113
  try dsimp only at bh113
  show R g mX11_text (k + 1 + 8) ((16 * 2 ^ k - 16) + 8) ((33000 * 2 ^ k - 33000) + 24876) 285 [(4, .ref u4), (3, .ref u3), (2, .ref u2), (1, .ref u1), (0, .ref a)] [.ref q5] ((q5, .inr (13, [.ref bv110, .int (0 : Int32), .int (0 : Int32), .int (nI L115.length)])) :: ((bv110, yA g bm111 bf112) :: ((sw g (txt k x).length zz108) ++ t0))) _
  refine r_seg (ws2 := ((q5, .inr (13, [.ref bv110, .int (0 : Int32), .int (0 : Int32), .int (nI L115.length)])) :: ((bv110, yA g bm111 bf112) :: t0))) [[(q5, .inr (13, [.ref bv110, .int (0 : Int32), .int (0 : Int32), .int (nI L115.length)]))], [(bv110, yA g bm111 bf112)], sw g (txt k x).length zz108, t0] [0, 1, 3] rfl rfl rfl ?_
  refine r_ldcS (i := 49) dX11_text_285 rfl ?_
  obtain ⟨L122, eL123⟩ : ∃ L9 : List Int32, L9 = L115 ++ kT 49 := ⟨_, rfl⟩
  have bn121 : L122.length ≤ 379 := by rw [eL123]; exact lnA (L := L115) (L2 := kT 49) (n := 378) (n2 := 1) bn114 (Nat.le_of_eq kl_49)
  refine r_room (x2 := ((16 * 2 ^ k - 16) + 7) + 1) (y2 := ((33000 * 2 ^ k - 33000) + 20874) + 4002) (rq rfl) (rq rfl) ?_
  refine k_V (x := ((16 * 2 ^ k - 16) + 7)) (y := ((33000 * 2 ^ k - 33000) + 20874)) (rest := []) 0 dX11_text_287 kv_X11_113 (cj_apK (i := 49) (by decide) eL123 bh113 (Nat.le_trans bn121 (by decide))) rfl rfl rfl rfl (Nat.le_of_ble_eq_true rfl) (by first | exact hd3 | exact hd6 | exact hd7) (by decide) ?_
  rintro ⟨bv117, bm118, bf119⟩ bh120
  try dsimp only at bh120
  show R g mX11_text (k + 1 + 8) ((16 * 2 ^ k - 16) + 7) ((33000 * 2 ^ k - 33000) + 20874) 290 [(4, .ref u4), (3, .ref u3), (2, .ref u2), (1, .ref u1), (0, .ref a)] [.ref q5] ((q5, .inr (13, [.ref bv117, .int (0 : Int32), .int (0 : Int32), .int (nI L122.length)])) :: ((bv117, yA g bm118 bf119) :: t0)) _
  refine r_aload_n 2 dX11_text_290 rfl ?_
  refine r_aload_n 4 dX11_text_291 rfl ?_
  refine r_getm (v := .int (7 : Int32)) (ci := 11) (fs := [.int (7 : Int32), .int (nI n), .int (nI o), .ref (tA k x), .ref (tA k y)]) dX11_text_292 fl_X11_7 (List.mem_cons_of_mem _ (List.mem_cons_of_mem _ hoK)) rfl ?_
  refine r_bipush (v := (7 : Int32)) dX11_text_295 (by decide) ?_
  refine r_isub dX11_text_297 ?_
  refine r_aaldm (t := 7) (n := 6) (f := (va_up (va_up (va_up (va_up (va_up (va_up (fun _ => none) 0 (some (gK g 32))) 1 (some (gK g 33))) 2 (some (gK g 34))) 3 (some (gK g 35))) 4 (some (gK g 36))) 5 (some (gK g 37)))) (v := .ref (gK g 32)) dX11_text_298 rfl rfl (List.mem_cons_of_mem _ (List.mem_cons_of_mem _ m2)) (by decide) (by rfl) ?_
  obtain ⟨L129, eL130⟩ : ∃ L9 : List Int32, L9 = L122 ++ kT 32 := ⟨_, rfl⟩
  have bn128 : L129.length ≤ 380 := by rw [eL130]; exact lnA (L := L122) (L2 := kT 32) (n := 379) (n2 := 1) bn121 (Nat.le_of_eq kl_32)
  refine r_room (x2 := ((16 * 2 ^ k - 16) + 6) + 1) (y2 := ((33000 * 2 ^ k - 33000) + 16872) + 4002) (rq rfl) (rq rfl) ?_
  refine k_V (x := ((16 * 2 ^ k - 16) + 6)) (y := ((33000 * 2 ^ k - 33000) + 16872)) (rest := []) 0 dX11_text_299 kv_X11_113 (cj_apK (i := 32) (by decide) eL130 bh120 (Nat.le_trans bn128 (by decide))) rfl rfl rfl rfl (Nat.le_of_ble_eq_true rfl) (by first | exact hd3 | exact hd6 | exact hd7) (by decide) ?_
  rintro ⟨bv124, bm125, bf126⟩ bh127
  try dsimp only at bh127
  show R g mX11_text (k + 1 + 8) ((16 * 2 ^ k - 16) + 6) ((33000 * 2 ^ k - 33000) + 16872) 302 [(4, .ref u4), (3, .ref u3), (2, .ref u2), (1, .ref u1), (0, .ref a)] [.ref q5] ((q5, .inr (13, [.ref bv124, .int (0 : Int32), .int (0 : Int32), .int (nI L129.length)])) :: ((bv124, yA g bm125 bf126) :: t0)) _
  refine r_ldcS (i := 50) dX11_text_302 rfl ?_
  obtain ⟨L136, eL137⟩ : ∃ L9 : List Int32, L9 = L129 ++ kT 50 := ⟨_, rfl⟩
  have bn135 : L136.length ≤ 381 := by rw [eL137]; exact lnA (L := L129) (L2 := kT 50) (n := 380) (n2 := 1) bn128 (Nat.le_of_eq kl_50)
  refine r_room (x2 := ((16 * 2 ^ k - 16) + 5) + 1) (y2 := ((33000 * 2 ^ k - 33000) + 12870) + 4002) (rq rfl) (rq rfl) ?_
  refine k_V (x := ((16 * 2 ^ k - 16) + 5)) (y := ((33000 * 2 ^ k - 33000) + 12870)) (rest := []) 0 dX11_text_304 kv_X11_113 (cj_apK (i := 50) (by decide) eL137 bh127 (Nat.le_trans bn135 (by decide))) rfl rfl rfl rfl (Nat.le_of_ble_eq_true rfl) (by first | exact hd3 | exact hd6 | exact hd7) (by decide) ?_
  rintro ⟨bv131, bm132, bf133⟩ bh134
  try dsimp only at bh134
  show R g mX11_text (k + 1 + 8) ((16 * 2 ^ k - 16) + 5) ((33000 * 2 ^ k - 33000) + 12870) 307 [(4, .ref u4), (3, .ref u3), (2, .ref u2), (1, .ref u1), (0, .ref a)] [.ref q5] ((q5, .inr (13, [.ref bv131, .int (0 : Int32), .int (0 : Int32), .int (nI L136.length)])) :: ((bv131, yA g bm132 bf133) :: t0)) _
  refine r_aload_n 4 dX11_text_307 rfl ?_
  refine r_getm (v := .ref (tA k y)) (ci := 11) (fs := [.int (7 : Int32), .int (nI n), .int (nI o), .ref (tA k x), .ref (tA k y)]) dX11_text_308 fl_X11_59 (List.mem_cons_of_mem _ (List.mem_cons_of_mem _ hoK)) rfl ?_
  obtain ⟨fszz138, hfzz138⟩ := TM.cell k y hmy
  refine r_room (x2 := 5 + (16 * 2 ^ k - 16)) (y2 := 12870 + (33000 * 2 ^ k - 33000)) (Nat.le_of_eq (Nat.add_comm _ _)) (Nat.le_of_eq (Nat.add_comm _ _)) ?_
  refine k_Vm (x := 5) (y := 12870) (rest := [.ref q5]) dX11_text_311 kv_X11_128 (IH y _ (TM.mono (fun p hp => (List.mem_cons_of_mem _ (List.mem_cons_of_mem _ (mt p hp)))) k y hmy) hy) rfl rfl (List.mem_cons_of_mem _ (List.mem_cons_of_mem _ (mt _ hfzz138))) rfl (Nat.le_of_ble_eq_true rfl) (Nat.le_of_eq (Nat.add_right_comm _ _ _)) (by decide) ?_
  rintro zz138 hz139
  refine r_seg (ws2 := ((q5, .inr (13, [.ref bv131, .int (0 : Int32), .int (0 : Int32), .int (nI L136.length)])) :: ((bv131, yA g bm132 bf133) :: ((sw g (txt k y).length zz138) ++ t0)))) [sw g (txt k y).length zz138, [(q5, .inr (13, [.ref bv131, .int (0 : Int32), .int (0 : Int32), .int (nI L136.length)]))], [(bv131, yA g bm132 bf133)], t0] [1, 2, 0, 3] rfl rfl rfl ?_
  obtain ⟨L145, eL146⟩ : ∃ L9 : List Int32, L9 = L136 ++ txt k y := ⟨_, rfl⟩
  have bn144 : L145.length ≤ 758 := by rw [eL146]; exact lnA (L := L136) (L2 := txt k y) (n := 381) (n2 := 377) bn135 (ly)
  refine k_V (x := 4) (y := 8868) (rest := []) 0 dX11_text_314 kv_X11_113 (cj_apX (L2 := txt k y) (z := zz138) hz139 eL146 bh134 (Nat.le_trans bn144 (by decide))) rfl rfl rfl rfl (Nat.le_of_ble_eq_true rfl) (by first | exact hd3 | exact hd6 | exact hd7) (by decide) ?_
  rintro ⟨bv140, bm141, bf142⟩ bh143
  try dsimp only at bh143
  show R g mX11_text (k + 1 + 8) 4 8868 317 [(4, .ref u4), (3, .ref u3), (2, .ref u2), (1, .ref u1), (0, .ref a)] [.ref q5] ((q5, .inr (13, [.ref bv140, .int (0 : Int32), .int (0 : Int32), .int (nI L145.length)])) :: ((bv140, yA g bm141 bf142) :: ((sw g (txt k y).length zz138) ++ t0))) _
  refine r_seg (ws2 := ((q5, .inr (13, [.ref bv140, .int (0 : Int32), .int (0 : Int32), .int (nI L145.length)])) :: ((bv140, yA g bm141 bf142) :: t0))) [[(q5, .inr (13, [.ref bv140, .int (0 : Int32), .int (0 : Int32), .int (nI L145.length)]))], [(bv140, yA g bm141 bf142)], sw g (txt k y).length zz138, t0] [0, 1, 3] rfl rfl rfl ?_
  refine r_ldcS (i := 49) dX11_text_317 rfl ?_
  obtain ⟨L152, eL153⟩ : ∃ L9 : List Int32, L9 = L145 ++ kT 49 := ⟨_, rfl⟩
  have bn151 : L152.length ≤ 759 := by rw [eL153]; exact lnA (L := L145) (L2 := kT 49) (n := 758) (n2 := 1) bn144 (Nat.le_of_eq kl_49)
  refine k_V (x := 3) (y := 4866) (rest := []) 0 dX11_text_319 kv_X11_113 (cj_apK (i := 49) (by decide) eL153 bh143 (Nat.le_trans bn151 (by decide))) rfl rfl rfl rfl (Nat.le_of_ble_eq_true rfl) (by first | exact hd3 | exact hd6 | exact hd7) (by decide) ?_
  rintro ⟨bv147, bm148, bf149⟩ bh150
  try dsimp only at bh150
  show R g mX11_text (k + 1 + 8) 3 4866 322 [(4, .ref u4), (3, .ref u3), (2, .ref u2), (1, .ref u1), (0, .ref a)] [.ref q5] ((q5, .inr (13, [.ref bv147, .int (0 : Int32), .int (0 : Int32), .int (nI L152.length)])) :: ((bv147, yA g bm148 bf149) :: t0)) _
  refine k_V (x := 1) (y := 860) (rest := []) 0 dX11_text_322 kv_X11_120 (cj_strB bh150) rfl rfl rfl rfl (Nat.le_of_ble_eq_true rfl) (by first | exact hd3 | exact hd6 | exact hd7) (by decide) ?_
  rintro ⟨ts154, tb155, tf156⟩ th157
  try dsimp only at th157
  show R g mX11_text (k + 1 + 8) 1 860 325 [(4, .ref u4), (3, .ref u3), (2, .ref u2), (1, .ref u1), (0, .ref a)] [.ref ts154] ((ts154, .inr (12, [.ref tb155, .int (0 : Int32), .int (0 : Int32), .int (0 : Int32)])) :: ((tb155, yA g L152.length tf156) :: ((q5, .inr (13, [.ref bv147, .int (0 : Int32), .int (0 : Int32), .int (nI L152.length)])) :: ((bv147, yA g bm148 bf149) :: t0)))) _
  rw [e0]
  refine r_seg (ws2 := ((ts154, .inr (12, [.ref tb155, .int (0 : Int32), .int (0 : Int32), .int (0 : Int32)])) :: ((tb155, yA g L152.length tf156) :: t))) [[(ts154, .inr (12, [.ref tb155, .int (0 : Int32), .int (0 : Int32), .int (0 : Int32)]))], [(tb155, yA g L152.length tf156)], [(q5, .inr (13, [.ref bv147, .int (0 : Int32), .int (0 : Int32), .int (nI L152.length)]))], [(bv147, yA g bm148 bf149)], [(u4, qA g 7 4 (va_up (va_up (va_up (va_up (fun _ => none) 0 (some (gK g 43))) 1 (some (gK g 44))) 2 (some (gK g 45))) 3 (some (gK g 46))))], [(u3, qA g 7 5 (va_up (va_up (va_up (va_up (va_up (fun _ => none) 0 (some (gK g 38))) 1 (some (gK g 39))) 2 (some (gK g 40))) 3 (some (gK g 41))) 4 (some (gK g 42))))], [(u2, qA g 7 6 (va_up (va_up (va_up (va_up (va_up (va_up (fun _ => none) 0 (some (gK g 32))) 1 (some (gK g 33))) 2 (some (gK g 34))) 3 (some (gK g 35))) 4 (some (gK g 36))) 5 (some (gK g 37))))], [(u1, qA g 7 6 (va_up (va_up (va_up (va_up (va_up (va_up (fun _ => none) 0 (some (gK g iE))) 1 (some (gK g 27))) 2 (some (gK g 28))) 3 (some (gK g 29))) 4 (some (gK g 30))) 5 (some (gK g 31))))], t] [0, 1, 8] rfl rfl rfl ?_
  subst eL153
  subst eL146
  subst eL137
  subst eL130
  subst eL123
  subst eL116
  subst eL107
  refine r_aret dX11_text_325 rfl rfl (Or.inr ⟨_, rfl⟩) ?_
  exact Dq.mk (Sum.inr (ts154, tb155, tf156)) rfl rfl th157
set_option maxRecDepth 20000 in
set_option maxHeartbeats 8000000 in
theorem tx_8 {g : GG} {ne nt k a n o u1 u2 u3 u4 : Nat} {t t0 : va_W} {x y : TT k} (IH : TextH g ne nt k) (e0 : t0 = ((u4, qA g 7 4 (va_up (va_up (va_up (va_up (fun _ => none) 0 (some (gK g 43))) 1 (some (gK g 44))) 2 (some (gK g 45))) 3 (some (gK g 46)))) :: ((u3, qA g 7 5 (va_up (va_up (va_up (va_up (va_up (fun _ => none) 0 (some (gK g 38))) 1 (some (gK g 39))) 2 (some (gK g 40))) 3 (some (gK g 41))) 4 (some (gK g 42)))) :: ((u2, qA g 7 6 (va_up (va_up (va_up (va_up (va_up (va_up (fun _ => none) 0 (some (gK g 32))) 1 (some (gK g 33))) 2 (some (gK g 34))) 3 (some (gK g 35))) 4 (some (gK g 36))) 5 (some (gK g 37)))) :: ((u1, qA g 7 6 (va_up (va_up (va_up (va_up (va_up (va_up (fun _ => none) 0 (some (gK g iE))) 1 (some (gK g 27))) 2 (some (gK g 28))) 3 (some (gK g 29))) 4 (some (gK g 30))) 5 (some (gK g 31)))) :: t))))) (hk5 : k ≤ 5) (hn : nt ≤ 10) (hne : ne ≤ 10) (ho : (a, .inr (11, [.int (8 : Int32), .int (nI n), .int (nI o), .ref (tA k x), .ref (tA k y)])) ∈ t) (hmx : TM g t k x) (hx : TE ne nt k x ∨ TB ne nt k x) (hmy : TM g t k y) (hy : TE ne nt k y ∨ TB ne nt k y) : R g mX11_text (k + 1 + 8) ((16 * 2 ^ k - 16) + (16 * 2 ^ k - 16) + 12) ((33000 * 2 ^ k - 33000) + (33000 * 2 ^ k - 33000) + 32900) 128 [(4, .ref u4), (3, .ref u3), (2, .ref u2), (1, .ref u1), (0, .ref a)] [] t0 (Dq (fun (z : SZ) => some (sv g z)) (fun z => sw g (((((((([] : List Int32) ++ kT 50) ++ (txt k x)) ++ kT 49) ++ kT 33) ++ kT 50) ++ (txt k y)) ++ kT 49).length z ++ t) (fun z => sP (((((((([] : List Int32) ++ kT 50) ++ (txt k x)) ++ kT 49) ++ kT 33) ++ kT 50) ++ (txt k y)) ++ kT 49) z)) := by
  have hd3 : 3 + 1 ≤ k + 1 + 8 := by omega
  have hd6 : 6 + 1 ≤ k + 1 + 8 := by omega
  have hd7 : 7 + 1 ≤ k + 1 + 8 := by omega
  have hp5 : 2 ^ k ≤ 32 := Nat.le_trans (Nat.pow_le_pow_right (by decide) hk5) (by decide)
  have hlk : 12 * 2 ^ k - 7 ≤ 377 := by omega
  have lx := Nat.le_trans (txt_len hne hn k x hx) hlk
  have ly := Nat.le_trans (txt_len hne hn k y hy) hlk
  have m0 : (u4, qA g 7 4 (va_up (va_up (va_up (va_up (fun _ => none) 0 (some (gK g 43))) 1 (some (gK g 44))) 2 (some (gK g 45))) 3 (some (gK g 46)))) ∈ t0 := by rw [e0]; exact List.mem_cons_self
  have m1 : (u3, qA g 7 5 (va_up (va_up (va_up (va_up (va_up (fun _ => none) 0 (some (gK g 38))) 1 (some (gK g 39))) 2 (some (gK g 40))) 3 (some (gK g 41))) 4 (some (gK g 42)))) ∈ t0 := by rw [e0]; exact (List.mem_cons_of_mem _ List.mem_cons_self)
  have m2 : (u2, qA g 7 6 (va_up (va_up (va_up (va_up (va_up (va_up (fun _ => none) 0 (some (gK g 32))) 1 (some (gK g 33))) 2 (some (gK g 34))) 3 (some (gK g 35))) 4 (some (gK g 36))) 5 (some (gK g 37)))) ∈ t0 := by rw [e0]; exact (List.mem_cons_of_mem _ (List.mem_cons_of_mem _ List.mem_cons_self))
  have m3 : (u1, qA g 7 6 (va_up (va_up (va_up (va_up (va_up (va_up (fun _ => none) 0 (some (gK g iE))) 1 (some (gK g 27))) 2 (some (gK g 28))) 3 (some (gK g 29))) 4 (some (gK g 30))) 5 (some (gK g 31)))) ∈ t0 := by rw [e0]; exact (List.mem_cons_of_mem _ (List.mem_cons_of_mem _ (List.mem_cons_of_mem _ List.mem_cons_self)))
  have mt : ∀ p ∈ t, p ∈ t0 := fun p hp => by rw [e0]; exact (List.mem_cons_of_mem _ (List.mem_cons_of_mem _ (List.mem_cons_of_mem _ (List.mem_cons_of_mem _ hp))))
  have hoK := mt _ ho
  refine r_aload_n 4 dX11_text_128 rfl ?_
  refine r_getm (v := .int (8 : Int32)) (ci := 11) (fs := [.int (8 : Int32), .int (nI n), .int (nI o), .ref (tA k x), .ref (tA k y)]) dX11_text_129 fl_X11_7 hoK rfl ?_
  refine r_if_ne (tgt := 158) dX11_text_132 (by decide) (fun _ => ?_) (fun hc => absurd hc (by decide))
  refine r_aload_n 4 dX11_text_158 rfl ?_
  refine r_getm (v := .int (8 : Int32)) (ci := 11) (fs := [.int (8 : Int32), .int (nI n), .int (nI o), .ref (tA k x), .ref (tA k y)]) dX11_text_159 fl_X11_7 hoK rfl ?_
  refine r_iconst (v := (4 : Int32)) dX11_text_162 (by decide) ?_
  refine r_icmp_ge (tgt := 173) dX11_text_163 (by decide) (fun _ => ?_) (fun hc => absurd (by decide) hc)
  refine r_aload_n 4 dX11_text_173 rfl ?_
  refine r_getm (v := .int (8 : Int32)) (ci := 11) (fs := [.int (8 : Int32), .int (nI n), .int (nI o), .ref (tA k x), .ref (tA k y)]) dX11_text_174 fl_X11_7 hoK rfl ?_
  refine r_bipush (v := (6 : Int32)) dX11_text_177 (by decide) ?_
  refine r_icmp_ge (tgt := 214) dX11_text_179 (by decide) (fun _ => ?_) (fun hc => absurd (by decide) hc)
  refine r_aload_n 4 dX11_text_214 rfl ?_
  refine r_getm (v := .int (8 : Int32)) (ci := 11) (fs := [.int (8 : Int32), .int (nI n), .int (nI o), .ref (tA k x), .ref (tA k y)]) dX11_text_215 fl_X11_7 hoK rfl ?_
  refine r_bipush (v := (6 : Int32)) dX11_text_218 (by decide) ?_
  refine r_icmp_ne (tgt := 254) dX11_text_220 (by decide) (fun _ => ?_) (fun hc => absurd hc (by decide))
  refine r_aload_n 4 dX11_text_254 rfl ?_
  refine r_getm (v := .int (8 : Int32)) (ci := 11) (fs := [.int (8 : Int32), .int (nI n), .int (nI o), .ref (tA k x), .ref (tA k y)]) dX11_text_255 fl_X11_7 hoK rfl ?_
  refine r_bipush (v := (11 : Int32)) dX11_text_258 (by decide) ?_
  refine r_icmp_ge (tgt := 326) dX11_text_260 (by decide) (fun hc => absurd hc (by decide)) (fun _ => ?_)
  refine r_new (N := 4) (x := ((16 * 2 ^ k - 16) + (16 * 2 ^ k - 16) + 11)) (y := ((33000 * 2 ^ k - 33000) + (33000 * 2 ^ k - 33000) + 32896)) dX11_text_263 nl_X11_110 (fun q6 => ?_)
  refine r_dup dX11_text_266 rfl ?_
  refine r_room (x2 := ((16 * 2 ^ k - 16) + (16 * 2 ^ k - 16) + 10) + 1) (y2 := ((33000 * 2 ^ k - 33000) + (33000 * 2 ^ k - 33000) + 32880) + 16) (rq rfl) (rq rfl) ?_
  refine k_I (x := ((16 * 2 ^ k - 16) + (16 * 2 ^ k - 16) + 10)) (y := ((33000 * 2 ^ k - 33000) + (33000 * 2 ^ k - 33000) + 32880)) (rest := [.ref q6]) dX11_text_267 ki_X11_112 (cj_sb) rfl rfl (Nat.le_of_ble_eq_true rfl) (by first | exact hd3 | exact hd6 | exact hd7) (by decide) ?_
  rintro bv158 -
  show R g mX11_text (k + 1 + 8) ((16 * 2 ^ k - 16) + (16 * 2 ^ k - 16) + 10) ((33000 * 2 ^ k - 33000) + (33000 * 2 ^ k - 33000) + 32880) 270 [(4, .ref u4), (3, .ref u3), (2, .ref u2), (1, .ref u1), (0, .ref a)] [.ref q6] ((q6, .inr (13, [.ref bv158, .int (0 : Int32), .int (0 : Int32), .int (nI ([] : List Int32).length)])) :: ((bv158, yA g 16 (fun _ => 0)) :: t0)) _
  refine r_ldcS (i := 50) dX11_text_270 rfl ?_
  obtain ⟨L164, eL165⟩ : ∃ L9 : List Int32, L9 = ([] : List Int32) ++ kT 50 := ⟨_, rfl⟩
  have bn163 : L164.length ≤ 1 := by rw [eL165]; exact lnA (L := ([] : List Int32)) (L2 := kT 50) (n := 0) (n2 := 1) (Nat.le_refl 0) (Nat.le_of_eq kl_50)
  refine r_room (x2 := ((16 * 2 ^ k - 16) + (16 * 2 ^ k - 16) + 9) + 1) (y2 := ((33000 * 2 ^ k - 33000) + (33000 * 2 ^ k - 33000) + 28878) + 4002) (rq rfl) (rq rfl) ?_
  refine k_V (x := ((16 * 2 ^ k - 16) + (16 * 2 ^ k - 16) + 9)) (y := ((33000 * 2 ^ k - 33000) + (33000 * 2 ^ k - 33000) + 28878)) (rest := []) 0 dX11_text_272 kv_X11_113 (cj_apK (i := 50) (by decide) eL165 BL.nil (Nat.le_trans bn163 (by decide))) rfl rfl rfl rfl (Nat.le_of_ble_eq_true rfl) (by first | exact hd3 | exact hd6 | exact hd7) (by decide) ?_
  rintro ⟨bv159, bm160, bf161⟩ bh162
  try dsimp only at bh162
  show R g mX11_text (k + 1 + 8) ((16 * 2 ^ k - 16) + (16 * 2 ^ k - 16) + 9) ((33000 * 2 ^ k - 33000) + (33000 * 2 ^ k - 33000) + 28878) 275 [(4, .ref u4), (3, .ref u3), (2, .ref u2), (1, .ref u1), (0, .ref a)] [.ref q6] ((q6, .inr (13, [.ref bv159, .int (0 : Int32), .int (0 : Int32), .int (nI L164.length)])) :: ((bv159, yA g bm160 bf161) :: t0)) _
  refine r_aload_n 4 dX11_text_275 rfl ?_
  refine r_getm (v := .ref (tA k x)) (ci := 11) (fs := [.int (8 : Int32), .int (nI n), .int (nI o), .ref (tA k x), .ref (tA k y)]) dX11_text_276 fl_X11_40 (List.mem_cons_of_mem _ (List.mem_cons_of_mem _ hoK)) rfl ?_
  obtain ⟨fszz166, hfzz166⟩ := TM.cell k x hmx
  refine r_room (x2 := ((16 * 2 ^ k - 16) + 9) + (16 * 2 ^ k - 16)) (y2 := ((33000 * 2 ^ k - 33000) + 28878) + (33000 * 2 ^ k - 33000)) (Nat.le_of_eq (Nat.add_right_comm _ _ _)) (Nat.le_of_eq (Nat.add_right_comm _ _ _)) ?_
  refine k_Vm (x := ((16 * 2 ^ k - 16) + 9)) (y := ((33000 * 2 ^ k - 33000) + 28878)) (rest := [.ref q6]) dX11_text_279 kv_X11_128 (IH x _ (TM.mono (fun p hp => (List.mem_cons_of_mem _ (List.mem_cons_of_mem _ (mt p hp)))) k x hmx) hx) rfl rfl (List.mem_cons_of_mem _ (List.mem_cons_of_mem _ (mt _ hfzz166))) rfl (Nat.le_of_ble_eq_true rfl) (Nat.le_of_eq (Nat.add_right_comm _ _ _)) (by decide) ?_
  rintro zz166 hz167
  refine r_seg (ws2 := ((q6, .inr (13, [.ref bv159, .int (0 : Int32), .int (0 : Int32), .int (nI L164.length)])) :: ((bv159, yA g bm160 bf161) :: ((sw g (txt k x).length zz166) ++ t0)))) [sw g (txt k x).length zz166, [(q6, .inr (13, [.ref bv159, .int (0 : Int32), .int (0 : Int32), .int (nI L164.length)]))], [(bv159, yA g bm160 bf161)], t0] [1, 2, 0, 3] rfl rfl rfl ?_
  obtain ⟨L173, eL174⟩ : ∃ L9 : List Int32, L9 = L164 ++ txt k x := ⟨_, rfl⟩
  have bn172 : L173.length ≤ 378 := by rw [eL174]; exact lnA (L := L164) (L2 := txt k x) (n := 1) (n2 := 377) bn163 (lx)
  refine r_room (x2 := ((16 * 2 ^ k - 16) + 8) + 1) (y2 := ((33000 * 2 ^ k - 33000) + 24876) + 4002) (rq rfl) (rq rfl) ?_
  refine k_V (x := ((16 * 2 ^ k - 16) + 8)) (y := ((33000 * 2 ^ k - 33000) + 24876)) (rest := []) 0 dX11_text_282 kv_X11_113 (cj_apX (L2 := txt k x) (z := zz166) hz167 eL174 bh162 (Nat.le_trans bn172 (by decide))) rfl rfl rfl rfl (Nat.le_of_ble_eq_true rfl) (by first | exact hd3 | exact hd6 | exact hd7) (by decide) ?_
  rintro ⟨bv168, bm169, bf170⟩ bh171
  try dsimp only at bh171
  show R g mX11_text (k + 1 + 8) ((16 * 2 ^ k - 16) + 8) ((33000 * 2 ^ k - 33000) + 24876) 285 [(4, .ref u4), (3, .ref u3), (2, .ref u2), (1, .ref u1), (0, .ref a)] [.ref q6] ((q6, .inr (13, [.ref bv168, .int (0 : Int32), .int (0 : Int32), .int (nI L173.length)])) :: ((bv168, yA g bm169 bf170) :: ((sw g (txt k x).length zz166) ++ t0))) _
  refine r_seg (ws2 := ((q6, .inr (13, [.ref bv168, .int (0 : Int32), .int (0 : Int32), .int (nI L173.length)])) :: ((bv168, yA g bm169 bf170) :: t0))) [[(q6, .inr (13, [.ref bv168, .int (0 : Int32), .int (0 : Int32), .int (nI L173.length)]))], [(bv168, yA g bm169 bf170)], sw g (txt k x).length zz166, t0] [0, 1, 3] rfl rfl rfl ?_
  refine r_ldcS (i := 49) dX11_text_285 rfl ?_
  obtain ⟨L180, eL181⟩ : ∃ L9 : List Int32, L9 = L173 ++ kT 49 := ⟨_, rfl⟩
  have bn179 : L180.length ≤ 379 := by rw [eL181]; exact lnA (L := L173) (L2 := kT 49) (n := 378) (n2 := 1) bn172 (Nat.le_of_eq kl_49)
  refine r_room (x2 := ((16 * 2 ^ k - 16) + 7) + 1) (y2 := ((33000 * 2 ^ k - 33000) + 20874) + 4002) (rq rfl) (rq rfl) ?_
  refine k_V (x := ((16 * 2 ^ k - 16) + 7)) (y := ((33000 * 2 ^ k - 33000) + 20874)) (rest := []) 0 dX11_text_287 kv_X11_113 (cj_apK (i := 49) (by decide) eL181 bh171 (Nat.le_trans bn179 (by decide))) rfl rfl rfl rfl (Nat.le_of_ble_eq_true rfl) (by first | exact hd3 | exact hd6 | exact hd7) (by decide) ?_
  rintro ⟨bv175, bm176, bf177⟩ bh178
  try dsimp only at bh178
  show R g mX11_text (k + 1 + 8) ((16 * 2 ^ k - 16) + 7) ((33000 * 2 ^ k - 33000) + 20874) 290 [(4, .ref u4), (3, .ref u3), (2, .ref u2), (1, .ref u1), (0, .ref a)] [.ref q6] ((q6, .inr (13, [.ref bv175, .int (0 : Int32), .int (0 : Int32), .int (nI L180.length)])) :: ((bv175, yA g bm176 bf177) :: t0)) _
  refine r_aload_n 2 dX11_text_290 rfl ?_
  refine r_aload_n 4 dX11_text_291 rfl ?_
  refine r_getm (v := .int (8 : Int32)) (ci := 11) (fs := [.int (8 : Int32), .int (nI n), .int (nI o), .ref (tA k x), .ref (tA k y)]) dX11_text_292 fl_X11_7 (List.mem_cons_of_mem _ (List.mem_cons_of_mem _ hoK)) rfl ?_
  refine r_bipush (v := (7 : Int32)) dX11_text_295 (by decide) ?_
  refine r_isub dX11_text_297 ?_
  refine r_aaldm (t := 7) (n := 6) (f := (va_up (va_up (va_up (va_up (va_up (va_up (fun _ => none) 0 (some (gK g 32))) 1 (some (gK g 33))) 2 (some (gK g 34))) 3 (some (gK g 35))) 4 (some (gK g 36))) 5 (some (gK g 37)))) (v := .ref (gK g 33)) dX11_text_298 rfl rfl (List.mem_cons_of_mem _ (List.mem_cons_of_mem _ m2)) (by decide) (by rfl) ?_
  obtain ⟨L187, eL188⟩ : ∃ L9 : List Int32, L9 = L180 ++ kT 33 := ⟨_, rfl⟩
  have bn186 : L187.length ≤ 380 := by rw [eL188]; exact lnA (L := L180) (L2 := kT 33) (n := 379) (n2 := 1) bn179 (Nat.le_of_eq kl_33)
  refine r_room (x2 := ((16 * 2 ^ k - 16) + 6) + 1) (y2 := ((33000 * 2 ^ k - 33000) + 16872) + 4002) (rq rfl) (rq rfl) ?_
  refine k_V (x := ((16 * 2 ^ k - 16) + 6)) (y := ((33000 * 2 ^ k - 33000) + 16872)) (rest := []) 0 dX11_text_299 kv_X11_113 (cj_apK (i := 33) (by decide) eL188 bh178 (Nat.le_trans bn186 (by decide))) rfl rfl rfl rfl (Nat.le_of_ble_eq_true rfl) (by first | exact hd3 | exact hd6 | exact hd7) (by decide) ?_
  rintro ⟨bv182, bm183, bf184⟩ bh185
  try dsimp only at bh185
  show R g mX11_text (k + 1 + 8) ((16 * 2 ^ k - 16) + 6) ((33000 * 2 ^ k - 33000) + 16872) 302 [(4, .ref u4), (3, .ref u3), (2, .ref u2), (1, .ref u1), (0, .ref a)] [.ref q6] ((q6, .inr (13, [.ref bv182, .int (0 : Int32), .int (0 : Int32), .int (nI L187.length)])) :: ((bv182, yA g bm183 bf184) :: t0)) _
  refine r_ldcS (i := 50) dX11_text_302 rfl ?_
  obtain ⟨L194, eL195⟩ : ∃ L9 : List Int32, L9 = L187 ++ kT 50 := ⟨_, rfl⟩
  have bn193 : L194.length ≤ 381 := by rw [eL195]; exact lnA (L := L187) (L2 := kT 50) (n := 380) (n2 := 1) bn186 (Nat.le_of_eq kl_50)
  refine r_room (x2 := ((16 * 2 ^ k - 16) + 5) + 1) (y2 := ((33000 * 2 ^ k - 33000) + 12870) + 4002) (rq rfl) (rq rfl) ?_
  refine k_V (x := ((16 * 2 ^ k - 16) + 5)) (y := ((33000 * 2 ^ k - 33000) + 12870)) (rest := []) 0 dX11_text_304 kv_X11_113 (cj_apK (i := 50) (by decide) eL195 bh185 (Nat.le_trans bn193 (by decide))) rfl rfl rfl rfl (Nat.le_of_ble_eq_true rfl) (by first | exact hd3 | exact hd6 | exact hd7) (by decide) ?_
  rintro ⟨bv189, bm190, bf191⟩ bh192
  try dsimp only at bh192
  show R g mX11_text (k + 1 + 8) ((16 * 2 ^ k - 16) + 5) ((33000 * 2 ^ k - 33000) + 12870) 307 [(4, .ref u4), (3, .ref u3), (2, .ref u2), (1, .ref u1), (0, .ref a)] [.ref q6] ((q6, .inr (13, [.ref bv189, .int (0 : Int32), .int (0 : Int32), .int (nI L194.length)])) :: ((bv189, yA g bm190 bf191) :: t0)) _
  refine r_aload_n 4 dX11_text_307 rfl ?_
  refine r_getm (v := .ref (tA k y)) (ci := 11) (fs := [.int (8 : Int32), .int (nI n), .int (nI o), .ref (tA k x), .ref (tA k y)]) dX11_text_308 fl_X11_59 (List.mem_cons_of_mem _ (List.mem_cons_of_mem _ hoK)) rfl ?_
  obtain ⟨fszz196, hfzz196⟩ := TM.cell k y hmy
  refine r_room (x2 := 5 + (16 * 2 ^ k - 16)) (y2 := 12870 + (33000 * 2 ^ k - 33000)) (Nat.le_of_eq (Nat.add_comm _ _)) (Nat.le_of_eq (Nat.add_comm _ _)) ?_
  refine k_Vm (x := 5) (y := 12870) (rest := [.ref q6]) dX11_text_311 kv_X11_128 (IH y _ (TM.mono (fun p hp => (List.mem_cons_of_mem _ (List.mem_cons_of_mem _ (mt p hp)))) k y hmy) hy) rfl rfl (List.mem_cons_of_mem _ (List.mem_cons_of_mem _ (mt _ hfzz196))) rfl (Nat.le_of_ble_eq_true rfl) (Nat.le_of_eq (Nat.add_right_comm _ _ _)) (by decide) ?_
  rintro zz196 hz197
  refine r_seg (ws2 := ((q6, .inr (13, [.ref bv189, .int (0 : Int32), .int (0 : Int32), .int (nI L194.length)])) :: ((bv189, yA g bm190 bf191) :: ((sw g (txt k y).length zz196) ++ t0)))) [sw g (txt k y).length zz196, [(q6, .inr (13, [.ref bv189, .int (0 : Int32), .int (0 : Int32), .int (nI L194.length)]))], [(bv189, yA g bm190 bf191)], t0] [1, 2, 0, 3] rfl rfl rfl ?_
  obtain ⟨L203, eL204⟩ : ∃ L9 : List Int32, L9 = L194 ++ txt k y := ⟨_, rfl⟩
  have bn202 : L203.length ≤ 758 := by rw [eL204]; exact lnA (L := L194) (L2 := txt k y) (n := 381) (n2 := 377) bn193 (ly)
  refine k_V (x := 4) (y := 8868) (rest := []) 0 dX11_text_314 kv_X11_113 (cj_apX (L2 := txt k y) (z := zz196) hz197 eL204 bh192 (Nat.le_trans bn202 (by decide))) rfl rfl rfl rfl (Nat.le_of_ble_eq_true rfl) (by first | exact hd3 | exact hd6 | exact hd7) (by decide) ?_
  rintro ⟨bv198, bm199, bf200⟩ bh201
  try dsimp only at bh201
  show R g mX11_text (k + 1 + 8) 4 8868 317 [(4, .ref u4), (3, .ref u3), (2, .ref u2), (1, .ref u1), (0, .ref a)] [.ref q6] ((q6, .inr (13, [.ref bv198, .int (0 : Int32), .int (0 : Int32), .int (nI L203.length)])) :: ((bv198, yA g bm199 bf200) :: ((sw g (txt k y).length zz196) ++ t0))) _
  refine r_seg (ws2 := ((q6, .inr (13, [.ref bv198, .int (0 : Int32), .int (0 : Int32), .int (nI L203.length)])) :: ((bv198, yA g bm199 bf200) :: t0))) [[(q6, .inr (13, [.ref bv198, .int (0 : Int32), .int (0 : Int32), .int (nI L203.length)]))], [(bv198, yA g bm199 bf200)], sw g (txt k y).length zz196, t0] [0, 1, 3] rfl rfl rfl ?_
  refine r_ldcS (i := 49) dX11_text_317 rfl ?_
  obtain ⟨L210, eL211⟩ : ∃ L9 : List Int32, L9 = L203 ++ kT 49 := ⟨_, rfl⟩
  have bn209 : L210.length ≤ 759 := by rw [eL211]; exact lnA (L := L203) (L2 := kT 49) (n := 758) (n2 := 1) bn202 (Nat.le_of_eq kl_49)
  refine k_V (x := 3) (y := 4866) (rest := []) 0 dX11_text_319 kv_X11_113 (cj_apK (i := 49) (by decide) eL211 bh201 (Nat.le_trans bn209 (by decide))) rfl rfl rfl rfl (Nat.le_of_ble_eq_true rfl) (by first | exact hd3 | exact hd6 | exact hd7) (by decide) ?_
  rintro ⟨bv205, bm206, bf207⟩ bh208
  try dsimp only at bh208
  show R g mX11_text (k + 1 + 8) 3 4866 322 [(4, .ref u4), (3, .ref u3), (2, .ref u2), (1, .ref u1), (0, .ref a)] [.ref q6] ((q6, .inr (13, [.ref bv205, .int (0 : Int32), .int (0 : Int32), .int (nI L210.length)])) :: ((bv205, yA g bm206 bf207) :: t0)) _
  refine k_V (x := 1) (y := 860) (rest := []) 0 dX11_text_322 kv_X11_120 (cj_strB bh208) rfl rfl rfl rfl (Nat.le_of_ble_eq_true rfl) (by first | exact hd3 | exact hd6 | exact hd7) (by decide) ?_
  rintro ⟨ts212, tb213, tf214⟩ th215
  try dsimp only at th215
  show R g mX11_text (k + 1 + 8) 1 860 325 [(4, .ref u4), (3, .ref u3), (2, .ref u2), (1, .ref u1), (0, .ref a)] [.ref ts212] ((ts212, .inr (12, [.ref tb213, .int (0 : Int32), .int (0 : Int32), .int (0 : Int32)])) :: ((tb213, yA g L210.length tf214) :: ((q6, .inr (13, [.ref bv205, .int (0 : Int32), .int (0 : Int32), .int (nI L210.length)])) :: ((bv205, yA g bm206 bf207) :: t0)))) _
  rw [e0]
  refine r_seg (ws2 := ((ts212, .inr (12, [.ref tb213, .int (0 : Int32), .int (0 : Int32), .int (0 : Int32)])) :: ((tb213, yA g L210.length tf214) :: t))) [[(ts212, .inr (12, [.ref tb213, .int (0 : Int32), .int (0 : Int32), .int (0 : Int32)]))], [(tb213, yA g L210.length tf214)], [(q6, .inr (13, [.ref bv205, .int (0 : Int32), .int (0 : Int32), .int (nI L210.length)]))], [(bv205, yA g bm206 bf207)], [(u4, qA g 7 4 (va_up (va_up (va_up (va_up (fun _ => none) 0 (some (gK g 43))) 1 (some (gK g 44))) 2 (some (gK g 45))) 3 (some (gK g 46))))], [(u3, qA g 7 5 (va_up (va_up (va_up (va_up (va_up (fun _ => none) 0 (some (gK g 38))) 1 (some (gK g 39))) 2 (some (gK g 40))) 3 (some (gK g 41))) 4 (some (gK g 42))))], [(u2, qA g 7 6 (va_up (va_up (va_up (va_up (va_up (va_up (fun _ => none) 0 (some (gK g 32))) 1 (some (gK g 33))) 2 (some (gK g 34))) 3 (some (gK g 35))) 4 (some (gK g 36))) 5 (some (gK g 37))))], [(u1, qA g 7 6 (va_up (va_up (va_up (va_up (va_up (va_up (fun _ => none) 0 (some (gK g iE))) 1 (some (gK g 27))) 2 (some (gK g 28))) 3 (some (gK g 29))) 4 (some (gK g 30))) 5 (some (gK g 31))))], t] [0, 1, 8] rfl rfl rfl ?_
  subst eL211
  subst eL204
  subst eL195
  subst eL188
  subst eL181
  subst eL174
  subst eL165
  refine r_aret dX11_text_325 rfl rfl (Or.inr ⟨_, rfl⟩) ?_
  exact Dq.mk (Sum.inr (ts212, tb213, tf214)) rfl rfl th215
set_option maxRecDepth 20000 in
set_option maxHeartbeats 8000000 in
theorem tx_9 {g : GG} {ne nt k a n o u1 u2 u3 u4 : Nat} {t t0 : va_W} {x y : TT k} (IH : TextH g ne nt k) (e0 : t0 = ((u4, qA g 7 4 (va_up (va_up (va_up (va_up (fun _ => none) 0 (some (gK g 43))) 1 (some (gK g 44))) 2 (some (gK g 45))) 3 (some (gK g 46)))) :: ((u3, qA g 7 5 (va_up (va_up (va_up (va_up (va_up (fun _ => none) 0 (some (gK g 38))) 1 (some (gK g 39))) 2 (some (gK g 40))) 3 (some (gK g 41))) 4 (some (gK g 42)))) :: ((u2, qA g 7 6 (va_up (va_up (va_up (va_up (va_up (va_up (fun _ => none) 0 (some (gK g 32))) 1 (some (gK g 33))) 2 (some (gK g 34))) 3 (some (gK g 35))) 4 (some (gK g 36))) 5 (some (gK g 37)))) :: ((u1, qA g 7 6 (va_up (va_up (va_up (va_up (va_up (va_up (fun _ => none) 0 (some (gK g iE))) 1 (some (gK g 27))) 2 (some (gK g 28))) 3 (some (gK g 29))) 4 (some (gK g 30))) 5 (some (gK g 31)))) :: t))))) (hk5 : k ≤ 5) (hn : nt ≤ 10) (hne : ne ≤ 10) (ho : (a, .inr (11, [.int (9 : Int32), .int (nI n), .int (nI o), .ref (tA k x), .ref (tA k y)])) ∈ t) (hmx : TM g t k x) (hx : TE ne nt k x ∨ TB ne nt k x) (hmy : TM g t k y) (hy : TE ne nt k y ∨ TB ne nt k y) : R g mX11_text (k + 1 + 8) ((16 * 2 ^ k - 16) + (16 * 2 ^ k - 16) + 12) ((33000 * 2 ^ k - 33000) + (33000 * 2 ^ k - 33000) + 32900) 128 [(4, .ref u4), (3, .ref u3), (2, .ref u2), (1, .ref u1), (0, .ref a)] [] t0 (Dq (fun (z : SZ) => some (sv g z)) (fun z => sw g (((((((([] : List Int32) ++ kT 50) ++ (txt k x)) ++ kT 49) ++ kT 34) ++ kT 50) ++ (txt k y)) ++ kT 49).length z ++ t) (fun z => sP (((((((([] : List Int32) ++ kT 50) ++ (txt k x)) ++ kT 49) ++ kT 34) ++ kT 50) ++ (txt k y)) ++ kT 49) z)) := by
  have hd3 : 3 + 1 ≤ k + 1 + 8 := by omega
  have hd6 : 6 + 1 ≤ k + 1 + 8 := by omega
  have hd7 : 7 + 1 ≤ k + 1 + 8 := by omega
  have hp5 : 2 ^ k ≤ 32 := Nat.le_trans (Nat.pow_le_pow_right (by decide) hk5) (by decide)
  have hlk : 12 * 2 ^ k - 7 ≤ 377 := by omega
  have lx := Nat.le_trans (txt_len hne hn k x hx) hlk
  have ly := Nat.le_trans (txt_len hne hn k y hy) hlk
  have m0 : (u4, qA g 7 4 (va_up (va_up (va_up (va_up (fun _ => none) 0 (some (gK g 43))) 1 (some (gK g 44))) 2 (some (gK g 45))) 3 (some (gK g 46)))) ∈ t0 := by rw [e0]; exact List.mem_cons_self
  have m1 : (u3, qA g 7 5 (va_up (va_up (va_up (va_up (va_up (fun _ => none) 0 (some (gK g 38))) 1 (some (gK g 39))) 2 (some (gK g 40))) 3 (some (gK g 41))) 4 (some (gK g 42)))) ∈ t0 := by rw [e0]; exact (List.mem_cons_of_mem _ List.mem_cons_self)
  have m2 : (u2, qA g 7 6 (va_up (va_up (va_up (va_up (va_up (va_up (fun _ => none) 0 (some (gK g 32))) 1 (some (gK g 33))) 2 (some (gK g 34))) 3 (some (gK g 35))) 4 (some (gK g 36))) 5 (some (gK g 37)))) ∈ t0 := by rw [e0]; exact (List.mem_cons_of_mem _ (List.mem_cons_of_mem _ List.mem_cons_self))
  have m3 : (u1, qA g 7 6 (va_up (va_up (va_up (va_up (va_up (va_up (fun _ => none) 0 (some (gK g iE))) 1 (some (gK g 27))) 2 (some (gK g 28))) 3 (some (gK g 29))) 4 (some (gK g 30))) 5 (some (gK g 31)))) ∈ t0 := by rw [e0]; exact (List.mem_cons_of_mem _ (List.mem_cons_of_mem _ (List.mem_cons_of_mem _ List.mem_cons_self)))
  have mt : ∀ p ∈ t, p ∈ t0 := fun p hp => by rw [e0]; exact (List.mem_cons_of_mem _ (List.mem_cons_of_mem _ (List.mem_cons_of_mem _ (List.mem_cons_of_mem _ hp))))
  have hoK := mt _ ho
  refine r_aload_n 4 dX11_text_128 rfl ?_
  refine r_getm (v := .int (9 : Int32)) (ci := 11) (fs := [.int (9 : Int32), .int (nI n), .int (nI o), .ref (tA k x), .ref (tA k y)]) dX11_text_129 fl_X11_7 hoK rfl ?_
  refine r_if_ne (tgt := 158) dX11_text_132 (by decide) (fun _ => ?_) (fun hc => absurd hc (by decide))
  refine r_aload_n 4 dX11_text_158 rfl ?_
  refine r_getm (v := .int (9 : Int32)) (ci := 11) (fs := [.int (9 : Int32), .int (nI n), .int (nI o), .ref (tA k x), .ref (tA k y)]) dX11_text_159 fl_X11_7 hoK rfl ?_
  refine r_iconst (v := (4 : Int32)) dX11_text_162 (by decide) ?_
  refine r_icmp_ge (tgt := 173) dX11_text_163 (by decide) (fun _ => ?_) (fun hc => absurd (by decide) hc)
  refine r_aload_n 4 dX11_text_173 rfl ?_
  refine r_getm (v := .int (9 : Int32)) (ci := 11) (fs := [.int (9 : Int32), .int (nI n), .int (nI o), .ref (tA k x), .ref (tA k y)]) dX11_text_174 fl_X11_7 hoK rfl ?_
  refine r_bipush (v := (6 : Int32)) dX11_text_177 (by decide) ?_
  refine r_icmp_ge (tgt := 214) dX11_text_179 (by decide) (fun _ => ?_) (fun hc => absurd (by decide) hc)
  refine r_aload_n 4 dX11_text_214 rfl ?_
  refine r_getm (v := .int (9 : Int32)) (ci := 11) (fs := [.int (9 : Int32), .int (nI n), .int (nI o), .ref (tA k x), .ref (tA k y)]) dX11_text_215 fl_X11_7 hoK rfl ?_
  refine r_bipush (v := (6 : Int32)) dX11_text_218 (by decide) ?_
  refine r_icmp_ne (tgt := 254) dX11_text_220 (by decide) (fun _ => ?_) (fun hc => absurd hc (by decide))
  refine r_aload_n 4 dX11_text_254 rfl ?_
  refine r_getm (v := .int (9 : Int32)) (ci := 11) (fs := [.int (9 : Int32), .int (nI n), .int (nI o), .ref (tA k x), .ref (tA k y)]) dX11_text_255 fl_X11_7 hoK rfl ?_
  refine r_bipush (v := (11 : Int32)) dX11_text_258 (by decide) ?_
  refine r_icmp_ge (tgt := 326) dX11_text_260 (by decide) (fun hc => absurd hc (by decide)) (fun _ => ?_)
  refine r_new (N := 4) (x := ((16 * 2 ^ k - 16) + (16 * 2 ^ k - 16) + 11)) (y := ((33000 * 2 ^ k - 33000) + (33000 * 2 ^ k - 33000) + 32896)) dX11_text_263 nl_X11_110 (fun q7 => ?_)
  refine r_dup dX11_text_266 rfl ?_
  refine r_room (x2 := ((16 * 2 ^ k - 16) + (16 * 2 ^ k - 16) + 10) + 1) (y2 := ((33000 * 2 ^ k - 33000) + (33000 * 2 ^ k - 33000) + 32880) + 16) (rq rfl) (rq rfl) ?_
  refine k_I (x := ((16 * 2 ^ k - 16) + (16 * 2 ^ k - 16) + 10)) (y := ((33000 * 2 ^ k - 33000) + (33000 * 2 ^ k - 33000) + 32880)) (rest := [.ref q7]) dX11_text_267 ki_X11_112 (cj_sb) rfl rfl (Nat.le_of_ble_eq_true rfl) (by first | exact hd3 | exact hd6 | exact hd7) (by decide) ?_
  rintro bv216 -
  show R g mX11_text (k + 1 + 8) ((16 * 2 ^ k - 16) + (16 * 2 ^ k - 16) + 10) ((33000 * 2 ^ k - 33000) + (33000 * 2 ^ k - 33000) + 32880) 270 [(4, .ref u4), (3, .ref u3), (2, .ref u2), (1, .ref u1), (0, .ref a)] [.ref q7] ((q7, .inr (13, [.ref bv216, .int (0 : Int32), .int (0 : Int32), .int (nI ([] : List Int32).length)])) :: ((bv216, yA g 16 (fun _ => 0)) :: t0)) _
  refine r_ldcS (i := 50) dX11_text_270 rfl ?_
  obtain ⟨L222, eL223⟩ : ∃ L9 : List Int32, L9 = ([] : List Int32) ++ kT 50 := ⟨_, rfl⟩
  have bn221 : L222.length ≤ 1 := by rw [eL223]; exact lnA (L := ([] : List Int32)) (L2 := kT 50) (n := 0) (n2 := 1) (Nat.le_refl 0) (Nat.le_of_eq kl_50)
  refine r_room (x2 := ((16 * 2 ^ k - 16) + (16 * 2 ^ k - 16) + 9) + 1) (y2 := ((33000 * 2 ^ k - 33000) + (33000 * 2 ^ k - 33000) + 28878) + 4002) (rq rfl) (rq rfl) ?_
  refine k_V (x := ((16 * 2 ^ k - 16) + (16 * 2 ^ k - 16) + 9)) (y := ((33000 * 2 ^ k - 33000) + (33000 * 2 ^ k - 33000) + 28878)) (rest := []) 0 dX11_text_272 kv_X11_113 (cj_apK (i := 50) (by decide) eL223 BL.nil (Nat.le_trans bn221 (by decide))) rfl rfl rfl rfl (Nat.le_of_ble_eq_true rfl) (by first | exact hd3 | exact hd6 | exact hd7) (by decide) ?_
  rintro ⟨bv217, bm218, bf219⟩ bh220
  try dsimp only at bh220
  show R g mX11_text (k + 1 + 8) ((16 * 2 ^ k - 16) + (16 * 2 ^ k - 16) + 9) ((33000 * 2 ^ k - 33000) + (33000 * 2 ^ k - 33000) + 28878) 275 [(4, .ref u4), (3, .ref u3), (2, .ref u2), (1, .ref u1), (0, .ref a)] [.ref q7] ((q7, .inr (13, [.ref bv217, .int (0 : Int32), .int (0 : Int32), .int (nI L222.length)])) :: ((bv217, yA g bm218 bf219) :: t0)) _
  refine r_aload_n 4 dX11_text_275 rfl ?_
  refine r_getm (v := .ref (tA k x)) (ci := 11) (fs := [.int (9 : Int32), .int (nI n), .int (nI o), .ref (tA k x), .ref (tA k y)]) dX11_text_276 fl_X11_40 (List.mem_cons_of_mem _ (List.mem_cons_of_mem _ hoK)) rfl ?_
  obtain ⟨fszz224, hfzz224⟩ := TM.cell k x hmx
  refine r_room (x2 := ((16 * 2 ^ k - 16) + 9) + (16 * 2 ^ k - 16)) (y2 := ((33000 * 2 ^ k - 33000) + 28878) + (33000 * 2 ^ k - 33000)) (Nat.le_of_eq (Nat.add_right_comm _ _ _)) (Nat.le_of_eq (Nat.add_right_comm _ _ _)) ?_
  refine k_Vm (x := ((16 * 2 ^ k - 16) + 9)) (y := ((33000 * 2 ^ k - 33000) + 28878)) (rest := [.ref q7]) dX11_text_279 kv_X11_128 (IH x _ (TM.mono (fun p hp => (List.mem_cons_of_mem _ (List.mem_cons_of_mem _ (mt p hp)))) k x hmx) hx) rfl rfl (List.mem_cons_of_mem _ (List.mem_cons_of_mem _ (mt _ hfzz224))) rfl (Nat.le_of_ble_eq_true rfl) (Nat.le_of_eq (Nat.add_right_comm _ _ _)) (by decide) ?_
  rintro zz224 hz225
  refine r_seg (ws2 := ((q7, .inr (13, [.ref bv217, .int (0 : Int32), .int (0 : Int32), .int (nI L222.length)])) :: ((bv217, yA g bm218 bf219) :: ((sw g (txt k x).length zz224) ++ t0)))) [sw g (txt k x).length zz224, [(q7, .inr (13, [.ref bv217, .int (0 : Int32), .int (0 : Int32), .int (nI L222.length)]))], [(bv217, yA g bm218 bf219)], t0] [1, 2, 0, 3] rfl rfl rfl ?_
  obtain ⟨L231, eL232⟩ : ∃ L9 : List Int32, L9 = L222 ++ txt k x := ⟨_, rfl⟩
  have bn230 : L231.length ≤ 378 := by rw [eL232]; exact lnA (L := L222) (L2 := txt k x) (n := 1) (n2 := 377) bn221 (lx)
  refine r_room (x2 := ((16 * 2 ^ k - 16) + 8) + 1) (y2 := ((33000 * 2 ^ k - 33000) + 24876) + 4002) (rq rfl) (rq rfl) ?_
  refine k_V (x := ((16 * 2 ^ k - 16) + 8)) (y := ((33000 * 2 ^ k - 33000) + 24876)) (rest := []) 0 dX11_text_282 kv_X11_113 (cj_apX (L2 := txt k x) (z := zz224) hz225 eL232 bh220 (Nat.le_trans bn230 (by decide))) rfl rfl rfl rfl (Nat.le_of_ble_eq_true rfl) (by first | exact hd3 | exact hd6 | exact hd7) (by decide) ?_
  rintro ⟨bv226, bm227, bf228⟩ bh229
  try dsimp only at bh229
  show R g mX11_text (k + 1 + 8) ((16 * 2 ^ k - 16) + 8) ((33000 * 2 ^ k - 33000) + 24876) 285 [(4, .ref u4), (3, .ref u3), (2, .ref u2), (1, .ref u1), (0, .ref a)] [.ref q7] ((q7, .inr (13, [.ref bv226, .int (0 : Int32), .int (0 : Int32), .int (nI L231.length)])) :: ((bv226, yA g bm227 bf228) :: ((sw g (txt k x).length zz224) ++ t0))) _
  refine r_seg (ws2 := ((q7, .inr (13, [.ref bv226, .int (0 : Int32), .int (0 : Int32), .int (nI L231.length)])) :: ((bv226, yA g bm227 bf228) :: t0))) [[(q7, .inr (13, [.ref bv226, .int (0 : Int32), .int (0 : Int32), .int (nI L231.length)]))], [(bv226, yA g bm227 bf228)], sw g (txt k x).length zz224, t0] [0, 1, 3] rfl rfl rfl ?_
  refine r_ldcS (i := 49) dX11_text_285 rfl ?_
  obtain ⟨L238, eL239⟩ : ∃ L9 : List Int32, L9 = L231 ++ kT 49 := ⟨_, rfl⟩
  have bn237 : L238.length ≤ 379 := by rw [eL239]; exact lnA (L := L231) (L2 := kT 49) (n := 378) (n2 := 1) bn230 (Nat.le_of_eq kl_49)
  refine r_room (x2 := ((16 * 2 ^ k - 16) + 7) + 1) (y2 := ((33000 * 2 ^ k - 33000) + 20874) + 4002) (rq rfl) (rq rfl) ?_
  refine k_V (x := ((16 * 2 ^ k - 16) + 7)) (y := ((33000 * 2 ^ k - 33000) + 20874)) (rest := []) 0 dX11_text_287 kv_X11_113 (cj_apK (i := 49) (by decide) eL239 bh229 (Nat.le_trans bn237 (by decide))) rfl rfl rfl rfl (Nat.le_of_ble_eq_true rfl) (by first | exact hd3 | exact hd6 | exact hd7) (by decide) ?_
  rintro ⟨bv233, bm234, bf235⟩ bh236
  try dsimp only at bh236
  show R g mX11_text (k + 1 + 8) ((16 * 2 ^ k - 16) + 7) ((33000 * 2 ^ k - 33000) + 20874) 290 [(4, .ref u4), (3, .ref u3), (2, .ref u2), (1, .ref u1), (0, .ref a)] [.ref q7] ((q7, .inr (13, [.ref bv233, .int (0 : Int32), .int (0 : Int32), .int (nI L238.length)])) :: ((bv233, yA g bm234 bf235) :: t0)) _
  refine r_aload_n 2 dX11_text_290 rfl ?_
  refine r_aload_n 4 dX11_text_291 rfl ?_
  refine r_getm (v := .int (9 : Int32)) (ci := 11) (fs := [.int (9 : Int32), .int (nI n), .int (nI o), .ref (tA k x), .ref (tA k y)]) dX11_text_292 fl_X11_7 (List.mem_cons_of_mem _ (List.mem_cons_of_mem _ hoK)) rfl ?_
  refine r_bipush (v := (7 : Int32)) dX11_text_295 (by decide) ?_
  refine r_isub dX11_text_297 ?_
  refine r_aaldm (t := 7) (n := 6) (f := (va_up (va_up (va_up (va_up (va_up (va_up (fun _ => none) 0 (some (gK g 32))) 1 (some (gK g 33))) 2 (some (gK g 34))) 3 (some (gK g 35))) 4 (some (gK g 36))) 5 (some (gK g 37)))) (v := .ref (gK g 34)) dX11_text_298 rfl rfl (List.mem_cons_of_mem _ (List.mem_cons_of_mem _ m2)) (by decide) (by rfl) ?_
  obtain ⟨L245, eL246⟩ : ∃ L9 : List Int32, L9 = L238 ++ kT 34 := ⟨_, rfl⟩
  have bn244 : L245.length ≤ 380 := by rw [eL246]; exact lnA (L := L238) (L2 := kT 34) (n := 379) (n2 := 1) bn237 (Nat.le_of_eq kl_34)
  refine r_room (x2 := ((16 * 2 ^ k - 16) + 6) + 1) (y2 := ((33000 * 2 ^ k - 33000) + 16872) + 4002) (rq rfl) (rq rfl) ?_
  refine k_V (x := ((16 * 2 ^ k - 16) + 6)) (y := ((33000 * 2 ^ k - 33000) + 16872)) (rest := []) 0 dX11_text_299 kv_X11_113 (cj_apK (i := 34) (by decide) eL246 bh236 (Nat.le_trans bn244 (by decide))) rfl rfl rfl rfl (Nat.le_of_ble_eq_true rfl) (by first | exact hd3 | exact hd6 | exact hd7) (by decide) ?_
  rintro ⟨bv240, bm241, bf242⟩ bh243
  try dsimp only at bh243
  show R g mX11_text (k + 1 + 8) ((16 * 2 ^ k - 16) + 6) ((33000 * 2 ^ k - 33000) + 16872) 302 [(4, .ref u4), (3, .ref u3), (2, .ref u2), (1, .ref u1), (0, .ref a)] [.ref q7] ((q7, .inr (13, [.ref bv240, .int (0 : Int32), .int (0 : Int32), .int (nI L245.length)])) :: ((bv240, yA g bm241 bf242) :: t0)) _
  refine r_ldcS (i := 50) dX11_text_302 rfl ?_
  obtain ⟨L252, eL253⟩ : ∃ L9 : List Int32, L9 = L245 ++ kT 50 := ⟨_, rfl⟩
  have bn251 : L252.length ≤ 381 := by rw [eL253]; exact lnA (L := L245) (L2 := kT 50) (n := 380) (n2 := 1) bn244 (Nat.le_of_eq kl_50)
  refine r_room (x2 := ((16 * 2 ^ k - 16) + 5) + 1) (y2 := ((33000 * 2 ^ k - 33000) + 12870) + 4002) (rq rfl) (rq rfl) ?_
  refine k_V (x := ((16 * 2 ^ k - 16) + 5)) (y := ((33000 * 2 ^ k - 33000) + 12870)) (rest := []) 0 dX11_text_304 kv_X11_113 (cj_apK (i := 50) (by decide) eL253 bh243 (Nat.le_trans bn251 (by decide))) rfl rfl rfl rfl (Nat.le_of_ble_eq_true rfl) (by first | exact hd3 | exact hd6 | exact hd7) (by decide) ?_
  rintro ⟨bv247, bm248, bf249⟩ bh250
  try dsimp only at bh250
  show R g mX11_text (k + 1 + 8) ((16 * 2 ^ k - 16) + 5) ((33000 * 2 ^ k - 33000) + 12870) 307 [(4, .ref u4), (3, .ref u3), (2, .ref u2), (1, .ref u1), (0, .ref a)] [.ref q7] ((q7, .inr (13, [.ref bv247, .int (0 : Int32), .int (0 : Int32), .int (nI L252.length)])) :: ((bv247, yA g bm248 bf249) :: t0)) _
  refine r_aload_n 4 dX11_text_307 rfl ?_
  refine r_getm (v := .ref (tA k y)) (ci := 11) (fs := [.int (9 : Int32), .int (nI n), .int (nI o), .ref (tA k x), .ref (tA k y)]) dX11_text_308 fl_X11_59 (List.mem_cons_of_mem _ (List.mem_cons_of_mem _ hoK)) rfl ?_
  obtain ⟨fszz254, hfzz254⟩ := TM.cell k y hmy
  refine r_room (x2 := 5 + (16 * 2 ^ k - 16)) (y2 := 12870 + (33000 * 2 ^ k - 33000)) (Nat.le_of_eq (Nat.add_comm _ _)) (Nat.le_of_eq (Nat.add_comm _ _)) ?_
  refine k_Vm (x := 5) (y := 12870) (rest := [.ref q7]) dX11_text_311 kv_X11_128 (IH y _ (TM.mono (fun p hp => (List.mem_cons_of_mem _ (List.mem_cons_of_mem _ (mt p hp)))) k y hmy) hy) rfl rfl (List.mem_cons_of_mem _ (List.mem_cons_of_mem _ (mt _ hfzz254))) rfl (Nat.le_of_ble_eq_true rfl) (Nat.le_of_eq (Nat.add_right_comm _ _ _)) (by decide) ?_
  rintro zz254 hz255
  refine r_seg (ws2 := ((q7, .inr (13, [.ref bv247, .int (0 : Int32), .int (0 : Int32), .int (nI L252.length)])) :: ((bv247, yA g bm248 bf249) :: ((sw g (txt k y).length zz254) ++ t0)))) [sw g (txt k y).length zz254, [(q7, .inr (13, [.ref bv247, .int (0 : Int32), .int (0 : Int32), .int (nI L252.length)]))], [(bv247, yA g bm248 bf249)], t0] [1, 2, 0, 3] rfl rfl rfl ?_
  obtain ⟨L261, eL262⟩ : ∃ L9 : List Int32, L9 = L252 ++ txt k y := ⟨_, rfl⟩
  have bn260 : L261.length ≤ 758 := by rw [eL262]; exact lnA (L := L252) (L2 := txt k y) (n := 381) (n2 := 377) bn251 (ly)
  refine k_V (x := 4) (y := 8868) (rest := []) 0 dX11_text_314 kv_X11_113 (cj_apX (L2 := txt k y) (z := zz254) hz255 eL262 bh250 (Nat.le_trans bn260 (by decide))) rfl rfl rfl rfl (Nat.le_of_ble_eq_true rfl) (by first | exact hd3 | exact hd6 | exact hd7) (by decide) ?_
  rintro ⟨bv256, bm257, bf258⟩ bh259
  try dsimp only at bh259
  show R g mX11_text (k + 1 + 8) 4 8868 317 [(4, .ref u4), (3, .ref u3), (2, .ref u2), (1, .ref u1), (0, .ref a)] [.ref q7] ((q7, .inr (13, [.ref bv256, .int (0 : Int32), .int (0 : Int32), .int (nI L261.length)])) :: ((bv256, yA g bm257 bf258) :: ((sw g (txt k y).length zz254) ++ t0))) _
  refine r_seg (ws2 := ((q7, .inr (13, [.ref bv256, .int (0 : Int32), .int (0 : Int32), .int (nI L261.length)])) :: ((bv256, yA g bm257 bf258) :: t0))) [[(q7, .inr (13, [.ref bv256, .int (0 : Int32), .int (0 : Int32), .int (nI L261.length)]))], [(bv256, yA g bm257 bf258)], sw g (txt k y).length zz254, t0] [0, 1, 3] rfl rfl rfl ?_
  refine r_ldcS (i := 49) dX11_text_317 rfl ?_
  obtain ⟨L268, eL269⟩ : ∃ L9 : List Int32, L9 = L261 ++ kT 49 := ⟨_, rfl⟩
  have bn267 : L268.length ≤ 759 := by rw [eL269]; exact lnA (L := L261) (L2 := kT 49) (n := 758) (n2 := 1) bn260 (Nat.le_of_eq kl_49)
  refine k_V (x := 3) (y := 4866) (rest := []) 0 dX11_text_319 kv_X11_113 (cj_apK (i := 49) (by decide) eL269 bh259 (Nat.le_trans bn267 (by decide))) rfl rfl rfl rfl (Nat.le_of_ble_eq_true rfl) (by first | exact hd3 | exact hd6 | exact hd7) (by decide) ?_
  rintro ⟨bv263, bm264, bf265⟩ bh266
  try dsimp only at bh266
  show R g mX11_text (k + 1 + 8) 3 4866 322 [(4, .ref u4), (3, .ref u3), (2, .ref u2), (1, .ref u1), (0, .ref a)] [.ref q7] ((q7, .inr (13, [.ref bv263, .int (0 : Int32), .int (0 : Int32), .int (nI L268.length)])) :: ((bv263, yA g bm264 bf265) :: t0)) _
  refine k_V (x := 1) (y := 860) (rest := []) 0 dX11_text_322 kv_X11_120 (cj_strB bh266) rfl rfl rfl rfl (Nat.le_of_ble_eq_true rfl) (by first | exact hd3 | exact hd6 | exact hd7) (by decide) ?_
  rintro ⟨ts270, tb271, tf272⟩ th273
  try dsimp only at th273
  show R g mX11_text (k + 1 + 8) 1 860 325 [(4, .ref u4), (3, .ref u3), (2, .ref u2), (1, .ref u1), (0, .ref a)] [.ref ts270] ((ts270, .inr (12, [.ref tb271, .int (0 : Int32), .int (0 : Int32), .int (0 : Int32)])) :: ((tb271, yA g L268.length tf272) :: ((q7, .inr (13, [.ref bv263, .int (0 : Int32), .int (0 : Int32), .int (nI L268.length)])) :: ((bv263, yA g bm264 bf265) :: t0)))) _
  rw [e0]
  refine r_seg (ws2 := ((ts270, .inr (12, [.ref tb271, .int (0 : Int32), .int (0 : Int32), .int (0 : Int32)])) :: ((tb271, yA g L268.length tf272) :: t))) [[(ts270, .inr (12, [.ref tb271, .int (0 : Int32), .int (0 : Int32), .int (0 : Int32)]))], [(tb271, yA g L268.length tf272)], [(q7, .inr (13, [.ref bv263, .int (0 : Int32), .int (0 : Int32), .int (nI L268.length)]))], [(bv263, yA g bm264 bf265)], [(u4, qA g 7 4 (va_up (va_up (va_up (va_up (fun _ => none) 0 (some (gK g 43))) 1 (some (gK g 44))) 2 (some (gK g 45))) 3 (some (gK g 46))))], [(u3, qA g 7 5 (va_up (va_up (va_up (va_up (va_up (fun _ => none) 0 (some (gK g 38))) 1 (some (gK g 39))) 2 (some (gK g 40))) 3 (some (gK g 41))) 4 (some (gK g 42))))], [(u2, qA g 7 6 (va_up (va_up (va_up (va_up (va_up (va_up (fun _ => none) 0 (some (gK g 32))) 1 (some (gK g 33))) 2 (some (gK g 34))) 3 (some (gK g 35))) 4 (some (gK g 36))) 5 (some (gK g 37))))], [(u1, qA g 7 6 (va_up (va_up (va_up (va_up (va_up (va_up (fun _ => none) 0 (some (gK g iE))) 1 (some (gK g 27))) 2 (some (gK g 28))) 3 (some (gK g 29))) 4 (some (gK g 30))) 5 (some (gK g 31))))], t] [0, 1, 8] rfl rfl rfl ?_
  subst eL269
  subst eL262
  subst eL253
  subst eL246
  subst eL239
  subst eL232
  subst eL223
  refine r_aret dX11_text_325 rfl rfl (Or.inr ⟨_, rfl⟩) ?_
  exact Dq.mk (Sum.inr (ts270, tb271, tf272)) rfl rfl th273
set_option maxRecDepth 20000 in
set_option maxHeartbeats 8000000 in
theorem tx_10 {g : GG} {ne nt k a n o u1 u2 u3 u4 : Nat} {t t0 : va_W} {x y : TT k} (IH : TextH g ne nt k) (e0 : t0 = ((u4, qA g 7 4 (va_up (va_up (va_up (va_up (fun _ => none) 0 (some (gK g 43))) 1 (some (gK g 44))) 2 (some (gK g 45))) 3 (some (gK g 46)))) :: ((u3, qA g 7 5 (va_up (va_up (va_up (va_up (va_up (fun _ => none) 0 (some (gK g 38))) 1 (some (gK g 39))) 2 (some (gK g 40))) 3 (some (gK g 41))) 4 (some (gK g 42)))) :: ((u2, qA g 7 6 (va_up (va_up (va_up (va_up (va_up (va_up (fun _ => none) 0 (some (gK g 32))) 1 (some (gK g 33))) 2 (some (gK g 34))) 3 (some (gK g 35))) 4 (some (gK g 36))) 5 (some (gK g 37)))) :: ((u1, qA g 7 6 (va_up (va_up (va_up (va_up (va_up (va_up (fun _ => none) 0 (some (gK g iE))) 1 (some (gK g 27))) 2 (some (gK g 28))) 3 (some (gK g 29))) 4 (some (gK g 30))) 5 (some (gK g 31)))) :: t))))) (hk5 : k ≤ 5) (hn : nt ≤ 10) (hne : ne ≤ 10) (ho : (a, .inr (11, [.int (10 : Int32), .int (nI n), .int (nI o), .ref (tA k x), .ref (tA k y)])) ∈ t) (hmx : TM g t k x) (hx : TE ne nt k x ∨ TB ne nt k x) (hmy : TM g t k y) (hy : TE ne nt k y ∨ TB ne nt k y) : R g mX11_text (k + 1 + 8) ((16 * 2 ^ k - 16) + (16 * 2 ^ k - 16) + 12) ((33000 * 2 ^ k - 33000) + (33000 * 2 ^ k - 33000) + 32900) 128 [(4, .ref u4), (3, .ref u3), (2, .ref u2), (1, .ref u1), (0, .ref a)] [] t0 (Dq (fun (z : SZ) => some (sv g z)) (fun z => sw g (((((((([] : List Int32) ++ kT 50) ++ (txt k x)) ++ kT 49) ++ kT 35) ++ kT 50) ++ (txt k y)) ++ kT 49).length z ++ t) (fun z => sP (((((((([] : List Int32) ++ kT 50) ++ (txt k x)) ++ kT 49) ++ kT 35) ++ kT 50) ++ (txt k y)) ++ kT 49) z)) := by
  have hd3 : 3 + 1 ≤ k + 1 + 8 := by omega
  have hd6 : 6 + 1 ≤ k + 1 + 8 := by omega
  have hd7 : 7 + 1 ≤ k + 1 + 8 := by omega
  have hp5 : 2 ^ k ≤ 32 := Nat.le_trans (Nat.pow_le_pow_right (by decide) hk5) (by decide)
  have hlk : 12 * 2 ^ k - 7 ≤ 377 := by omega
  have lx := Nat.le_trans (txt_len hne hn k x hx) hlk
  have ly := Nat.le_trans (txt_len hne hn k y hy) hlk
  have m0 : (u4, qA g 7 4 (va_up (va_up (va_up (va_up (fun _ => none) 0 (some (gK g 43))) 1 (some (gK g 44))) 2 (some (gK g 45))) 3 (some (gK g 46)))) ∈ t0 := by rw [e0]; exact List.mem_cons_self
  have m1 : (u3, qA g 7 5 (va_up (va_up (va_up (va_up (va_up (fun _ => none) 0 (some (gK g 38))) 1 (some (gK g 39))) 2 (some (gK g 40))) 3 (some (gK g 41))) 4 (some (gK g 42)))) ∈ t0 := by rw [e0]; exact (List.mem_cons_of_mem _ List.mem_cons_self)
  have m2 : (u2, qA g 7 6 (va_up (va_up (va_up (va_up (va_up (va_up (fun _ => none) 0 (some (gK g 32))) 1 (some (gK g 33))) 2 (some (gK g 34))) 3 (some (gK g 35))) 4 (some (gK g 36))) 5 (some (gK g 37)))) ∈ t0 := by rw [e0]; exact (List.mem_cons_of_mem _ (List.mem_cons_of_mem _ List.mem_cons_self))
  have m3 : (u1, qA g 7 6 (va_up (va_up (va_up (va_up (va_up (va_up (fun _ => none) 0 (some (gK g iE))) 1 (some (gK g 27))) 2 (some (gK g 28))) 3 (some (gK g 29))) 4 (some (gK g 30))) 5 (some (gK g 31)))) ∈ t0 := by rw [e0]; exact (List.mem_cons_of_mem _ (List.mem_cons_of_mem _ (List.mem_cons_of_mem _ List.mem_cons_self)))
  have mt : ∀ p ∈ t, p ∈ t0 := fun p hp => by rw [e0]; exact (List.mem_cons_of_mem _ (List.mem_cons_of_mem _ (List.mem_cons_of_mem _ (List.mem_cons_of_mem _ hp))))
  have hoK := mt _ ho
  refine r_aload_n 4 dX11_text_128 rfl ?_
  refine r_getm (v := .int (10 : Int32)) (ci := 11) (fs := [.int (10 : Int32), .int (nI n), .int (nI o), .ref (tA k x), .ref (tA k y)]) dX11_text_129 fl_X11_7 hoK rfl ?_
  refine r_if_ne (tgt := 158) dX11_text_132 (by decide) (fun _ => ?_) (fun hc => absurd hc (by decide))
  refine r_aload_n 4 dX11_text_158 rfl ?_
  refine r_getm (v := .int (10 : Int32)) (ci := 11) (fs := [.int (10 : Int32), .int (nI n), .int (nI o), .ref (tA k x), .ref (tA k y)]) dX11_text_159 fl_X11_7 hoK rfl ?_
  refine r_iconst (v := (4 : Int32)) dX11_text_162 (by decide) ?_
  refine r_icmp_ge (tgt := 173) dX11_text_163 (by decide) (fun _ => ?_) (fun hc => absurd (by decide) hc)
  refine r_aload_n 4 dX11_text_173 rfl ?_
  refine r_getm (v := .int (10 : Int32)) (ci := 11) (fs := [.int (10 : Int32), .int (nI n), .int (nI o), .ref (tA k x), .ref (tA k y)]) dX11_text_174 fl_X11_7 hoK rfl ?_
  refine r_bipush (v := (6 : Int32)) dX11_text_177 (by decide) ?_
  refine r_icmp_ge (tgt := 214) dX11_text_179 (by decide) (fun _ => ?_) (fun hc => absurd (by decide) hc)
  refine r_aload_n 4 dX11_text_214 rfl ?_
  refine r_getm (v := .int (10 : Int32)) (ci := 11) (fs := [.int (10 : Int32), .int (nI n), .int (nI o), .ref (tA k x), .ref (tA k y)]) dX11_text_215 fl_X11_7 hoK rfl ?_
  refine r_bipush (v := (6 : Int32)) dX11_text_218 (by decide) ?_
  refine r_icmp_ne (tgt := 254) dX11_text_220 (by decide) (fun _ => ?_) (fun hc => absurd hc (by decide))
  refine r_aload_n 4 dX11_text_254 rfl ?_
  refine r_getm (v := .int (10 : Int32)) (ci := 11) (fs := [.int (10 : Int32), .int (nI n), .int (nI o), .ref (tA k x), .ref (tA k y)]) dX11_text_255 fl_X11_7 hoK rfl ?_
  refine r_bipush (v := (11 : Int32)) dX11_text_258 (by decide) ?_
  refine r_icmp_ge (tgt := 326) dX11_text_260 (by decide) (fun hc => absurd hc (by decide)) (fun _ => ?_)
  refine r_new (N := 4) (x := ((16 * 2 ^ k - 16) + (16 * 2 ^ k - 16) + 11)) (y := ((33000 * 2 ^ k - 33000) + (33000 * 2 ^ k - 33000) + 32896)) dX11_text_263 nl_X11_110 (fun q8 => ?_)
  refine r_dup dX11_text_266 rfl ?_
  refine r_room (x2 := ((16 * 2 ^ k - 16) + (16 * 2 ^ k - 16) + 10) + 1) (y2 := ((33000 * 2 ^ k - 33000) + (33000 * 2 ^ k - 33000) + 32880) + 16) (rq rfl) (rq rfl) ?_
  refine k_I (x := ((16 * 2 ^ k - 16) + (16 * 2 ^ k - 16) + 10)) (y := ((33000 * 2 ^ k - 33000) + (33000 * 2 ^ k - 33000) + 32880)) (rest := [.ref q8]) dX11_text_267 ki_X11_112 (cj_sb) rfl rfl (Nat.le_of_ble_eq_true rfl) (by first | exact hd3 | exact hd6 | exact hd7) (by decide) ?_
  rintro bv274 -
  show R g mX11_text (k + 1 + 8) ((16 * 2 ^ k - 16) + (16 * 2 ^ k - 16) + 10) ((33000 * 2 ^ k - 33000) + (33000 * 2 ^ k - 33000) + 32880) 270 [(4, .ref u4), (3, .ref u3), (2, .ref u2), (1, .ref u1), (0, .ref a)] [.ref q8] ((q8, .inr (13, [.ref bv274, .int (0 : Int32), .int (0 : Int32), .int (nI ([] : List Int32).length)])) :: ((bv274, yA g 16 (fun _ => 0)) :: t0)) _
  refine r_ldcS (i := 50) dX11_text_270 rfl ?_
  obtain ⟨L280, eL281⟩ : ∃ L9 : List Int32, L9 = ([] : List Int32) ++ kT 50 := ⟨_, rfl⟩
  have bn279 : L280.length ≤ 1 := by rw [eL281]; exact lnA (L := ([] : List Int32)) (L2 := kT 50) (n := 0) (n2 := 1) (Nat.le_refl 0) (Nat.le_of_eq kl_50)
  refine r_room (x2 := ((16 * 2 ^ k - 16) + (16 * 2 ^ k - 16) + 9) + 1) (y2 := ((33000 * 2 ^ k - 33000) + (33000 * 2 ^ k - 33000) + 28878) + 4002) (rq rfl) (rq rfl) ?_
  refine k_V (x := ((16 * 2 ^ k - 16) + (16 * 2 ^ k - 16) + 9)) (y := ((33000 * 2 ^ k - 33000) + (33000 * 2 ^ k - 33000) + 28878)) (rest := []) 0 dX11_text_272 kv_X11_113 (cj_apK (i := 50) (by decide) eL281 BL.nil (Nat.le_trans bn279 (by decide))) rfl rfl rfl rfl (Nat.le_of_ble_eq_true rfl) (by first | exact hd3 | exact hd6 | exact hd7) (by decide) ?_
  rintro ⟨bv275, bm276, bf277⟩ bh278
  try dsimp only at bh278
  show R g mX11_text (k + 1 + 8) ((16 * 2 ^ k - 16) + (16 * 2 ^ k - 16) + 9) ((33000 * 2 ^ k - 33000) + (33000 * 2 ^ k - 33000) + 28878) 275 [(4, .ref u4), (3, .ref u3), (2, .ref u2), (1, .ref u1), (0, .ref a)] [.ref q8] ((q8, .inr (13, [.ref bv275, .int (0 : Int32), .int (0 : Int32), .int (nI L280.length)])) :: ((bv275, yA g bm276 bf277) :: t0)) _
  refine r_aload_n 4 dX11_text_275 rfl ?_
  refine r_getm (v := .ref (tA k x)) (ci := 11) (fs := [.int (10 : Int32), .int (nI n), .int (nI o), .ref (tA k x), .ref (tA k y)]) dX11_text_276 fl_X11_40 (List.mem_cons_of_mem _ (List.mem_cons_of_mem _ hoK)) rfl ?_
  obtain ⟨fszz282, hfzz282⟩ := TM.cell k x hmx
  refine r_room (x2 := ((16 * 2 ^ k - 16) + 9) + (16 * 2 ^ k - 16)) (y2 := ((33000 * 2 ^ k - 33000) + 28878) + (33000 * 2 ^ k - 33000)) (Nat.le_of_eq (Nat.add_right_comm _ _ _)) (Nat.le_of_eq (Nat.add_right_comm _ _ _)) ?_
  refine k_Vm (x := ((16 * 2 ^ k - 16) + 9)) (y := ((33000 * 2 ^ k - 33000) + 28878)) (rest := [.ref q8]) dX11_text_279 kv_X11_128 (IH x _ (TM.mono (fun p hp => (List.mem_cons_of_mem _ (List.mem_cons_of_mem _ (mt p hp)))) k x hmx) hx) rfl rfl (List.mem_cons_of_mem _ (List.mem_cons_of_mem _ (mt _ hfzz282))) rfl (Nat.le_of_ble_eq_true rfl) (Nat.le_of_eq (Nat.add_right_comm _ _ _)) (by decide) ?_
  rintro zz282 hz283
  refine r_seg (ws2 := ((q8, .inr (13, [.ref bv275, .int (0 : Int32), .int (0 : Int32), .int (nI L280.length)])) :: ((bv275, yA g bm276 bf277) :: ((sw g (txt k x).length zz282) ++ t0)))) [sw g (txt k x).length zz282, [(q8, .inr (13, [.ref bv275, .int (0 : Int32), .int (0 : Int32), .int (nI L280.length)]))], [(bv275, yA g bm276 bf277)], t0] [1, 2, 0, 3] rfl rfl rfl ?_
  obtain ⟨L289, eL290⟩ : ∃ L9 : List Int32, L9 = L280 ++ txt k x := ⟨_, rfl⟩
  have bn288 : L289.length ≤ 378 := by rw [eL290]; exact lnA (L := L280) (L2 := txt k x) (n := 1) (n2 := 377) bn279 (lx)
  refine r_room (x2 := ((16 * 2 ^ k - 16) + 8) + 1) (y2 := ((33000 * 2 ^ k - 33000) + 24876) + 4002) (rq rfl) (rq rfl) ?_
  refine k_V (x := ((16 * 2 ^ k - 16) + 8)) (y := ((33000 * 2 ^ k - 33000) + 24876)) (rest := []) 0 dX11_text_282 kv_X11_113 (cj_apX (L2 := txt k x) (z := zz282) hz283 eL290 bh278 (Nat.le_trans bn288 (by decide))) rfl rfl rfl rfl (Nat.le_of_ble_eq_true rfl) (by first | exact hd3 | exact hd6 | exact hd7) (by decide) ?_
  rintro ⟨bv284, bm285, bf286⟩ bh287
  try dsimp only at bh287
  show R g mX11_text (k + 1 + 8) ((16 * 2 ^ k - 16) + 8) ((33000 * 2 ^ k - 33000) + 24876) 285 [(4, .ref u4), (3, .ref u3), (2, .ref u2), (1, .ref u1), (0, .ref a)] [.ref q8] ((q8, .inr (13, [.ref bv284, .int (0 : Int32), .int (0 : Int32), .int (nI L289.length)])) :: ((bv284, yA g bm285 bf286) :: ((sw g (txt k x).length zz282) ++ t0))) _
  refine r_seg (ws2 := ((q8, .inr (13, [.ref bv284, .int (0 : Int32), .int (0 : Int32), .int (nI L289.length)])) :: ((bv284, yA g bm285 bf286) :: t0))) [[(q8, .inr (13, [.ref bv284, .int (0 : Int32), .int (0 : Int32), .int (nI L289.length)]))], [(bv284, yA g bm285 bf286)], sw g (txt k x).length zz282, t0] [0, 1, 3] rfl rfl rfl ?_
  refine r_ldcS (i := 49) dX11_text_285 rfl ?_
  obtain ⟨L296, eL297⟩ : ∃ L9 : List Int32, L9 = L289 ++ kT 49 := ⟨_, rfl⟩
  have bn295 : L296.length ≤ 379 := by rw [eL297]; exact lnA (L := L289) (L2 := kT 49) (n := 378) (n2 := 1) bn288 (Nat.le_of_eq kl_49)
  refine r_room (x2 := ((16 * 2 ^ k - 16) + 7) + 1) (y2 := ((33000 * 2 ^ k - 33000) + 20874) + 4002) (rq rfl) (rq rfl) ?_
  refine k_V (x := ((16 * 2 ^ k - 16) + 7)) (y := ((33000 * 2 ^ k - 33000) + 20874)) (rest := []) 0 dX11_text_287 kv_X11_113 (cj_apK (i := 49) (by decide) eL297 bh287 (Nat.le_trans bn295 (by decide))) rfl rfl rfl rfl (Nat.le_of_ble_eq_true rfl) (by first | exact hd3 | exact hd6 | exact hd7) (by decide) ?_
  rintro ⟨bv291, bm292, bf293⟩ bh294
  try dsimp only at bh294
  show R g mX11_text (k + 1 + 8) ((16 * 2 ^ k - 16) + 7) ((33000 * 2 ^ k - 33000) + 20874) 290 [(4, .ref u4), (3, .ref u3), (2, .ref u2), (1, .ref u1), (0, .ref a)] [.ref q8] ((q8, .inr (13, [.ref bv291, .int (0 : Int32), .int (0 : Int32), .int (nI L296.length)])) :: ((bv291, yA g bm292 bf293) :: t0)) _
  refine r_aload_n 2 dX11_text_290 rfl ?_
  refine r_aload_n 4 dX11_text_291 rfl ?_
  refine r_getm (v := .int (10 : Int32)) (ci := 11) (fs := [.int (10 : Int32), .int (nI n), .int (nI o), .ref (tA k x), .ref (tA k y)]) dX11_text_292 fl_X11_7 (List.mem_cons_of_mem _ (List.mem_cons_of_mem _ hoK)) rfl ?_
  refine r_bipush (v := (7 : Int32)) dX11_text_295 (by decide) ?_
  refine r_isub dX11_text_297 ?_
  refine r_aaldm (t := 7) (n := 6) (f := (va_up (va_up (va_up (va_up (va_up (va_up (fun _ => none) 0 (some (gK g 32))) 1 (some (gK g 33))) 2 (some (gK g 34))) 3 (some (gK g 35))) 4 (some (gK g 36))) 5 (some (gK g 37)))) (v := .ref (gK g 35)) dX11_text_298 rfl rfl (List.mem_cons_of_mem _ (List.mem_cons_of_mem _ m2)) (by decide) (by rfl) ?_
  obtain ⟨L303, eL304⟩ : ∃ L9 : List Int32, L9 = L296 ++ kT 35 := ⟨_, rfl⟩
  have bn302 : L303.length ≤ 380 := by rw [eL304]; exact lnA (L := L296) (L2 := kT 35) (n := 379) (n2 := 1) bn295 (Nat.le_of_eq kl_35)
  refine r_room (x2 := ((16 * 2 ^ k - 16) + 6) + 1) (y2 := ((33000 * 2 ^ k - 33000) + 16872) + 4002) (rq rfl) (rq rfl) ?_
  refine k_V (x := ((16 * 2 ^ k - 16) + 6)) (y := ((33000 * 2 ^ k - 33000) + 16872)) (rest := []) 0 dX11_text_299 kv_X11_113 (cj_apK (i := 35) (by decide) eL304 bh294 (Nat.le_trans bn302 (by decide))) rfl rfl rfl rfl (Nat.le_of_ble_eq_true rfl) (by first | exact hd3 | exact hd6 | exact hd7) (by decide) ?_
  rintro ⟨bv298, bm299, bf300⟩ bh301
  try dsimp only at bh301
  show R g mX11_text (k + 1 + 8) ((16 * 2 ^ k - 16) + 6) ((33000 * 2 ^ k - 33000) + 16872) 302 [(4, .ref u4), (3, .ref u3), (2, .ref u2), (1, .ref u1), (0, .ref a)] [.ref q8] ((q8, .inr (13, [.ref bv298, .int (0 : Int32), .int (0 : Int32), .int (nI L303.length)])) :: ((bv298, yA g bm299 bf300) :: t0)) _
  refine r_ldcS (i := 50) dX11_text_302 rfl ?_
  obtain ⟨L310, eL311⟩ : ∃ L9 : List Int32, L9 = L303 ++ kT 50 := ⟨_, rfl⟩
  have bn309 : L310.length ≤ 381 := by rw [eL311]; exact lnA (L := L303) (L2 := kT 50) (n := 380) (n2 := 1) bn302 (Nat.le_of_eq kl_50)
  refine r_room (x2 := ((16 * 2 ^ k - 16) + 5) + 1) (y2 := ((33000 * 2 ^ k - 33000) + 12870) + 4002) (rq rfl) (rq rfl) ?_
  refine k_V (x := ((16 * 2 ^ k - 16) + 5)) (y := ((33000 * 2 ^ k - 33000) + 12870)) (rest := []) 0 dX11_text_304 kv_X11_113 (cj_apK (i := 50) (by decide) eL311 bh301 (Nat.le_trans bn309 (by decide))) rfl rfl rfl rfl (Nat.le_of_ble_eq_true rfl) (by first | exact hd3 | exact hd6 | exact hd7) (by decide) ?_
  rintro ⟨bv305, bm306, bf307⟩ bh308
  try dsimp only at bh308
  show R g mX11_text (k + 1 + 8) ((16 * 2 ^ k - 16) + 5) ((33000 * 2 ^ k - 33000) + 12870) 307 [(4, .ref u4), (3, .ref u3), (2, .ref u2), (1, .ref u1), (0, .ref a)] [.ref q8] ((q8, .inr (13, [.ref bv305, .int (0 : Int32), .int (0 : Int32), .int (nI L310.length)])) :: ((bv305, yA g bm306 bf307) :: t0)) _
  refine r_aload_n 4 dX11_text_307 rfl ?_
  refine r_getm (v := .ref (tA k y)) (ci := 11) (fs := [.int (10 : Int32), .int (nI n), .int (nI o), .ref (tA k x), .ref (tA k y)]) dX11_text_308 fl_X11_59 (List.mem_cons_of_mem _ (List.mem_cons_of_mem _ hoK)) rfl ?_
  obtain ⟨fszz312, hfzz312⟩ := TM.cell k y hmy
  refine r_room (x2 := 5 + (16 * 2 ^ k - 16)) (y2 := 12870 + (33000 * 2 ^ k - 33000)) (Nat.le_of_eq (Nat.add_comm _ _)) (Nat.le_of_eq (Nat.add_comm _ _)) ?_
  refine k_Vm (x := 5) (y := 12870) (rest := [.ref q8]) dX11_text_311 kv_X11_128 (IH y _ (TM.mono (fun p hp => (List.mem_cons_of_mem _ (List.mem_cons_of_mem _ (mt p hp)))) k y hmy) hy) rfl rfl (List.mem_cons_of_mem _ (List.mem_cons_of_mem _ (mt _ hfzz312))) rfl (Nat.le_of_ble_eq_true rfl) (Nat.le_of_eq (Nat.add_right_comm _ _ _)) (by decide) ?_
  rintro zz312 hz313
  refine r_seg (ws2 := ((q8, .inr (13, [.ref bv305, .int (0 : Int32), .int (0 : Int32), .int (nI L310.length)])) :: ((bv305, yA g bm306 bf307) :: ((sw g (txt k y).length zz312) ++ t0)))) [sw g (txt k y).length zz312, [(q8, .inr (13, [.ref bv305, .int (0 : Int32), .int (0 : Int32), .int (nI L310.length)]))], [(bv305, yA g bm306 bf307)], t0] [1, 2, 0, 3] rfl rfl rfl ?_
  obtain ⟨L319, eL320⟩ : ∃ L9 : List Int32, L9 = L310 ++ txt k y := ⟨_, rfl⟩
  have bn318 : L319.length ≤ 758 := by rw [eL320]; exact lnA (L := L310) (L2 := txt k y) (n := 381) (n2 := 377) bn309 (ly)
  refine k_V (x := 4) (y := 8868) (rest := []) 0 dX11_text_314 kv_X11_113 (cj_apX (L2 := txt k y) (z := zz312) hz313 eL320 bh308 (Nat.le_trans bn318 (by decide))) rfl rfl rfl rfl (Nat.le_of_ble_eq_true rfl) (by first | exact hd3 | exact hd6 | exact hd7) (by decide) ?_
  rintro ⟨bv314, bm315, bf316⟩ bh317
  try dsimp only at bh317
  show R g mX11_text (k + 1 + 8) 4 8868 317 [(4, .ref u4), (3, .ref u3), (2, .ref u2), (1, .ref u1), (0, .ref a)] [.ref q8] ((q8, .inr (13, [.ref bv314, .int (0 : Int32), .int (0 : Int32), .int (nI L319.length)])) :: ((bv314, yA g bm315 bf316) :: ((sw g (txt k y).length zz312) ++ t0))) _
  refine r_seg (ws2 := ((q8, .inr (13, [.ref bv314, .int (0 : Int32), .int (0 : Int32), .int (nI L319.length)])) :: ((bv314, yA g bm315 bf316) :: t0))) [[(q8, .inr (13, [.ref bv314, .int (0 : Int32), .int (0 : Int32), .int (nI L319.length)]))], [(bv314, yA g bm315 bf316)], sw g (txt k y).length zz312, t0] [0, 1, 3] rfl rfl rfl ?_
  refine r_ldcS (i := 49) dX11_text_317 rfl ?_
  obtain ⟨L326, eL327⟩ : ∃ L9 : List Int32, L9 = L319 ++ kT 49 := ⟨_, rfl⟩
  have bn325 : L326.length ≤ 759 := by rw [eL327]; exact lnA (L := L319) (L2 := kT 49) (n := 758) (n2 := 1) bn318 (Nat.le_of_eq kl_49)
  refine k_V (x := 3) (y := 4866) (rest := []) 0 dX11_text_319 kv_X11_113 (cj_apK (i := 49) (by decide) eL327 bh317 (Nat.le_trans bn325 (by decide))) rfl rfl rfl rfl (Nat.le_of_ble_eq_true rfl) (by first | exact hd3 | exact hd6 | exact hd7) (by decide) ?_
  rintro ⟨bv321, bm322, bf323⟩ bh324
  try dsimp only at bh324
  show R g mX11_text (k + 1 + 8) 3 4866 322 [(4, .ref u4), (3, .ref u3), (2, .ref u2), (1, .ref u1), (0, .ref a)] [.ref q8] ((q8, .inr (13, [.ref bv321, .int (0 : Int32), .int (0 : Int32), .int (nI L326.length)])) :: ((bv321, yA g bm322 bf323) :: t0)) _
  refine k_V (x := 1) (y := 860) (rest := []) 0 dX11_text_322 kv_X11_120 (cj_strB bh324) rfl rfl rfl rfl (Nat.le_of_ble_eq_true rfl) (by first | exact hd3 | exact hd6 | exact hd7) (by decide) ?_
  rintro ⟨ts328, tb329, tf330⟩ th331
  try dsimp only at th331
  show R g mX11_text (k + 1 + 8) 1 860 325 [(4, .ref u4), (3, .ref u3), (2, .ref u2), (1, .ref u1), (0, .ref a)] [.ref ts328] ((ts328, .inr (12, [.ref tb329, .int (0 : Int32), .int (0 : Int32), .int (0 : Int32)])) :: ((tb329, yA g L326.length tf330) :: ((q8, .inr (13, [.ref bv321, .int (0 : Int32), .int (0 : Int32), .int (nI L326.length)])) :: ((bv321, yA g bm322 bf323) :: t0)))) _
  rw [e0]
  refine r_seg (ws2 := ((ts328, .inr (12, [.ref tb329, .int (0 : Int32), .int (0 : Int32), .int (0 : Int32)])) :: ((tb329, yA g L326.length tf330) :: t))) [[(ts328, .inr (12, [.ref tb329, .int (0 : Int32), .int (0 : Int32), .int (0 : Int32)]))], [(tb329, yA g L326.length tf330)], [(q8, .inr (13, [.ref bv321, .int (0 : Int32), .int (0 : Int32), .int (nI L326.length)]))], [(bv321, yA g bm322 bf323)], [(u4, qA g 7 4 (va_up (va_up (va_up (va_up (fun _ => none) 0 (some (gK g 43))) 1 (some (gK g 44))) 2 (some (gK g 45))) 3 (some (gK g 46))))], [(u3, qA g 7 5 (va_up (va_up (va_up (va_up (va_up (fun _ => none) 0 (some (gK g 38))) 1 (some (gK g 39))) 2 (some (gK g 40))) 3 (some (gK g 41))) 4 (some (gK g 42))))], [(u2, qA g 7 6 (va_up (va_up (va_up (va_up (va_up (va_up (fun _ => none) 0 (some (gK g 32))) 1 (some (gK g 33))) 2 (some (gK g 34))) 3 (some (gK g 35))) 4 (some (gK g 36))) 5 (some (gK g 37))))], [(u1, qA g 7 6 (va_up (va_up (va_up (va_up (va_up (va_up (fun _ => none) 0 (some (gK g iE))) 1 (some (gK g 27))) 2 (some (gK g 28))) 3 (some (gK g 29))) 4 (some (gK g 30))) 5 (some (gK g 31))))], t] [0, 1, 8] rfl rfl rfl ?_
  subst eL327
  subst eL320
  subst eL311
  subst eL304
  subst eL297
  subst eL290
  subst eL281
  refine r_aret dX11_text_325 rfl rfl (Or.inr ⟨_, rfl⟩) ?_
  exact Dq.mk (Sum.inr (ts328, tb329, tf330)) rfl rfl th331
set_option maxRecDepth 20000 in
set_option maxHeartbeats 8000000 in
theorem tx_11 {g : GG} {ne nt k a n o u1 u2 u3 u4 : Nat} {t t0 : va_W} {x y : TT k} (IH : TextH g ne nt k) (e0 : t0 = ((u4, qA g 7 4 (va_up (va_up (va_up (va_up (fun _ => none) 0 (some (gK g 43))) 1 (some (gK g 44))) 2 (some (gK g 45))) 3 (some (gK g 46)))) :: ((u3, qA g 7 5 (va_up (va_up (va_up (va_up (va_up (fun _ => none) 0 (some (gK g 38))) 1 (some (gK g 39))) 2 (some (gK g 40))) 3 (some (gK g 41))) 4 (some (gK g 42)))) :: ((u2, qA g 7 6 (va_up (va_up (va_up (va_up (va_up (va_up (fun _ => none) 0 (some (gK g 32))) 1 (some (gK g 33))) 2 (some (gK g 34))) 3 (some (gK g 35))) 4 (some (gK g 36))) 5 (some (gK g 37)))) :: ((u1, qA g 7 6 (va_up (va_up (va_up (va_up (va_up (va_up (fun _ => none) 0 (some (gK g iE))) 1 (some (gK g 27))) 2 (some (gK g 28))) 3 (some (gK g 29))) 4 (some (gK g 30))) 5 (some (gK g 31)))) :: t))))) (hk5 : k ≤ 5) (hn : nt ≤ 10) (hne : ne ≤ 10) (ho : (a, .inr (11, [.int (11 : Int32), .int (nI n), .int (nI o), .ref (tA k x), .ref (tA k y)])) ∈ t) (hmx : TM g t k x) (hx : TE ne nt k x ∨ TB ne nt k x) (hmy : TM g t k y) (hy : TE ne nt k y ∨ TB ne nt k y) : R g mX11_text (k + 1 + 8) ((16 * 2 ^ k - 16) + (16 * 2 ^ k - 16) + 12) ((33000 * 2 ^ k - 33000) + (33000 * 2 ^ k - 33000) + 32900) 128 [(4, .ref u4), (3, .ref u3), (2, .ref u2), (1, .ref u1), (0, .ref a)] [] t0 (Dq (fun (z : SZ) => some (sv g z)) (fun z => sw g (((((([] : List Int32) ++ kT 36) ++ (txt k x)) ++ kT 51) ++ (txt k y)) ++ kT 49).length z ++ t) (fun z => sP (((((([] : List Int32) ++ kT 36) ++ (txt k x)) ++ kT 51) ++ (txt k y)) ++ kT 49) z)) := by
  have hd3 : 3 + 1 ≤ k + 1 + 8 := by omega
  have hd6 : 6 + 1 ≤ k + 1 + 8 := by omega
  have hd7 : 7 + 1 ≤ k + 1 + 8 := by omega
  have hp5 : 2 ^ k ≤ 32 := Nat.le_trans (Nat.pow_le_pow_right (by decide) hk5) (by decide)
  have hlk : 12 * 2 ^ k - 7 ≤ 377 := by omega
  have lx := Nat.le_trans (txt_len hne hn k x hx) hlk
  have ly := Nat.le_trans (txt_len hne hn k y hy) hlk
  have m0 : (u4, qA g 7 4 (va_up (va_up (va_up (va_up (fun _ => none) 0 (some (gK g 43))) 1 (some (gK g 44))) 2 (some (gK g 45))) 3 (some (gK g 46)))) ∈ t0 := by rw [e0]; exact List.mem_cons_self
  have m1 : (u3, qA g 7 5 (va_up (va_up (va_up (va_up (va_up (fun _ => none) 0 (some (gK g 38))) 1 (some (gK g 39))) 2 (some (gK g 40))) 3 (some (gK g 41))) 4 (some (gK g 42)))) ∈ t0 := by rw [e0]; exact (List.mem_cons_of_mem _ List.mem_cons_self)
  have m2 : (u2, qA g 7 6 (va_up (va_up (va_up (va_up (va_up (va_up (fun _ => none) 0 (some (gK g 32))) 1 (some (gK g 33))) 2 (some (gK g 34))) 3 (some (gK g 35))) 4 (some (gK g 36))) 5 (some (gK g 37)))) ∈ t0 := by rw [e0]; exact (List.mem_cons_of_mem _ (List.mem_cons_of_mem _ List.mem_cons_self))
  have m3 : (u1, qA g 7 6 (va_up (va_up (va_up (va_up (va_up (va_up (fun _ => none) 0 (some (gK g iE))) 1 (some (gK g 27))) 2 (some (gK g 28))) 3 (some (gK g 29))) 4 (some (gK g 30))) 5 (some (gK g 31)))) ∈ t0 := by rw [e0]; exact (List.mem_cons_of_mem _ (List.mem_cons_of_mem _ (List.mem_cons_of_mem _ List.mem_cons_self)))
  have mt : ∀ p ∈ t, p ∈ t0 := fun p hp => by rw [e0]; exact (List.mem_cons_of_mem _ (List.mem_cons_of_mem _ (List.mem_cons_of_mem _ (List.mem_cons_of_mem _ hp))))
  have hoK := mt _ ho
  refine r_aload_n 4 dX11_text_128 rfl ?_
  refine r_getm (v := .int (11 : Int32)) (ci := 11) (fs := [.int (11 : Int32), .int (nI n), .int (nI o), .ref (tA k x), .ref (tA k y)]) dX11_text_129 fl_X11_7 hoK rfl ?_
  refine r_if_ne (tgt := 158) dX11_text_132 (by decide) (fun _ => ?_) (fun hc => absurd hc (by decide))
  refine r_aload_n 4 dX11_text_158 rfl ?_
  refine r_getm (v := .int (11 : Int32)) (ci := 11) (fs := [.int (11 : Int32), .int (nI n), .int (nI o), .ref (tA k x), .ref (tA k y)]) dX11_text_159 fl_X11_7 hoK rfl ?_
  refine r_iconst (v := (4 : Int32)) dX11_text_162 (by decide) ?_
  refine r_icmp_ge (tgt := 173) dX11_text_163 (by decide) (fun _ => ?_) (fun hc => absurd (by decide) hc)
  refine r_aload_n 4 dX11_text_173 rfl ?_
  refine r_getm (v := .int (11 : Int32)) (ci := 11) (fs := [.int (11 : Int32), .int (nI n), .int (nI o), .ref (tA k x), .ref (tA k y)]) dX11_text_174 fl_X11_7 hoK rfl ?_
  refine r_bipush (v := (6 : Int32)) dX11_text_177 (by decide) ?_
  refine r_icmp_ge (tgt := 214) dX11_text_179 (by decide) (fun _ => ?_) (fun hc => absurd (by decide) hc)
  refine r_aload_n 4 dX11_text_214 rfl ?_
  refine r_getm (v := .int (11 : Int32)) (ci := 11) (fs := [.int (11 : Int32), .int (nI n), .int (nI o), .ref (tA k x), .ref (tA k y)]) dX11_text_215 fl_X11_7 hoK rfl ?_
  refine r_bipush (v := (6 : Int32)) dX11_text_218 (by decide) ?_
  refine r_icmp_ne (tgt := 254) dX11_text_220 (by decide) (fun _ => ?_) (fun hc => absurd hc (by decide))
  refine r_aload_n 4 dX11_text_254 rfl ?_
  refine r_getm (v := .int (11 : Int32)) (ci := 11) (fs := [.int (11 : Int32), .int (nI n), .int (nI o), .ref (tA k x), .ref (tA k y)]) dX11_text_255 fl_X11_7 hoK rfl ?_
  refine r_bipush (v := (11 : Int32)) dX11_text_258 (by decide) ?_
  refine r_icmp_ge (tgt := 326) dX11_text_260 (by decide) (fun _ => ?_) (fun hc => absurd (by decide) hc)
  refine r_aload_n 4 dX11_text_326 rfl ?_
  refine r_getm (v := .int (11 : Int32)) (ci := 11) (fs := [.int (11 : Int32), .int (nI n), .int (nI o), .ref (tA k x), .ref (tA k y)]) dX11_text_327 fl_X11_7 hoK rfl ?_
  refine r_bipush (v := (13 : Int32)) dX11_text_330 (by decide) ?_
  refine r_icmp_ge (tgt := 388) dX11_text_332 (by decide) (fun hc => absurd hc (by decide)) (fun _ => ?_)
  refine r_new (N := 4) (x := ((16 * 2 ^ k - 16) + (16 * 2 ^ k - 16) + 11)) (y := ((33000 * 2 ^ k - 33000) + (33000 * 2 ^ k - 33000) + 32896)) dX11_text_335 nl_X11_110 (fun q9 => ?_)
  refine r_dup dX11_text_338 rfl ?_
  refine r_room (x2 := ((16 * 2 ^ k - 16) + (16 * 2 ^ k - 16) + 10) + 1) (y2 := ((33000 * 2 ^ k - 33000) + (33000 * 2 ^ k - 33000) + 32880) + 16) (rq rfl) (rq rfl) ?_
  refine k_I (x := ((16 * 2 ^ k - 16) + (16 * 2 ^ k - 16) + 10)) (y := ((33000 * 2 ^ k - 33000) + (33000 * 2 ^ k - 33000) + 32880)) (rest := [.ref q9]) dX11_text_339 ki_X11_112 (cj_sb) rfl rfl (Nat.le_of_ble_eq_true rfl) (by first | exact hd3 | exact hd6 | exact hd7) (by decide) ?_
  rintro bv332 -
  show R g mX11_text (k + 1 + 8) ((16 * 2 ^ k - 16) + (16 * 2 ^ k - 16) + 10) ((33000 * 2 ^ k - 33000) + (33000 * 2 ^ k - 33000) + 32880) 342 [(4, .ref u4), (3, .ref u3), (2, .ref u2), (1, .ref u1), (0, .ref a)] [.ref q9] ((q9, .inr (13, [.ref bv332, .int (0 : Int32), .int (0 : Int32), .int (nI ([] : List Int32).length)])) :: ((bv332, yA g 16 (fun _ => 0)) :: t0)) _
  refine r_aload_n 2 dX11_text_342 rfl ?_
  refine r_aload_n 4 dX11_text_343 rfl ?_
  refine r_getm (v := .int (11 : Int32)) (ci := 11) (fs := [.int (11 : Int32), .int (nI n), .int (nI o), .ref (tA k x), .ref (tA k y)]) dX11_text_344 fl_X11_7 (List.mem_cons_of_mem _ (List.mem_cons_of_mem _ hoK)) rfl ?_
  refine r_bipush (v := (7 : Int32)) dX11_text_347 (by decide) ?_
  refine r_isub dX11_text_349 ?_
  refine r_aaldm (t := 7) (n := 6) (f := (va_up (va_up (va_up (va_up (va_up (va_up (fun _ => none) 0 (some (gK g 32))) 1 (some (gK g 33))) 2 (some (gK g 34))) 3 (some (gK g 35))) 4 (some (gK g 36))) 5 (some (gK g 37)))) (v := .ref (gK g 36)) dX11_text_350 rfl rfl (List.mem_cons_of_mem _ (List.mem_cons_of_mem _ m2)) (by decide) (by rfl) ?_
  obtain ⟨L338, eL339⟩ : ∃ L9 : List Int32, L9 = ([] : List Int32) ++ kT 36 := ⟨_, rfl⟩
  have bn337 : L338.length ≤ 4 := by rw [eL339]; exact lnA (L := ([] : List Int32)) (L2 := kT 36) (n := 0) (n2 := 4) (Nat.le_refl 0) (Nat.le_of_eq kl_36)
  refine r_room (x2 := ((16 * 2 ^ k - 16) + (16 * 2 ^ k - 16) + 9) + 1) (y2 := ((33000 * 2 ^ k - 33000) + (33000 * 2 ^ k - 33000) + 28878) + 4002) (rq rfl) (rq rfl) ?_
  refine k_V (x := ((16 * 2 ^ k - 16) + (16 * 2 ^ k - 16) + 9)) (y := ((33000 * 2 ^ k - 33000) + (33000 * 2 ^ k - 33000) + 28878)) (rest := []) 0 dX11_text_351 kv_X11_113 (cj_apK (i := 36) (by decide) eL339 BL.nil (Nat.le_trans bn337 (by decide))) rfl rfl rfl rfl (Nat.le_of_ble_eq_true rfl) (by first | exact hd3 | exact hd6 | exact hd7) (by decide) ?_
  rintro ⟨bv333, bm334, bf335⟩ bh336
  try dsimp only at bh336
  show R g mX11_text (k + 1 + 8) ((16 * 2 ^ k - 16) + (16 * 2 ^ k - 16) + 9) ((33000 * 2 ^ k - 33000) + (33000 * 2 ^ k - 33000) + 28878) 354 [(4, .ref u4), (3, .ref u3), (2, .ref u2), (1, .ref u1), (0, .ref a)] [.ref q9] ((q9, .inr (13, [.ref bv333, .int (0 : Int32), .int (0 : Int32), .int (nI L338.length)])) :: ((bv333, yA g bm334 bf335) :: t0)) _
  refine r_aload_n 4 dX11_text_354 rfl ?_
  refine r_getm (v := .ref (tA k x)) (ci := 11) (fs := [.int (11 : Int32), .int (nI n), .int (nI o), .ref (tA k x), .ref (tA k y)]) dX11_text_355 fl_X11_40 (List.mem_cons_of_mem _ (List.mem_cons_of_mem _ hoK)) rfl ?_
  obtain ⟨fszz340, hfzz340⟩ := TM.cell k x hmx
  refine r_room (x2 := ((16 * 2 ^ k - 16) + 9) + (16 * 2 ^ k - 16)) (y2 := ((33000 * 2 ^ k - 33000) + 28878) + (33000 * 2 ^ k - 33000)) (Nat.le_of_eq (Nat.add_right_comm _ _ _)) (Nat.le_of_eq (Nat.add_right_comm _ _ _)) ?_
  refine k_Vm (x := ((16 * 2 ^ k - 16) + 9)) (y := ((33000 * 2 ^ k - 33000) + 28878)) (rest := [.ref q9]) dX11_text_358 kv_X11_128 (IH x _ (TM.mono (fun p hp => (List.mem_cons_of_mem _ (List.mem_cons_of_mem _ (mt p hp)))) k x hmx) hx) rfl rfl (List.mem_cons_of_mem _ (List.mem_cons_of_mem _ (mt _ hfzz340))) rfl (Nat.le_of_ble_eq_true rfl) (Nat.le_of_eq (Nat.add_right_comm _ _ _)) (by decide) ?_
  rintro zz340 hz341
  refine r_seg (ws2 := ((q9, .inr (13, [.ref bv333, .int (0 : Int32), .int (0 : Int32), .int (nI L338.length)])) :: ((bv333, yA g bm334 bf335) :: ((sw g (txt k x).length zz340) ++ t0)))) [sw g (txt k x).length zz340, [(q9, .inr (13, [.ref bv333, .int (0 : Int32), .int (0 : Int32), .int (nI L338.length)]))], [(bv333, yA g bm334 bf335)], t0] [1, 2, 0, 3] rfl rfl rfl ?_
  obtain ⟨L347, eL348⟩ : ∃ L9 : List Int32, L9 = L338 ++ txt k x := ⟨_, rfl⟩
  have bn346 : L347.length ≤ 381 := by rw [eL348]; exact lnA (L := L338) (L2 := txt k x) (n := 4) (n2 := 377) bn337 (lx)
  refine r_room (x2 := ((16 * 2 ^ k - 16) + 8) + 1) (y2 := ((33000 * 2 ^ k - 33000) + 24876) + 4002) (rq rfl) (rq rfl) ?_
  refine k_V (x := ((16 * 2 ^ k - 16) + 8)) (y := ((33000 * 2 ^ k - 33000) + 24876)) (rest := []) 0 dX11_text_361 kv_X11_113 (cj_apX (L2 := txt k x) (z := zz340) hz341 eL348 bh336 (Nat.le_trans bn346 (by decide))) rfl rfl rfl rfl (Nat.le_of_ble_eq_true rfl) (by first | exact hd3 | exact hd6 | exact hd7) (by decide) ?_
  rintro ⟨bv342, bm343, bf344⟩ bh345
  try dsimp only at bh345
  show R g mX11_text (k + 1 + 8) ((16 * 2 ^ k - 16) + 8) ((33000 * 2 ^ k - 33000) + 24876) 364 [(4, .ref u4), (3, .ref u3), (2, .ref u2), (1, .ref u1), (0, .ref a)] [.ref q9] ((q9, .inr (13, [.ref bv342, .int (0 : Int32), .int (0 : Int32), .int (nI L347.length)])) :: ((bv342, yA g bm343 bf344) :: ((sw g (txt k x).length zz340) ++ t0))) _
  refine r_seg (ws2 := ((q9, .inr (13, [.ref bv342, .int (0 : Int32), .int (0 : Int32), .int (nI L347.length)])) :: ((bv342, yA g bm343 bf344) :: t0))) [[(q9, .inr (13, [.ref bv342, .int (0 : Int32), .int (0 : Int32), .int (nI L347.length)]))], [(bv342, yA g bm343 bf344)], sw g (txt k x).length zz340, t0] [0, 1, 3] rfl rfl rfl ?_
  refine r_ldcS (i := 51) dX11_text_364 rfl ?_
  obtain ⟨L354, eL355⟩ : ∃ L9 : List Int32, L9 = L347 ++ kT 51 := ⟨_, rfl⟩
  have bn353 : L354.length ≤ 382 := by rw [eL355]; exact lnA (L := L347) (L2 := kT 51) (n := 381) (n2 := 1) bn346 (Nat.le_of_eq kl_51)
  refine r_room (x2 := ((16 * 2 ^ k - 16) + 7) + 1) (y2 := ((33000 * 2 ^ k - 33000) + 20874) + 4002) (rq rfl) (rq rfl) ?_
  refine k_V (x := ((16 * 2 ^ k - 16) + 7)) (y := ((33000 * 2 ^ k - 33000) + 20874)) (rest := []) 0 dX11_text_366 kv_X11_113 (cj_apK (i := 51) (by decide) eL355 bh345 (Nat.le_trans bn353 (by decide))) rfl rfl rfl rfl (Nat.le_of_ble_eq_true rfl) (by first | exact hd3 | exact hd6 | exact hd7) (by decide) ?_
  rintro ⟨bv349, bm350, bf351⟩ bh352
  try dsimp only at bh352
  show R g mX11_text (k + 1 + 8) ((16 * 2 ^ k - 16) + 7) ((33000 * 2 ^ k - 33000) + 20874) 369 [(4, .ref u4), (3, .ref u3), (2, .ref u2), (1, .ref u1), (0, .ref a)] [.ref q9] ((q9, .inr (13, [.ref bv349, .int (0 : Int32), .int (0 : Int32), .int (nI L354.length)])) :: ((bv349, yA g bm350 bf351) :: t0)) _
  refine r_aload_n 4 dX11_text_369 rfl ?_
  refine r_getm (v := .ref (tA k y)) (ci := 11) (fs := [.int (11 : Int32), .int (nI n), .int (nI o), .ref (tA k x), .ref (tA k y)]) dX11_text_370 fl_X11_59 (List.mem_cons_of_mem _ (List.mem_cons_of_mem _ hoK)) rfl ?_
  obtain ⟨fszz356, hfzz356⟩ := TM.cell k y hmy
  refine r_room (x2 := 7 + (16 * 2 ^ k - 16)) (y2 := 20874 + (33000 * 2 ^ k - 33000)) (Nat.le_of_eq (Nat.add_comm _ _)) (Nat.le_of_eq (Nat.add_comm _ _)) ?_
  refine k_Vm (x := 7) (y := 20874) (rest := [.ref q9]) dX11_text_373 kv_X11_128 (IH y _ (TM.mono (fun p hp => (List.mem_cons_of_mem _ (List.mem_cons_of_mem _ (mt p hp)))) k y hmy) hy) rfl rfl (List.mem_cons_of_mem _ (List.mem_cons_of_mem _ (mt _ hfzz356))) rfl (Nat.le_of_ble_eq_true rfl) (Nat.le_of_eq (Nat.add_right_comm _ _ _)) (by decide) ?_
  rintro zz356 hz357
  refine r_seg (ws2 := ((q9, .inr (13, [.ref bv349, .int (0 : Int32), .int (0 : Int32), .int (nI L354.length)])) :: ((bv349, yA g bm350 bf351) :: ((sw g (txt k y).length zz356) ++ t0)))) [sw g (txt k y).length zz356, [(q9, .inr (13, [.ref bv349, .int (0 : Int32), .int (0 : Int32), .int (nI L354.length)]))], [(bv349, yA g bm350 bf351)], t0] [1, 2, 0, 3] rfl rfl rfl ?_
  obtain ⟨L363, eL364⟩ : ∃ L9 : List Int32, L9 = L354 ++ txt k y := ⟨_, rfl⟩
  have bn362 : L363.length ≤ 759 := by rw [eL364]; exact lnA (L := L354) (L2 := txt k y) (n := 382) (n2 := 377) bn353 (ly)
  refine k_V (x := 6) (y := 16872) (rest := []) 0 dX11_text_376 kv_X11_113 (cj_apX (L2 := txt k y) (z := zz356) hz357 eL364 bh352 (Nat.le_trans bn362 (by decide))) rfl rfl rfl rfl (Nat.le_of_ble_eq_true rfl) (by first | exact hd3 | exact hd6 | exact hd7) (by decide) ?_
  rintro ⟨bv358, bm359, bf360⟩ bh361
  try dsimp only at bh361
  show R g mX11_text (k + 1 + 8) 6 16872 379 [(4, .ref u4), (3, .ref u3), (2, .ref u2), (1, .ref u1), (0, .ref a)] [.ref q9] ((q9, .inr (13, [.ref bv358, .int (0 : Int32), .int (0 : Int32), .int (nI L363.length)])) :: ((bv358, yA g bm359 bf360) :: ((sw g (txt k y).length zz356) ++ t0))) _
  refine r_seg (ws2 := ((q9, .inr (13, [.ref bv358, .int (0 : Int32), .int (0 : Int32), .int (nI L363.length)])) :: ((bv358, yA g bm359 bf360) :: t0))) [[(q9, .inr (13, [.ref bv358, .int (0 : Int32), .int (0 : Int32), .int (nI L363.length)]))], [(bv358, yA g bm359 bf360)], sw g (txt k y).length zz356, t0] [0, 1, 3] rfl rfl rfl ?_
  refine r_ldcS (i := 49) dX11_text_379 rfl ?_
  obtain ⟨L370, eL371⟩ : ∃ L9 : List Int32, L9 = L363 ++ kT 49 := ⟨_, rfl⟩
  have bn369 : L370.length ≤ 760 := by rw [eL371]; exact lnA (L := L363) (L2 := kT 49) (n := 759) (n2 := 1) bn362 (Nat.le_of_eq kl_49)
  refine k_V (x := 5) (y := 12870) (rest := []) 0 dX11_text_381 kv_X11_113 (cj_apK (i := 49) (by decide) eL371 bh361 (Nat.le_trans bn369 (by decide))) rfl rfl rfl rfl (Nat.le_of_ble_eq_true rfl) (by first | exact hd3 | exact hd6 | exact hd7) (by decide) ?_
  rintro ⟨bv365, bm366, bf367⟩ bh368
  try dsimp only at bh368
  show R g mX11_text (k + 1 + 8) 5 12870 384 [(4, .ref u4), (3, .ref u3), (2, .ref u2), (1, .ref u1), (0, .ref a)] [.ref q9] ((q9, .inr (13, [.ref bv365, .int (0 : Int32), .int (0 : Int32), .int (nI L370.length)])) :: ((bv365, yA g bm366 bf367) :: t0)) _
  refine k_V (x := 3) (y := 8864) (rest := []) 0 dX11_text_384 kv_X11_120 (cj_strB bh368) rfl rfl rfl rfl (Nat.le_of_ble_eq_true rfl) (by first | exact hd3 | exact hd6 | exact hd7) (by decide) ?_
  rintro ⟨ts372, tb373, tf374⟩ th375
  try dsimp only at th375
  show R g mX11_text (k + 1 + 8) 3 8864 387 [(4, .ref u4), (3, .ref u3), (2, .ref u2), (1, .ref u1), (0, .ref a)] [.ref ts372] ((ts372, .inr (12, [.ref tb373, .int (0 : Int32), .int (0 : Int32), .int (0 : Int32)])) :: ((tb373, yA g L370.length tf374) :: ((q9, .inr (13, [.ref bv365, .int (0 : Int32), .int (0 : Int32), .int (nI L370.length)])) :: ((bv365, yA g bm366 bf367) :: t0)))) _
  rw [e0]
  refine r_seg (ws2 := ((ts372, .inr (12, [.ref tb373, .int (0 : Int32), .int (0 : Int32), .int (0 : Int32)])) :: ((tb373, yA g L370.length tf374) :: t))) [[(ts372, .inr (12, [.ref tb373, .int (0 : Int32), .int (0 : Int32), .int (0 : Int32)]))], [(tb373, yA g L370.length tf374)], [(q9, .inr (13, [.ref bv365, .int (0 : Int32), .int (0 : Int32), .int (nI L370.length)]))], [(bv365, yA g bm366 bf367)], [(u4, qA g 7 4 (va_up (va_up (va_up (va_up (fun _ => none) 0 (some (gK g 43))) 1 (some (gK g 44))) 2 (some (gK g 45))) 3 (some (gK g 46))))], [(u3, qA g 7 5 (va_up (va_up (va_up (va_up (va_up (fun _ => none) 0 (some (gK g 38))) 1 (some (gK g 39))) 2 (some (gK g 40))) 3 (some (gK g 41))) 4 (some (gK g 42))))], [(u2, qA g 7 6 (va_up (va_up (va_up (va_up (va_up (va_up (fun _ => none) 0 (some (gK g 32))) 1 (some (gK g 33))) 2 (some (gK g 34))) 3 (some (gK g 35))) 4 (some (gK g 36))) 5 (some (gK g 37))))], [(u1, qA g 7 6 (va_up (va_up (va_up (va_up (va_up (va_up (fun _ => none) 0 (some (gK g iE))) 1 (some (gK g 27))) 2 (some (gK g 28))) 3 (some (gK g 29))) 4 (some (gK g 30))) 5 (some (gK g 31))))], t] [0, 1, 8] rfl rfl rfl ?_
  subst eL371
  subst eL364
  subst eL355
  subst eL348
  subst eL339
  refine r_aret dX11_text_387 rfl rfl (Or.inr ⟨_, rfl⟩) ?_
  exact Dq.mk (Sum.inr (ts372, tb373, tf374)) rfl rfl th375
set_option maxRecDepth 20000 in
set_option maxHeartbeats 8000000 in
theorem tx_12 {g : GG} {ne nt k a n o u1 u2 u3 u4 : Nat} {t t0 : va_W} {x y : TT k} (IH : TextH g ne nt k) (e0 : t0 = ((u4, qA g 7 4 (va_up (va_up (va_up (va_up (fun _ => none) 0 (some (gK g 43))) 1 (some (gK g 44))) 2 (some (gK g 45))) 3 (some (gK g 46)))) :: ((u3, qA g 7 5 (va_up (va_up (va_up (va_up (va_up (fun _ => none) 0 (some (gK g 38))) 1 (some (gK g 39))) 2 (some (gK g 40))) 3 (some (gK g 41))) 4 (some (gK g 42)))) :: ((u2, qA g 7 6 (va_up (va_up (va_up (va_up (va_up (va_up (fun _ => none) 0 (some (gK g 32))) 1 (some (gK g 33))) 2 (some (gK g 34))) 3 (some (gK g 35))) 4 (some (gK g 36))) 5 (some (gK g 37)))) :: ((u1, qA g 7 6 (va_up (va_up (va_up (va_up (va_up (va_up (fun _ => none) 0 (some (gK g iE))) 1 (some (gK g 27))) 2 (some (gK g 28))) 3 (some (gK g 29))) 4 (some (gK g 30))) 5 (some (gK g 31)))) :: t))))) (hk5 : k ≤ 5) (hn : nt ≤ 10) (hne : ne ≤ 10) (ho : (a, .inr (11, [.int (12 : Int32), .int (nI n), .int (nI o), .ref (tA k x), .ref (tA k y)])) ∈ t) (hmx : TM g t k x) (hx : TE ne nt k x ∨ TB ne nt k x) (hmy : TM g t k y) (hy : TE ne nt k y ∨ TB ne nt k y) : R g mX11_text (k + 1 + 8) ((16 * 2 ^ k - 16) + (16 * 2 ^ k - 16) + 12) ((33000 * 2 ^ k - 33000) + (33000 * 2 ^ k - 33000) + 32900) 128 [(4, .ref u4), (3, .ref u3), (2, .ref u2), (1, .ref u1), (0, .ref a)] [] t0 (Dq (fun (z : SZ) => some (sv g z)) (fun z => sw g (((((([] : List Int32) ++ kT 37) ++ (txt k x)) ++ kT 51) ++ (txt k y)) ++ kT 49).length z ++ t) (fun z => sP (((((([] : List Int32) ++ kT 37) ++ (txt k x)) ++ kT 51) ++ (txt k y)) ++ kT 49) z)) := by
  have hd3 : 3 + 1 ≤ k + 1 + 8 := by omega
  have hd6 : 6 + 1 ≤ k + 1 + 8 := by omega
  have hd7 : 7 + 1 ≤ k + 1 + 8 := by omega
  have hp5 : 2 ^ k ≤ 32 := Nat.le_trans (Nat.pow_le_pow_right (by decide) hk5) (by decide)
  have hlk : 12 * 2 ^ k - 7 ≤ 377 := by omega
  have lx := Nat.le_trans (txt_len hne hn k x hx) hlk
  have ly := Nat.le_trans (txt_len hne hn k y hy) hlk
  have m0 : (u4, qA g 7 4 (va_up (va_up (va_up (va_up (fun _ => none) 0 (some (gK g 43))) 1 (some (gK g 44))) 2 (some (gK g 45))) 3 (some (gK g 46)))) ∈ t0 := by rw [e0]; exact List.mem_cons_self
  have m1 : (u3, qA g 7 5 (va_up (va_up (va_up (va_up (va_up (fun _ => none) 0 (some (gK g 38))) 1 (some (gK g 39))) 2 (some (gK g 40))) 3 (some (gK g 41))) 4 (some (gK g 42)))) ∈ t0 := by rw [e0]; exact (List.mem_cons_of_mem _ List.mem_cons_self)
  have m2 : (u2, qA g 7 6 (va_up (va_up (va_up (va_up (va_up (va_up (fun _ => none) 0 (some (gK g 32))) 1 (some (gK g 33))) 2 (some (gK g 34))) 3 (some (gK g 35))) 4 (some (gK g 36))) 5 (some (gK g 37)))) ∈ t0 := by rw [e0]; exact (List.mem_cons_of_mem _ (List.mem_cons_of_mem _ List.mem_cons_self))
  have m3 : (u1, qA g 7 6 (va_up (va_up (va_up (va_up (va_up (va_up (fun _ => none) 0 (some (gK g iE))) 1 (some (gK g 27))) 2 (some (gK g 28))) 3 (some (gK g 29))) 4 (some (gK g 30))) 5 (some (gK g 31)))) ∈ t0 := by rw [e0]; exact (List.mem_cons_of_mem _ (List.mem_cons_of_mem _ (List.mem_cons_of_mem _ List.mem_cons_self)))
  have mt : ∀ p ∈ t, p ∈ t0 := fun p hp => by rw [e0]; exact (List.mem_cons_of_mem _ (List.mem_cons_of_mem _ (List.mem_cons_of_mem _ (List.mem_cons_of_mem _ hp))))
  have hoK := mt _ ho
  refine r_aload_n 4 dX11_text_128 rfl ?_
  refine r_getm (v := .int (12 : Int32)) (ci := 11) (fs := [.int (12 : Int32), .int (nI n), .int (nI o), .ref (tA k x), .ref (tA k y)]) dX11_text_129 fl_X11_7 hoK rfl ?_
  refine r_if_ne (tgt := 158) dX11_text_132 (by decide) (fun _ => ?_) (fun hc => absurd hc (by decide))
  refine r_aload_n 4 dX11_text_158 rfl ?_
  refine r_getm (v := .int (12 : Int32)) (ci := 11) (fs := [.int (12 : Int32), .int (nI n), .int (nI o), .ref (tA k x), .ref (tA k y)]) dX11_text_159 fl_X11_7 hoK rfl ?_
  refine r_iconst (v := (4 : Int32)) dX11_text_162 (by decide) ?_
  refine r_icmp_ge (tgt := 173) dX11_text_163 (by decide) (fun _ => ?_) (fun hc => absurd (by decide) hc)
  refine r_aload_n 4 dX11_text_173 rfl ?_
  refine r_getm (v := .int (12 : Int32)) (ci := 11) (fs := [.int (12 : Int32), .int (nI n), .int (nI o), .ref (tA k x), .ref (tA k y)]) dX11_text_174 fl_X11_7 hoK rfl ?_
  refine r_bipush (v := (6 : Int32)) dX11_text_177 (by decide) ?_
  refine r_icmp_ge (tgt := 214) dX11_text_179 (by decide) (fun _ => ?_) (fun hc => absurd (by decide) hc)
  refine r_aload_n 4 dX11_text_214 rfl ?_
  refine r_getm (v := .int (12 : Int32)) (ci := 11) (fs := [.int (12 : Int32), .int (nI n), .int (nI o), .ref (tA k x), .ref (tA k y)]) dX11_text_215 fl_X11_7 hoK rfl ?_
  refine r_bipush (v := (6 : Int32)) dX11_text_218 (by decide) ?_
  refine r_icmp_ne (tgt := 254) dX11_text_220 (by decide) (fun _ => ?_) (fun hc => absurd hc (by decide))
  refine r_aload_n 4 dX11_text_254 rfl ?_
  refine r_getm (v := .int (12 : Int32)) (ci := 11) (fs := [.int (12 : Int32), .int (nI n), .int (nI o), .ref (tA k x), .ref (tA k y)]) dX11_text_255 fl_X11_7 hoK rfl ?_
  refine r_bipush (v := (11 : Int32)) dX11_text_258 (by decide) ?_
  refine r_icmp_ge (tgt := 326) dX11_text_260 (by decide) (fun _ => ?_) (fun hc => absurd (by decide) hc)
  refine r_aload_n 4 dX11_text_326 rfl ?_
  refine r_getm (v := .int (12 : Int32)) (ci := 11) (fs := [.int (12 : Int32), .int (nI n), .int (nI o), .ref (tA k x), .ref (tA k y)]) dX11_text_327 fl_X11_7 hoK rfl ?_
  refine r_bipush (v := (13 : Int32)) dX11_text_330 (by decide) ?_
  refine r_icmp_ge (tgt := 388) dX11_text_332 (by decide) (fun hc => absurd hc (by decide)) (fun _ => ?_)
  refine r_new (N := 4) (x := ((16 * 2 ^ k - 16) + (16 * 2 ^ k - 16) + 11)) (y := ((33000 * 2 ^ k - 33000) + (33000 * 2 ^ k - 33000) + 32896)) dX11_text_335 nl_X11_110 (fun q10 => ?_)
  refine r_dup dX11_text_338 rfl ?_
  refine r_room (x2 := ((16 * 2 ^ k - 16) + (16 * 2 ^ k - 16) + 10) + 1) (y2 := ((33000 * 2 ^ k - 33000) + (33000 * 2 ^ k - 33000) + 32880) + 16) (rq rfl) (rq rfl) ?_
  refine k_I (x := ((16 * 2 ^ k - 16) + (16 * 2 ^ k - 16) + 10)) (y := ((33000 * 2 ^ k - 33000) + (33000 * 2 ^ k - 33000) + 32880)) (rest := [.ref q10]) dX11_text_339 ki_X11_112 (cj_sb) rfl rfl (Nat.le_of_ble_eq_true rfl) (by first | exact hd3 | exact hd6 | exact hd7) (by decide) ?_
  rintro bv376 -
  show R g mX11_text (k + 1 + 8) ((16 * 2 ^ k - 16) + (16 * 2 ^ k - 16) + 10) ((33000 * 2 ^ k - 33000) + (33000 * 2 ^ k - 33000) + 32880) 342 [(4, .ref u4), (3, .ref u3), (2, .ref u2), (1, .ref u1), (0, .ref a)] [.ref q10] ((q10, .inr (13, [.ref bv376, .int (0 : Int32), .int (0 : Int32), .int (nI ([] : List Int32).length)])) :: ((bv376, yA g 16 (fun _ => 0)) :: t0)) _
  refine r_aload_n 2 dX11_text_342 rfl ?_
  refine r_aload_n 4 dX11_text_343 rfl ?_
  refine r_getm (v := .int (12 : Int32)) (ci := 11) (fs := [.int (12 : Int32), .int (nI n), .int (nI o), .ref (tA k x), .ref (tA k y)]) dX11_text_344 fl_X11_7 (List.mem_cons_of_mem _ (List.mem_cons_of_mem _ hoK)) rfl ?_
  refine r_bipush (v := (7 : Int32)) dX11_text_347 (by decide) ?_
  refine r_isub dX11_text_349 ?_
  refine r_aaldm (t := 7) (n := 6) (f := (va_up (va_up (va_up (va_up (va_up (va_up (fun _ => none) 0 (some (gK g 32))) 1 (some (gK g 33))) 2 (some (gK g 34))) 3 (some (gK g 35))) 4 (some (gK g 36))) 5 (some (gK g 37)))) (v := .ref (gK g 37)) dX11_text_350 rfl rfl (List.mem_cons_of_mem _ (List.mem_cons_of_mem _ m2)) (by decide) (by rfl) ?_
  obtain ⟨L382, eL383⟩ : ∃ L9 : List Int32, L9 = ([] : List Int32) ++ kT 37 := ⟨_, rfl⟩
  have bn381 : L382.length ≤ 4 := by rw [eL383]; exact lnA (L := ([] : List Int32)) (L2 := kT 37) (n := 0) (n2 := 4) (Nat.le_refl 0) (Nat.le_of_eq kl_37)
  refine r_room (x2 := ((16 * 2 ^ k - 16) + (16 * 2 ^ k - 16) + 9) + 1) (y2 := ((33000 * 2 ^ k - 33000) + (33000 * 2 ^ k - 33000) + 28878) + 4002) (rq rfl) (rq rfl) ?_
  refine k_V (x := ((16 * 2 ^ k - 16) + (16 * 2 ^ k - 16) + 9)) (y := ((33000 * 2 ^ k - 33000) + (33000 * 2 ^ k - 33000) + 28878)) (rest := []) 0 dX11_text_351 kv_X11_113 (cj_apK (i := 37) (by decide) eL383 BL.nil (Nat.le_trans bn381 (by decide))) rfl rfl rfl rfl (Nat.le_of_ble_eq_true rfl) (by first | exact hd3 | exact hd6 | exact hd7) (by decide) ?_
  rintro ⟨bv377, bm378, bf379⟩ bh380
  try dsimp only at bh380
  show R g mX11_text (k + 1 + 8) ((16 * 2 ^ k - 16) + (16 * 2 ^ k - 16) + 9) ((33000 * 2 ^ k - 33000) + (33000 * 2 ^ k - 33000) + 28878) 354 [(4, .ref u4), (3, .ref u3), (2, .ref u2), (1, .ref u1), (0, .ref a)] [.ref q10] ((q10, .inr (13, [.ref bv377, .int (0 : Int32), .int (0 : Int32), .int (nI L382.length)])) :: ((bv377, yA g bm378 bf379) :: t0)) _
  refine r_aload_n 4 dX11_text_354 rfl ?_
  refine r_getm (v := .ref (tA k x)) (ci := 11) (fs := [.int (12 : Int32), .int (nI n), .int (nI o), .ref (tA k x), .ref (tA k y)]) dX11_text_355 fl_X11_40 (List.mem_cons_of_mem _ (List.mem_cons_of_mem _ hoK)) rfl ?_
  obtain ⟨fszz384, hfzz384⟩ := TM.cell k x hmx
  refine r_room (x2 := ((16 * 2 ^ k - 16) + 9) + (16 * 2 ^ k - 16)) (y2 := ((33000 * 2 ^ k - 33000) + 28878) + (33000 * 2 ^ k - 33000)) (Nat.le_of_eq (Nat.add_right_comm _ _ _)) (Nat.le_of_eq (Nat.add_right_comm _ _ _)) ?_
  refine k_Vm (x := ((16 * 2 ^ k - 16) + 9)) (y := ((33000 * 2 ^ k - 33000) + 28878)) (rest := [.ref q10]) dX11_text_358 kv_X11_128 (IH x _ (TM.mono (fun p hp => (List.mem_cons_of_mem _ (List.mem_cons_of_mem _ (mt p hp)))) k x hmx) hx) rfl rfl (List.mem_cons_of_mem _ (List.mem_cons_of_mem _ (mt _ hfzz384))) rfl (Nat.le_of_ble_eq_true rfl) (Nat.le_of_eq (Nat.add_right_comm _ _ _)) (by decide) ?_
  rintro zz384 hz385
  refine r_seg (ws2 := ((q10, .inr (13, [.ref bv377, .int (0 : Int32), .int (0 : Int32), .int (nI L382.length)])) :: ((bv377, yA g bm378 bf379) :: ((sw g (txt k x).length zz384) ++ t0)))) [sw g (txt k x).length zz384, [(q10, .inr (13, [.ref bv377, .int (0 : Int32), .int (0 : Int32), .int (nI L382.length)]))], [(bv377, yA g bm378 bf379)], t0] [1, 2, 0, 3] rfl rfl rfl ?_
  obtain ⟨L391, eL392⟩ : ∃ L9 : List Int32, L9 = L382 ++ txt k x := ⟨_, rfl⟩
  have bn390 : L391.length ≤ 381 := by rw [eL392]; exact lnA (L := L382) (L2 := txt k x) (n := 4) (n2 := 377) bn381 (lx)
  refine r_room (x2 := ((16 * 2 ^ k - 16) + 8) + 1) (y2 := ((33000 * 2 ^ k - 33000) + 24876) + 4002) (rq rfl) (rq rfl) ?_
  refine k_V (x := ((16 * 2 ^ k - 16) + 8)) (y := ((33000 * 2 ^ k - 33000) + 24876)) (rest := []) 0 dX11_text_361 kv_X11_113 (cj_apX (L2 := txt k x) (z := zz384) hz385 eL392 bh380 (Nat.le_trans bn390 (by decide))) rfl rfl rfl rfl (Nat.le_of_ble_eq_true rfl) (by first | exact hd3 | exact hd6 | exact hd7) (by decide) ?_
  rintro ⟨bv386, bm387, bf388⟩ bh389
  try dsimp only at bh389
  show R g mX11_text (k + 1 + 8) ((16 * 2 ^ k - 16) + 8) ((33000 * 2 ^ k - 33000) + 24876) 364 [(4, .ref u4), (3, .ref u3), (2, .ref u2), (1, .ref u1), (0, .ref a)] [.ref q10] ((q10, .inr (13, [.ref bv386, .int (0 : Int32), .int (0 : Int32), .int (nI L391.length)])) :: ((bv386, yA g bm387 bf388) :: ((sw g (txt k x).length zz384) ++ t0))) _
  refine r_seg (ws2 := ((q10, .inr (13, [.ref bv386, .int (0 : Int32), .int (0 : Int32), .int (nI L391.length)])) :: ((bv386, yA g bm387 bf388) :: t0))) [[(q10, .inr (13, [.ref bv386, .int (0 : Int32), .int (0 : Int32), .int (nI L391.length)]))], [(bv386, yA g bm387 bf388)], sw g (txt k x).length zz384, t0] [0, 1, 3] rfl rfl rfl ?_
  refine r_ldcS (i := 51) dX11_text_364 rfl ?_
  obtain ⟨L398, eL399⟩ : ∃ L9 : List Int32, L9 = L391 ++ kT 51 := ⟨_, rfl⟩
  have bn397 : L398.length ≤ 382 := by rw [eL399]; exact lnA (L := L391) (L2 := kT 51) (n := 381) (n2 := 1) bn390 (Nat.le_of_eq kl_51)
  refine r_room (x2 := ((16 * 2 ^ k - 16) + 7) + 1) (y2 := ((33000 * 2 ^ k - 33000) + 20874) + 4002) (rq rfl) (rq rfl) ?_
  refine k_V (x := ((16 * 2 ^ k - 16) + 7)) (y := ((33000 * 2 ^ k - 33000) + 20874)) (rest := []) 0 dX11_text_366 kv_X11_113 (cj_apK (i := 51) (by decide) eL399 bh389 (Nat.le_trans bn397 (by decide))) rfl rfl rfl rfl (Nat.le_of_ble_eq_true rfl) (by first | exact hd3 | exact hd6 | exact hd7) (by decide) ?_
  rintro ⟨bv393, bm394, bf395⟩ bh396
  try dsimp only at bh396
  show R g mX11_text (k + 1 + 8) ((16 * 2 ^ k - 16) + 7) ((33000 * 2 ^ k - 33000) + 20874) 369 [(4, .ref u4), (3, .ref u3), (2, .ref u2), (1, .ref u1), (0, .ref a)] [.ref q10] ((q10, .inr (13, [.ref bv393, .int (0 : Int32), .int (0 : Int32), .int (nI L398.length)])) :: ((bv393, yA g bm394 bf395) :: t0)) _
  refine r_aload_n 4 dX11_text_369 rfl ?_
  refine r_getm (v := .ref (tA k y)) (ci := 11) (fs := [.int (12 : Int32), .int (nI n), .int (nI o), .ref (tA k x), .ref (tA k y)]) dX11_text_370 fl_X11_59 (List.mem_cons_of_mem _ (List.mem_cons_of_mem _ hoK)) rfl ?_
  obtain ⟨fszz400, hfzz400⟩ := TM.cell k y hmy
  refine r_room (x2 := 7 + (16 * 2 ^ k - 16)) (y2 := 20874 + (33000 * 2 ^ k - 33000)) (Nat.le_of_eq (Nat.add_comm _ _)) (Nat.le_of_eq (Nat.add_comm _ _)) ?_
  refine k_Vm (x := 7) (y := 20874) (rest := [.ref q10]) dX11_text_373 kv_X11_128 (IH y _ (TM.mono (fun p hp => (List.mem_cons_of_mem _ (List.mem_cons_of_mem _ (mt p hp)))) k y hmy) hy) rfl rfl (List.mem_cons_of_mem _ (List.mem_cons_of_mem _ (mt _ hfzz400))) rfl (Nat.le_of_ble_eq_true rfl) (Nat.le_of_eq (Nat.add_right_comm _ _ _)) (by decide) ?_
  rintro zz400 hz401
  refine r_seg (ws2 := ((q10, .inr (13, [.ref bv393, .int (0 : Int32), .int (0 : Int32), .int (nI L398.length)])) :: ((bv393, yA g bm394 bf395) :: ((sw g (txt k y).length zz400) ++ t0)))) [sw g (txt k y).length zz400, [(q10, .inr (13, [.ref bv393, .int (0 : Int32), .int (0 : Int32), .int (nI L398.length)]))], [(bv393, yA g bm394 bf395)], t0] [1, 2, 0, 3] rfl rfl rfl ?_
  obtain ⟨L407, eL408⟩ : ∃ L9 : List Int32, L9 = L398 ++ txt k y := ⟨_, rfl⟩
  have bn406 : L407.length ≤ 759 := by rw [eL408]; exact lnA (L := L398) (L2 := txt k y) (n := 382) (n2 := 377) bn397 (ly)
  refine k_V (x := 6) (y := 16872) (rest := []) 0 dX11_text_376 kv_X11_113 (cj_apX (L2 := txt k y) (z := zz400) hz401 eL408 bh396 (Nat.le_trans bn406 (by decide))) rfl rfl rfl rfl (Nat.le_of_ble_eq_true rfl) (by first | exact hd3 | exact hd6 | exact hd7) (by decide) ?_
  rintro ⟨bv402, bm403, bf404⟩ bh405
  try dsimp only at bh405
  show R g mX11_text (k + 1 + 8) 6 16872 379 [(4, .ref u4), (3, .ref u3), (2, .ref u2), (1, .ref u1), (0, .ref a)] [.ref q10] ((q10, .inr (13, [.ref bv402, .int (0 : Int32), .int (0 : Int32), .int (nI L407.length)])) :: ((bv402, yA g bm403 bf404) :: ((sw g (txt k y).length zz400) ++ t0))) _
  refine r_seg (ws2 := ((q10, .inr (13, [.ref bv402, .int (0 : Int32), .int (0 : Int32), .int (nI L407.length)])) :: ((bv402, yA g bm403 bf404) :: t0))) [[(q10, .inr (13, [.ref bv402, .int (0 : Int32), .int (0 : Int32), .int (nI L407.length)]))], [(bv402, yA g bm403 bf404)], sw g (txt k y).length zz400, t0] [0, 1, 3] rfl rfl rfl ?_
  refine r_ldcS (i := 49) dX11_text_379 rfl ?_
  obtain ⟨L414, eL415⟩ : ∃ L9 : List Int32, L9 = L407 ++ kT 49 := ⟨_, rfl⟩
  have bn413 : L414.length ≤ 760 := by rw [eL415]; exact lnA (L := L407) (L2 := kT 49) (n := 759) (n2 := 1) bn406 (Nat.le_of_eq kl_49)
  refine k_V (x := 5) (y := 12870) (rest := []) 0 dX11_text_381 kv_X11_113 (cj_apK (i := 49) (by decide) eL415 bh405 (Nat.le_trans bn413 (by decide))) rfl rfl rfl rfl (Nat.le_of_ble_eq_true rfl) (by first | exact hd3 | exact hd6 | exact hd7) (by decide) ?_
  rintro ⟨bv409, bm410, bf411⟩ bh412
  try dsimp only at bh412
  show R g mX11_text (k + 1 + 8) 5 12870 384 [(4, .ref u4), (3, .ref u3), (2, .ref u2), (1, .ref u1), (0, .ref a)] [.ref q10] ((q10, .inr (13, [.ref bv409, .int (0 : Int32), .int (0 : Int32), .int (nI L414.length)])) :: ((bv409, yA g bm410 bf411) :: t0)) _
  refine k_V (x := 3) (y := 8864) (rest := []) 0 dX11_text_384 kv_X11_120 (cj_strB bh412) rfl rfl rfl rfl (Nat.le_of_ble_eq_true rfl) (by first | exact hd3 | exact hd6 | exact hd7) (by decide) ?_
  rintro ⟨ts416, tb417, tf418⟩ th419
  try dsimp only at th419
  show R g mX11_text (k + 1 + 8) 3 8864 387 [(4, .ref u4), (3, .ref u3), (2, .ref u2), (1, .ref u1), (0, .ref a)] [.ref ts416] ((ts416, .inr (12, [.ref tb417, .int (0 : Int32), .int (0 : Int32), .int (0 : Int32)])) :: ((tb417, yA g L414.length tf418) :: ((q10, .inr (13, [.ref bv409, .int (0 : Int32), .int (0 : Int32), .int (nI L414.length)])) :: ((bv409, yA g bm410 bf411) :: t0)))) _
  rw [e0]
  refine r_seg (ws2 := ((ts416, .inr (12, [.ref tb417, .int (0 : Int32), .int (0 : Int32), .int (0 : Int32)])) :: ((tb417, yA g L414.length tf418) :: t))) [[(ts416, .inr (12, [.ref tb417, .int (0 : Int32), .int (0 : Int32), .int (0 : Int32)]))], [(tb417, yA g L414.length tf418)], [(q10, .inr (13, [.ref bv409, .int (0 : Int32), .int (0 : Int32), .int (nI L414.length)]))], [(bv409, yA g bm410 bf411)], [(u4, qA g 7 4 (va_up (va_up (va_up (va_up (fun _ => none) 0 (some (gK g 43))) 1 (some (gK g 44))) 2 (some (gK g 45))) 3 (some (gK g 46))))], [(u3, qA g 7 5 (va_up (va_up (va_up (va_up (va_up (fun _ => none) 0 (some (gK g 38))) 1 (some (gK g 39))) 2 (some (gK g 40))) 3 (some (gK g 41))) 4 (some (gK g 42))))], [(u2, qA g 7 6 (va_up (va_up (va_up (va_up (va_up (va_up (fun _ => none) 0 (some (gK g 32))) 1 (some (gK g 33))) 2 (some (gK g 34))) 3 (some (gK g 35))) 4 (some (gK g 36))) 5 (some (gK g 37))))], [(u1, qA g 7 6 (va_up (va_up (va_up (va_up (va_up (va_up (fun _ => none) 0 (some (gK g iE))) 1 (some (gK g 27))) 2 (some (gK g 28))) 3 (some (gK g 29))) 4 (some (gK g 30))) 5 (some (gK g 31))))], t] [0, 1, 8] rfl rfl rfl ?_
  subst eL415
  subst eL408
  subst eL399
  subst eL392
  subst eL383
  refine r_aret dX11_text_387 rfl rfl (Or.inr ⟨_, rfl⟩) ?_
  exact Dq.mk (Sum.inr (ts416, tb417, tf418)) rfl rfl th419
set_option maxRecDepth 20000 in
set_option maxHeartbeats 8000000 in
theorem tx_20 {g : GG} {ne nt k a n o u1 u2 u3 u4 : Nat} {t t0 : va_W} {x y : TT k} (IH : TextH g ne nt k) (e0 : t0 = ((u4, qA g 7 4 (va_up (va_up (va_up (va_up (fun _ => none) 0 (some (gK g 43))) 1 (some (gK g 44))) 2 (some (gK g 45))) 3 (some (gK g 46)))) :: ((u3, qA g 7 5 (va_up (va_up (va_up (va_up (va_up (fun _ => none) 0 (some (gK g 38))) 1 (some (gK g 39))) 2 (some (gK g 40))) 3 (some (gK g 41))) 4 (some (gK g 42)))) :: ((u2, qA g 7 6 (va_up (va_up (va_up (va_up (va_up (va_up (fun _ => none) 0 (some (gK g 32))) 1 (some (gK g 33))) 2 (some (gK g 34))) 3 (some (gK g 35))) 4 (some (gK g 36))) 5 (some (gK g 37)))) :: ((u1, qA g 7 6 (va_up (va_up (va_up (va_up (va_up (va_up (fun _ => none) 0 (some (gK g iE))) 1 (some (gK g 27))) 2 (some (gK g 28))) 3 (some (gK g 29))) 4 (some (gK g 30))) 5 (some (gK g 31)))) :: t))))) (hk5 : k ≤ 5) (hn : nt ≤ 10) (hne : ne ≤ 10) (ho : (a, .inr (11, [.int (20 : Int32), .int (nI n), .int (nI o), .ref (tA k x), .ref (tA k y)])) ∈ t) (hmx : TM g t k x) (hx : TE ne nt k x ∨ TB ne nt k x) (hmy : TM g t k y) (hy : TE ne nt k y ∨ TB ne nt k y) : R g mX11_text (k + 1 + 8) ((16 * 2 ^ k - 16) + (16 * 2 ^ k - 16) + 12) ((33000 * 2 ^ k - 33000) + (33000 * 2 ^ k - 33000) + 32900) 128 [(4, .ref u4), (3, .ref u3), (2, .ref u2), (1, .ref u1), (0, .ref a)] [] t0 (Dq (fun (z : SZ) => some (sv g z)) (fun z => sw g (((([] : List Int32) ++ (txt k x)) ++ kT 38) ++ (txt k y)).length z ++ t) (fun z => sP (((([] : List Int32) ++ (txt k x)) ++ kT 38) ++ (txt k y)) z)) := by
  have hd3 : 3 + 1 ≤ k + 1 + 8 := by omega
  have hd6 : 6 + 1 ≤ k + 1 + 8 := by omega
  have hd7 : 7 + 1 ≤ k + 1 + 8 := by omega
  have hp5 : 2 ^ k ≤ 32 := Nat.le_trans (Nat.pow_le_pow_right (by decide) hk5) (by decide)
  have hlk : 12 * 2 ^ k - 7 ≤ 377 := by omega
  have lx := Nat.le_trans (txt_len hne hn k x hx) hlk
  have ly := Nat.le_trans (txt_len hne hn k y hy) hlk
  have m0 : (u4, qA g 7 4 (va_up (va_up (va_up (va_up (fun _ => none) 0 (some (gK g 43))) 1 (some (gK g 44))) 2 (some (gK g 45))) 3 (some (gK g 46)))) ∈ t0 := by rw [e0]; exact List.mem_cons_self
  have m1 : (u3, qA g 7 5 (va_up (va_up (va_up (va_up (va_up (fun _ => none) 0 (some (gK g 38))) 1 (some (gK g 39))) 2 (some (gK g 40))) 3 (some (gK g 41))) 4 (some (gK g 42)))) ∈ t0 := by rw [e0]; exact (List.mem_cons_of_mem _ List.mem_cons_self)
  have m2 : (u2, qA g 7 6 (va_up (va_up (va_up (va_up (va_up (va_up (fun _ => none) 0 (some (gK g 32))) 1 (some (gK g 33))) 2 (some (gK g 34))) 3 (some (gK g 35))) 4 (some (gK g 36))) 5 (some (gK g 37)))) ∈ t0 := by rw [e0]; exact (List.mem_cons_of_mem _ (List.mem_cons_of_mem _ List.mem_cons_self))
  have m3 : (u1, qA g 7 6 (va_up (va_up (va_up (va_up (va_up (va_up (fun _ => none) 0 (some (gK g iE))) 1 (some (gK g 27))) 2 (some (gK g 28))) 3 (some (gK g 29))) 4 (some (gK g 30))) 5 (some (gK g 31)))) ∈ t0 := by rw [e0]; exact (List.mem_cons_of_mem _ (List.mem_cons_of_mem _ (List.mem_cons_of_mem _ List.mem_cons_self)))
  have mt : ∀ p ∈ t, p ∈ t0 := fun p hp => by rw [e0]; exact (List.mem_cons_of_mem _ (List.mem_cons_of_mem _ (List.mem_cons_of_mem _ (List.mem_cons_of_mem _ hp))))
  have hoK := mt _ ho
  refine r_aload_n 4 dX11_text_128 rfl ?_
  refine r_getm (v := .int (20 : Int32)) (ci := 11) (fs := [.int (20 : Int32), .int (nI n), .int (nI o), .ref (tA k x), .ref (tA k y)]) dX11_text_129 fl_X11_7 hoK rfl ?_
  refine r_if_ne (tgt := 158) dX11_text_132 (by decide) (fun _ => ?_) (fun hc => absurd hc (by decide))
  refine r_aload_n 4 dX11_text_158 rfl ?_
  refine r_getm (v := .int (20 : Int32)) (ci := 11) (fs := [.int (20 : Int32), .int (nI n), .int (nI o), .ref (tA k x), .ref (tA k y)]) dX11_text_159 fl_X11_7 hoK rfl ?_
  refine r_iconst (v := (4 : Int32)) dX11_text_162 (by decide) ?_
  refine r_icmp_ge (tgt := 173) dX11_text_163 (by decide) (fun _ => ?_) (fun hc => absurd (by decide) hc)
  refine r_aload_n 4 dX11_text_173 rfl ?_
  refine r_getm (v := .int (20 : Int32)) (ci := 11) (fs := [.int (20 : Int32), .int (nI n), .int (nI o), .ref (tA k x), .ref (tA k y)]) dX11_text_174 fl_X11_7 hoK rfl ?_
  refine r_bipush (v := (6 : Int32)) dX11_text_177 (by decide) ?_
  refine r_icmp_ge (tgt := 214) dX11_text_179 (by decide) (fun _ => ?_) (fun hc => absurd (by decide) hc)
  refine r_aload_n 4 dX11_text_214 rfl ?_
  refine r_getm (v := .int (20 : Int32)) (ci := 11) (fs := [.int (20 : Int32), .int (nI n), .int (nI o), .ref (tA k x), .ref (tA k y)]) dX11_text_215 fl_X11_7 hoK rfl ?_
  refine r_bipush (v := (6 : Int32)) dX11_text_218 (by decide) ?_
  refine r_icmp_ne (tgt := 254) dX11_text_220 (by decide) (fun _ => ?_) (fun hc => absurd hc (by decide))
  refine r_aload_n 4 dX11_text_254 rfl ?_
  refine r_getm (v := .int (20 : Int32)) (ci := 11) (fs := [.int (20 : Int32), .int (nI n), .int (nI o), .ref (tA k x), .ref (tA k y)]) dX11_text_255 fl_X11_7 hoK rfl ?_
  refine r_bipush (v := (11 : Int32)) dX11_text_258 (by decide) ?_
  refine r_icmp_ge (tgt := 326) dX11_text_260 (by decide) (fun _ => ?_) (fun hc => absurd (by decide) hc)
  refine r_aload_n 4 dX11_text_326 rfl ?_
  refine r_getm (v := .int (20 : Int32)) (ci := 11) (fs := [.int (20 : Int32), .int (nI n), .int (nI o), .ref (tA k x), .ref (tA k y)]) dX11_text_327 fl_X11_7 hoK rfl ?_
  refine r_bipush (v := (13 : Int32)) dX11_text_330 (by decide) ?_
  refine r_icmp_ge (tgt := 388) dX11_text_332 (by decide) (fun _ => ?_) (fun hc => absurd (by decide) hc)
  refine r_aload_n 4 dX11_text_388 rfl ?_
  refine r_getm (v := .int (20 : Int32)) (ci := 11) (fs := [.int (20 : Int32), .int (nI n), .int (nI o), .ref (tA k x), .ref (tA k y)]) dX11_text_389 fl_X11_7 hoK rfl ?_
  refine r_bipush (v := (25 : Int32)) dX11_text_392 (by decide) ?_
  refine r_icmp_ge (tgt := 440) dX11_text_394 (by decide) (fun hc => absurd hc (by decide)) (fun _ => ?_)
  refine r_new (N := 4) (x := ((16 * 2 ^ k - 16) + (16 * 2 ^ k - 16) + 11)) (y := ((33000 * 2 ^ k - 33000) + (33000 * 2 ^ k - 33000) + 32896)) dX11_text_397 nl_X11_110 (fun q11 => ?_)
  refine r_dup dX11_text_400 rfl ?_
  refine r_room (x2 := ((16 * 2 ^ k - 16) + (16 * 2 ^ k - 16) + 10) + 1) (y2 := ((33000 * 2 ^ k - 33000) + (33000 * 2 ^ k - 33000) + 32880) + 16) (rq rfl) (rq rfl) ?_
  refine k_I (x := ((16 * 2 ^ k - 16) + (16 * 2 ^ k - 16) + 10)) (y := ((33000 * 2 ^ k - 33000) + (33000 * 2 ^ k - 33000) + 32880)) (rest := [.ref q11]) dX11_text_401 ki_X11_112 (cj_sb) rfl rfl (Nat.le_of_ble_eq_true rfl) (by first | exact hd3 | exact hd6 | exact hd7) (by decide) ?_
  rintro bv420 -
  show R g mX11_text (k + 1 + 8) ((16 * 2 ^ k - 16) + (16 * 2 ^ k - 16) + 10) ((33000 * 2 ^ k - 33000) + (33000 * 2 ^ k - 33000) + 32880) 404 [(4, .ref u4), (3, .ref u3), (2, .ref u2), (1, .ref u1), (0, .ref a)] [.ref q11] ((q11, .inr (13, [.ref bv420, .int (0 : Int32), .int (0 : Int32), .int (nI ([] : List Int32).length)])) :: ((bv420, yA g 16 (fun _ => 0)) :: t0)) _
  refine r_aload_n 4 dX11_text_404 rfl ?_
  refine r_getm (v := .ref (tA k x)) (ci := 11) (fs := [.int (20 : Int32), .int (nI n), .int (nI o), .ref (tA k x), .ref (tA k y)]) dX11_text_405 fl_X11_40 (List.mem_cons_of_mem _ (List.mem_cons_of_mem _ hoK)) rfl ?_
  obtain ⟨fszz421, hfzz421⟩ := TM.cell k x hmx
  refine r_room (x2 := ((16 * 2 ^ k - 16) + 10) + (16 * 2 ^ k - 16)) (y2 := ((33000 * 2 ^ k - 33000) + 32880) + (33000 * 2 ^ k - 33000)) (Nat.le_of_eq (Nat.add_right_comm _ _ _)) (Nat.le_of_eq (Nat.add_right_comm _ _ _)) ?_
  refine k_Vm (x := ((16 * 2 ^ k - 16) + 10)) (y := ((33000 * 2 ^ k - 33000) + 32880)) (rest := [.ref q11]) dX11_text_408 kv_X11_128 (IH x _ (TM.mono (fun p hp => (List.mem_cons_of_mem _ (List.mem_cons_of_mem _ (mt p hp)))) k x hmx) hx) rfl rfl (List.mem_cons_of_mem _ (List.mem_cons_of_mem _ (mt _ hfzz421))) rfl (Nat.le_of_ble_eq_true rfl) (Nat.le_of_eq (Nat.add_right_comm _ _ _)) (by decide) ?_
  rintro zz421 hz422
  refine r_seg (ws2 := ((q11, .inr (13, [.ref bv420, .int (0 : Int32), .int (0 : Int32), .int (nI ([] : List Int32).length)])) :: ((bv420, yA g 16 (fun _ => 0)) :: ((sw g (txt k x).length zz421) ++ t0)))) [sw g (txt k x).length zz421, [(q11, .inr (13, [.ref bv420, .int (0 : Int32), .int (0 : Int32), .int (nI ([] : List Int32).length)]))], [(bv420, yA g 16 (fun _ => 0))], t0] [1, 2, 0, 3] rfl rfl rfl ?_
  obtain ⟨L428, eL429⟩ : ∃ L9 : List Int32, L9 = ([] : List Int32) ++ txt k x := ⟨_, rfl⟩
  have bn427 : L428.length ≤ 377 := by rw [eL429]; exact lnA (L := ([] : List Int32)) (L2 := txt k x) (n := 0) (n2 := 377) (Nat.le_refl 0) (lx)
  refine r_room (x2 := ((16 * 2 ^ k - 16) + 9) + 1) (y2 := ((33000 * 2 ^ k - 33000) + 28878) + 4002) (rq rfl) (rq rfl) ?_
  refine k_V (x := ((16 * 2 ^ k - 16) + 9)) (y := ((33000 * 2 ^ k - 33000) + 28878)) (rest := []) 0 dX11_text_411 kv_X11_113 (cj_apX (L2 := txt k x) (z := zz421) hz422 eL429 BL.nil (Nat.le_trans bn427 (by decide))) rfl rfl rfl rfl (Nat.le_of_ble_eq_true rfl) (by first | exact hd3 | exact hd6 | exact hd7) (by decide) ?_
  rintro ⟨bv423, bm424, bf425⟩ bh426
  try dsimp only at bh426
  show R g mX11_text (k + 1 + 8) ((16 * 2 ^ k - 16) + 9) ((33000 * 2 ^ k - 33000) + 28878) 414 [(4, .ref u4), (3, .ref u3), (2, .ref u2), (1, .ref u1), (0, .ref a)] [.ref q11] ((q11, .inr (13, [.ref bv423, .int (0 : Int32), .int (0 : Int32), .int (nI L428.length)])) :: ((bv423, yA g bm424 bf425) :: ((sw g (txt k x).length zz421) ++ t0))) _
  refine r_seg (ws2 := ((q11, .inr (13, [.ref bv423, .int (0 : Int32), .int (0 : Int32), .int (nI L428.length)])) :: ((bv423, yA g bm424 bf425) :: t0))) [[(q11, .inr (13, [.ref bv423, .int (0 : Int32), .int (0 : Int32), .int (nI L428.length)]))], [(bv423, yA g bm424 bf425)], sw g (txt k x).length zz421, t0] [0, 1, 3] rfl rfl rfl ?_
  refine r_aload_n 1 dX11_text_414 rfl ?_
  refine r_aload_n 4 dX11_text_415 rfl ?_
  refine r_getm (v := .int (20 : Int32)) (ci := 11) (fs := [.int (20 : Int32), .int (nI n), .int (nI o), .ref (tA k x), .ref (tA k y)]) dX11_text_416 fl_X11_7 (List.mem_cons_of_mem _ (List.mem_cons_of_mem _ hoK)) rfl ?_
  refine r_bipush (v := (20 : Int32)) dX11_text_419 (by decide) ?_
  refine r_isub dX11_text_421 ?_
  refine r_aaldm (t := 7) (n := 5) (f := (va_up (va_up (va_up (va_up (va_up (fun _ => none) 0 (some (gK g 38))) 1 (some (gK g 39))) 2 (some (gK g 40))) 3 (some (gK g 41))) 4 (some (gK g 42)))) (v := .ref (gK g 38)) dX11_text_422 rfl rfl (List.mem_cons_of_mem _ (List.mem_cons_of_mem _ m1)) (by decide) (by rfl) ?_
  obtain ⟨L435, eL436⟩ : ∃ L9 : List Int32, L9 = L428 ++ kT 38 := ⟨_, rfl⟩
  have bn434 : L435.length ≤ 378 := by rw [eL436]; exact lnA (L := L428) (L2 := kT 38) (n := 377) (n2 := 1) bn427 (Nat.le_of_eq kl_38)
  refine r_room (x2 := ((16 * 2 ^ k - 16) + 8) + 1) (y2 := ((33000 * 2 ^ k - 33000) + 24876) + 4002) (rq rfl) (rq rfl) ?_
  refine k_V (x := ((16 * 2 ^ k - 16) + 8)) (y := ((33000 * 2 ^ k - 33000) + 24876)) (rest := []) 0 dX11_text_423 kv_X11_113 (cj_apK (i := 38) (by decide) eL436 bh426 (Nat.le_trans bn434 (by decide))) rfl rfl rfl rfl (Nat.le_of_ble_eq_true rfl) (by first | exact hd3 | exact hd6 | exact hd7) (by decide) ?_
  rintro ⟨bv430, bm431, bf432⟩ bh433
  try dsimp only at bh433
  show R g mX11_text (k + 1 + 8) ((16 * 2 ^ k - 16) + 8) ((33000 * 2 ^ k - 33000) + 24876) 426 [(4, .ref u4), (3, .ref u3), (2, .ref u2), (1, .ref u1), (0, .ref a)] [.ref q11] ((q11, .inr (13, [.ref bv430, .int (0 : Int32), .int (0 : Int32), .int (nI L435.length)])) :: ((bv430, yA g bm431 bf432) :: t0)) _
  refine r_aload_n 4 dX11_text_426 rfl ?_
  refine r_getm (v := .ref (tA k y)) (ci := 11) (fs := [.int (20 : Int32), .int (nI n), .int (nI o), .ref (tA k x), .ref (tA k y)]) dX11_text_427 fl_X11_59 (List.mem_cons_of_mem _ (List.mem_cons_of_mem _ hoK)) rfl ?_
  obtain ⟨fszz437, hfzz437⟩ := TM.cell k y hmy
  refine r_room (x2 := 8 + (16 * 2 ^ k - 16)) (y2 := 24876 + (33000 * 2 ^ k - 33000)) (Nat.le_of_eq (Nat.add_comm _ _)) (Nat.le_of_eq (Nat.add_comm _ _)) ?_
  refine k_Vm (x := 8) (y := 24876) (rest := [.ref q11]) dX11_text_430 kv_X11_128 (IH y _ (TM.mono (fun p hp => (List.mem_cons_of_mem _ (List.mem_cons_of_mem _ (mt p hp)))) k y hmy) hy) rfl rfl (List.mem_cons_of_mem _ (List.mem_cons_of_mem _ (mt _ hfzz437))) rfl (Nat.le_of_ble_eq_true rfl) (Nat.le_of_eq (Nat.add_right_comm _ _ _)) (by decide) ?_
  rintro zz437 hz438
  refine r_seg (ws2 := ((q11, .inr (13, [.ref bv430, .int (0 : Int32), .int (0 : Int32), .int (nI L435.length)])) :: ((bv430, yA g bm431 bf432) :: ((sw g (txt k y).length zz437) ++ t0)))) [sw g (txt k y).length zz437, [(q11, .inr (13, [.ref bv430, .int (0 : Int32), .int (0 : Int32), .int (nI L435.length)]))], [(bv430, yA g bm431 bf432)], t0] [1, 2, 0, 3] rfl rfl rfl ?_
  obtain ⟨L444, eL445⟩ : ∃ L9 : List Int32, L9 = L435 ++ txt k y := ⟨_, rfl⟩
  have bn443 : L444.length ≤ 755 := by rw [eL445]; exact lnA (L := L435) (L2 := txt k y) (n := 378) (n2 := 377) bn434 (ly)
  refine k_V (x := 7) (y := 20874) (rest := []) 0 dX11_text_433 kv_X11_113 (cj_apX (L2 := txt k y) (z := zz437) hz438 eL445 bh433 (Nat.le_trans bn443 (by decide))) rfl rfl rfl rfl (Nat.le_of_ble_eq_true rfl) (by first | exact hd3 | exact hd6 | exact hd7) (by decide) ?_
  rintro ⟨bv439, bm440, bf441⟩ bh442
  try dsimp only at bh442
  show R g mX11_text (k + 1 + 8) 7 20874 436 [(4, .ref u4), (3, .ref u3), (2, .ref u2), (1, .ref u1), (0, .ref a)] [.ref q11] ((q11, .inr (13, [.ref bv439, .int (0 : Int32), .int (0 : Int32), .int (nI L444.length)])) :: ((bv439, yA g bm440 bf441) :: ((sw g (txt k y).length zz437) ++ t0))) _
  refine r_seg (ws2 := ((q11, .inr (13, [.ref bv439, .int (0 : Int32), .int (0 : Int32), .int (nI L444.length)])) :: ((bv439, yA g bm440 bf441) :: t0))) [[(q11, .inr (13, [.ref bv439, .int (0 : Int32), .int (0 : Int32), .int (nI L444.length)]))], [(bv439, yA g bm440 bf441)], sw g (txt k y).length zz437, t0] [0, 1, 3] rfl rfl rfl ?_
  refine k_V (x := 5) (y := 16868) (rest := []) 0 dX11_text_436 kv_X11_120 (cj_strB bh442) rfl rfl rfl rfl (Nat.le_of_ble_eq_true rfl) (by first | exact hd3 | exact hd6 | exact hd7) (by decide) ?_
  rintro ⟨ts446, tb447, tf448⟩ th449
  try dsimp only at th449
  show R g mX11_text (k + 1 + 8) 5 16868 439 [(4, .ref u4), (3, .ref u3), (2, .ref u2), (1, .ref u1), (0, .ref a)] [.ref ts446] ((ts446, .inr (12, [.ref tb447, .int (0 : Int32), .int (0 : Int32), .int (0 : Int32)])) :: ((tb447, yA g L444.length tf448) :: ((q11, .inr (13, [.ref bv439, .int (0 : Int32), .int (0 : Int32), .int (nI L444.length)])) :: ((bv439, yA g bm440 bf441) :: t0)))) _
  rw [e0]
  refine r_seg (ws2 := ((ts446, .inr (12, [.ref tb447, .int (0 : Int32), .int (0 : Int32), .int (0 : Int32)])) :: ((tb447, yA g L444.length tf448) :: t))) [[(ts446, .inr (12, [.ref tb447, .int (0 : Int32), .int (0 : Int32), .int (0 : Int32)]))], [(tb447, yA g L444.length tf448)], [(q11, .inr (13, [.ref bv439, .int (0 : Int32), .int (0 : Int32), .int (nI L444.length)]))], [(bv439, yA g bm440 bf441)], [(u4, qA g 7 4 (va_up (va_up (va_up (va_up (fun _ => none) 0 (some (gK g 43))) 1 (some (gK g 44))) 2 (some (gK g 45))) 3 (some (gK g 46))))], [(u3, qA g 7 5 (va_up (va_up (va_up (va_up (va_up (fun _ => none) 0 (some (gK g 38))) 1 (some (gK g 39))) 2 (some (gK g 40))) 3 (some (gK g 41))) 4 (some (gK g 42))))], [(u2, qA g 7 6 (va_up (va_up (va_up (va_up (va_up (va_up (fun _ => none) 0 (some (gK g 32))) 1 (some (gK g 33))) 2 (some (gK g 34))) 3 (some (gK g 35))) 4 (some (gK g 36))) 5 (some (gK g 37))))], [(u1, qA g 7 6 (va_up (va_up (va_up (va_up (va_up (va_up (fun _ => none) 0 (some (gK g iE))) 1 (some (gK g 27))) 2 (some (gK g 28))) 3 (some (gK g 29))) 4 (some (gK g 30))) 5 (some (gK g 31))))], t] [0, 1, 8] rfl rfl rfl ?_
  subst eL445
  subst eL436
  subst eL429
  refine r_aret dX11_text_439 rfl rfl (Or.inr ⟨_, rfl⟩) ?_
  exact Dq.mk (Sum.inr (ts446, tb447, tf448)) rfl rfl th449
set_option maxRecDepth 20000 in
set_option maxHeartbeats 8000000 in
theorem tx_21 {g : GG} {ne nt k a n o u1 u2 u3 u4 : Nat} {t t0 : va_W} {x y : TT k} (IH : TextH g ne nt k) (e0 : t0 = ((u4, qA g 7 4 (va_up (va_up (va_up (va_up (fun _ => none) 0 (some (gK g 43))) 1 (some (gK g 44))) 2 (some (gK g 45))) 3 (some (gK g 46)))) :: ((u3, qA g 7 5 (va_up (va_up (va_up (va_up (va_up (fun _ => none) 0 (some (gK g 38))) 1 (some (gK g 39))) 2 (some (gK g 40))) 3 (some (gK g 41))) 4 (some (gK g 42)))) :: ((u2, qA g 7 6 (va_up (va_up (va_up (va_up (va_up (va_up (fun _ => none) 0 (some (gK g 32))) 1 (some (gK g 33))) 2 (some (gK g 34))) 3 (some (gK g 35))) 4 (some (gK g 36))) 5 (some (gK g 37)))) :: ((u1, qA g 7 6 (va_up (va_up (va_up (va_up (va_up (va_up (fun _ => none) 0 (some (gK g iE))) 1 (some (gK g 27))) 2 (some (gK g 28))) 3 (some (gK g 29))) 4 (some (gK g 30))) 5 (some (gK g 31)))) :: t))))) (hk5 : k ≤ 5) (hn : nt ≤ 10) (hne : ne ≤ 10) (ho : (a, .inr (11, [.int (21 : Int32), .int (nI n), .int (nI o), .ref (tA k x), .ref (tA k y)])) ∈ t) (hmx : TM g t k x) (hx : TE ne nt k x ∨ TB ne nt k x) (hmy : TM g t k y) (hy : TE ne nt k y ∨ TB ne nt k y) : R g mX11_text (k + 1 + 8) ((16 * 2 ^ k - 16) + (16 * 2 ^ k - 16) + 12) ((33000 * 2 ^ k - 33000) + (33000 * 2 ^ k - 33000) + 32900) 128 [(4, .ref u4), (3, .ref u3), (2, .ref u2), (1, .ref u1), (0, .ref a)] [] t0 (Dq (fun (z : SZ) => some (sv g z)) (fun z => sw g (((([] : List Int32) ++ (txt k x)) ++ kT 39) ++ (txt k y)).length z ++ t) (fun z => sP (((([] : List Int32) ++ (txt k x)) ++ kT 39) ++ (txt k y)) z)) := by
  have hd3 : 3 + 1 ≤ k + 1 + 8 := by omega
  have hd6 : 6 + 1 ≤ k + 1 + 8 := by omega
  have hd7 : 7 + 1 ≤ k + 1 + 8 := by omega
  have hp5 : 2 ^ k ≤ 32 := Nat.le_trans (Nat.pow_le_pow_right (by decide) hk5) (by decide)
  have hlk : 12 * 2 ^ k - 7 ≤ 377 := by omega
  have lx := Nat.le_trans (txt_len hne hn k x hx) hlk
  have ly := Nat.le_trans (txt_len hne hn k y hy) hlk
  have m0 : (u4, qA g 7 4 (va_up (va_up (va_up (va_up (fun _ => none) 0 (some (gK g 43))) 1 (some (gK g 44))) 2 (some (gK g 45))) 3 (some (gK g 46)))) ∈ t0 := by rw [e0]; exact List.mem_cons_self
  have m1 : (u3, qA g 7 5 (va_up (va_up (va_up (va_up (va_up (fun _ => none) 0 (some (gK g 38))) 1 (some (gK g 39))) 2 (some (gK g 40))) 3 (some (gK g 41))) 4 (some (gK g 42)))) ∈ t0 := by rw [e0]; exact (List.mem_cons_of_mem _ List.mem_cons_self)
  have m2 : (u2, qA g 7 6 (va_up (va_up (va_up (va_up (va_up (va_up (fun _ => none) 0 (some (gK g 32))) 1 (some (gK g 33))) 2 (some (gK g 34))) 3 (some (gK g 35))) 4 (some (gK g 36))) 5 (some (gK g 37)))) ∈ t0 := by rw [e0]; exact (List.mem_cons_of_mem _ (List.mem_cons_of_mem _ List.mem_cons_self))
  have m3 : (u1, qA g 7 6 (va_up (va_up (va_up (va_up (va_up (va_up (fun _ => none) 0 (some (gK g iE))) 1 (some (gK g 27))) 2 (some (gK g 28))) 3 (some (gK g 29))) 4 (some (gK g 30))) 5 (some (gK g 31)))) ∈ t0 := by rw [e0]; exact (List.mem_cons_of_mem _ (List.mem_cons_of_mem _ (List.mem_cons_of_mem _ List.mem_cons_self)))
  have mt : ∀ p ∈ t, p ∈ t0 := fun p hp => by rw [e0]; exact (List.mem_cons_of_mem _ (List.mem_cons_of_mem _ (List.mem_cons_of_mem _ (List.mem_cons_of_mem _ hp))))
  have hoK := mt _ ho
  refine r_aload_n 4 dX11_text_128 rfl ?_
  refine r_getm (v := .int (21 : Int32)) (ci := 11) (fs := [.int (21 : Int32), .int (nI n), .int (nI o), .ref (tA k x), .ref (tA k y)]) dX11_text_129 fl_X11_7 hoK rfl ?_
  refine r_if_ne (tgt := 158) dX11_text_132 (by decide) (fun _ => ?_) (fun hc => absurd hc (by decide))
  refine r_aload_n 4 dX11_text_158 rfl ?_
  refine r_getm (v := .int (21 : Int32)) (ci := 11) (fs := [.int (21 : Int32), .int (nI n), .int (nI o), .ref (tA k x), .ref (tA k y)]) dX11_text_159 fl_X11_7 hoK rfl ?_
  refine r_iconst (v := (4 : Int32)) dX11_text_162 (by decide) ?_
  refine r_icmp_ge (tgt := 173) dX11_text_163 (by decide) (fun _ => ?_) (fun hc => absurd (by decide) hc)
  refine r_aload_n 4 dX11_text_173 rfl ?_
  refine r_getm (v := .int (21 : Int32)) (ci := 11) (fs := [.int (21 : Int32), .int (nI n), .int (nI o), .ref (tA k x), .ref (tA k y)]) dX11_text_174 fl_X11_7 hoK rfl ?_
  refine r_bipush (v := (6 : Int32)) dX11_text_177 (by decide) ?_
  refine r_icmp_ge (tgt := 214) dX11_text_179 (by decide) (fun _ => ?_) (fun hc => absurd (by decide) hc)
  refine r_aload_n 4 dX11_text_214 rfl ?_
  refine r_getm (v := .int (21 : Int32)) (ci := 11) (fs := [.int (21 : Int32), .int (nI n), .int (nI o), .ref (tA k x), .ref (tA k y)]) dX11_text_215 fl_X11_7 hoK rfl ?_
  refine r_bipush (v := (6 : Int32)) dX11_text_218 (by decide) ?_
  refine r_icmp_ne (tgt := 254) dX11_text_220 (by decide) (fun _ => ?_) (fun hc => absurd hc (by decide))
  refine r_aload_n 4 dX11_text_254 rfl ?_
  refine r_getm (v := .int (21 : Int32)) (ci := 11) (fs := [.int (21 : Int32), .int (nI n), .int (nI o), .ref (tA k x), .ref (tA k y)]) dX11_text_255 fl_X11_7 hoK rfl ?_
  refine r_bipush (v := (11 : Int32)) dX11_text_258 (by decide) ?_
  refine r_icmp_ge (tgt := 326) dX11_text_260 (by decide) (fun _ => ?_) (fun hc => absurd (by decide) hc)
  refine r_aload_n 4 dX11_text_326 rfl ?_
  refine r_getm (v := .int (21 : Int32)) (ci := 11) (fs := [.int (21 : Int32), .int (nI n), .int (nI o), .ref (tA k x), .ref (tA k y)]) dX11_text_327 fl_X11_7 hoK rfl ?_
  refine r_bipush (v := (13 : Int32)) dX11_text_330 (by decide) ?_
  refine r_icmp_ge (tgt := 388) dX11_text_332 (by decide) (fun _ => ?_) (fun hc => absurd (by decide) hc)
  refine r_aload_n 4 dX11_text_388 rfl ?_
  refine r_getm (v := .int (21 : Int32)) (ci := 11) (fs := [.int (21 : Int32), .int (nI n), .int (nI o), .ref (tA k x), .ref (tA k y)]) dX11_text_389 fl_X11_7 hoK rfl ?_
  refine r_bipush (v := (25 : Int32)) dX11_text_392 (by decide) ?_
  refine r_icmp_ge (tgt := 440) dX11_text_394 (by decide) (fun hc => absurd hc (by decide)) (fun _ => ?_)
  refine r_new (N := 4) (x := ((16 * 2 ^ k - 16) + (16 * 2 ^ k - 16) + 11)) (y := ((33000 * 2 ^ k - 33000) + (33000 * 2 ^ k - 33000) + 32896)) dX11_text_397 nl_X11_110 (fun q12 => ?_)
  refine r_dup dX11_text_400 rfl ?_
  refine r_room (x2 := ((16 * 2 ^ k - 16) + (16 * 2 ^ k - 16) + 10) + 1) (y2 := ((33000 * 2 ^ k - 33000) + (33000 * 2 ^ k - 33000) + 32880) + 16) (rq rfl) (rq rfl) ?_
  refine k_I (x := ((16 * 2 ^ k - 16) + (16 * 2 ^ k - 16) + 10)) (y := ((33000 * 2 ^ k - 33000) + (33000 * 2 ^ k - 33000) + 32880)) (rest := [.ref q12]) dX11_text_401 ki_X11_112 (cj_sb) rfl rfl (Nat.le_of_ble_eq_true rfl) (by first | exact hd3 | exact hd6 | exact hd7) (by decide) ?_
  rintro bv450 -
  show R g mX11_text (k + 1 + 8) ((16 * 2 ^ k - 16) + (16 * 2 ^ k - 16) + 10) ((33000 * 2 ^ k - 33000) + (33000 * 2 ^ k - 33000) + 32880) 404 [(4, .ref u4), (3, .ref u3), (2, .ref u2), (1, .ref u1), (0, .ref a)] [.ref q12] ((q12, .inr (13, [.ref bv450, .int (0 : Int32), .int (0 : Int32), .int (nI ([] : List Int32).length)])) :: ((bv450, yA g 16 (fun _ => 0)) :: t0)) _
  refine r_aload_n 4 dX11_text_404 rfl ?_
  refine r_getm (v := .ref (tA k x)) (ci := 11) (fs := [.int (21 : Int32), .int (nI n), .int (nI o), .ref (tA k x), .ref (tA k y)]) dX11_text_405 fl_X11_40 (List.mem_cons_of_mem _ (List.mem_cons_of_mem _ hoK)) rfl ?_
  obtain ⟨fszz451, hfzz451⟩ := TM.cell k x hmx
  refine r_room (x2 := ((16 * 2 ^ k - 16) + 10) + (16 * 2 ^ k - 16)) (y2 := ((33000 * 2 ^ k - 33000) + 32880) + (33000 * 2 ^ k - 33000)) (Nat.le_of_eq (Nat.add_right_comm _ _ _)) (Nat.le_of_eq (Nat.add_right_comm _ _ _)) ?_
  refine k_Vm (x := ((16 * 2 ^ k - 16) + 10)) (y := ((33000 * 2 ^ k - 33000) + 32880)) (rest := [.ref q12]) dX11_text_408 kv_X11_128 (IH x _ (TM.mono (fun p hp => (List.mem_cons_of_mem _ (List.mem_cons_of_mem _ (mt p hp)))) k x hmx) hx) rfl rfl (List.mem_cons_of_mem _ (List.mem_cons_of_mem _ (mt _ hfzz451))) rfl (Nat.le_of_ble_eq_true rfl) (Nat.le_of_eq (Nat.add_right_comm _ _ _)) (by decide) ?_
  rintro zz451 hz452
  refine r_seg (ws2 := ((q12, .inr (13, [.ref bv450, .int (0 : Int32), .int (0 : Int32), .int (nI ([] : List Int32).length)])) :: ((bv450, yA g 16 (fun _ => 0)) :: ((sw g (txt k x).length zz451) ++ t0)))) [sw g (txt k x).length zz451, [(q12, .inr (13, [.ref bv450, .int (0 : Int32), .int (0 : Int32), .int (nI ([] : List Int32).length)]))], [(bv450, yA g 16 (fun _ => 0))], t0] [1, 2, 0, 3] rfl rfl rfl ?_
  obtain ⟨L458, eL459⟩ : ∃ L9 : List Int32, L9 = ([] : List Int32) ++ txt k x := ⟨_, rfl⟩
  have bn457 : L458.length ≤ 377 := by rw [eL459]; exact lnA (L := ([] : List Int32)) (L2 := txt k x) (n := 0) (n2 := 377) (Nat.le_refl 0) (lx)
  refine r_room (x2 := ((16 * 2 ^ k - 16) + 9) + 1) (y2 := ((33000 * 2 ^ k - 33000) + 28878) + 4002) (rq rfl) (rq rfl) ?_
  refine k_V (x := ((16 * 2 ^ k - 16) + 9)) (y := ((33000 * 2 ^ k - 33000) + 28878)) (rest := []) 0 dX11_text_411 kv_X11_113 (cj_apX (L2 := txt k x) (z := zz451) hz452 eL459 BL.nil (Nat.le_trans bn457 (by decide))) rfl rfl rfl rfl (Nat.le_of_ble_eq_true rfl) (by first | exact hd3 | exact hd6 | exact hd7) (by decide) ?_
  rintro ⟨bv453, bm454, bf455⟩ bh456
  try dsimp only at bh456
  show R g mX11_text (k + 1 + 8) ((16 * 2 ^ k - 16) + 9) ((33000 * 2 ^ k - 33000) + 28878) 414 [(4, .ref u4), (3, .ref u3), (2, .ref u2), (1, .ref u1), (0, .ref a)] [.ref q12] ((q12, .inr (13, [.ref bv453, .int (0 : Int32), .int (0 : Int32), .int (nI L458.length)])) :: ((bv453, yA g bm454 bf455) :: ((sw g (txt k x).length zz451) ++ t0))) _
  refine r_seg (ws2 := ((q12, .inr (13, [.ref bv453, .int (0 : Int32), .int (0 : Int32), .int (nI L458.length)])) :: ((bv453, yA g bm454 bf455) :: t0))) [[(q12, .inr (13, [.ref bv453, .int (0 : Int32), .int (0 : Int32), .int (nI L458.length)]))], [(bv453, yA g bm454 bf455)], sw g (txt k x).length zz451, t0] [0, 1, 3] rfl rfl rfl ?_
  refine r_aload_n 1 dX11_text_414 rfl ?_
  refine r_aload_n 4 dX11_text_415 rfl ?_
  refine r_getm (v := .int (21 : Int32)) (ci := 11) (fs := [.int (21 : Int32), .int (nI n), .int (nI o), .ref (tA k x), .ref (tA k y)]) dX11_text_416 fl_X11_7 (List.mem_cons_of_mem _ (List.mem_cons_of_mem _ hoK)) rfl ?_
  refine r_bipush (v := (20 : Int32)) dX11_text_419 (by decide) ?_
  refine r_isub dX11_text_421 ?_
  refine r_aaldm (t := 7) (n := 5) (f := (va_up (va_up (va_up (va_up (va_up (fun _ => none) 0 (some (gK g 38))) 1 (some (gK g 39))) 2 (some (gK g 40))) 3 (some (gK g 41))) 4 (some (gK g 42)))) (v := .ref (gK g 39)) dX11_text_422 rfl rfl (List.mem_cons_of_mem _ (List.mem_cons_of_mem _ m1)) (by decide) (by rfl) ?_
  obtain ⟨L465, eL466⟩ : ∃ L9 : List Int32, L9 = L458 ++ kT 39 := ⟨_, rfl⟩
  have bn464 : L465.length ≤ 378 := by rw [eL466]; exact lnA (L := L458) (L2 := kT 39) (n := 377) (n2 := 1) bn457 (Nat.le_of_eq kl_39)
  refine r_room (x2 := ((16 * 2 ^ k - 16) + 8) + 1) (y2 := ((33000 * 2 ^ k - 33000) + 24876) + 4002) (rq rfl) (rq rfl) ?_
  refine k_V (x := ((16 * 2 ^ k - 16) + 8)) (y := ((33000 * 2 ^ k - 33000) + 24876)) (rest := []) 0 dX11_text_423 kv_X11_113 (cj_apK (i := 39) (by decide) eL466 bh456 (Nat.le_trans bn464 (by decide))) rfl rfl rfl rfl (Nat.le_of_ble_eq_true rfl) (by first | exact hd3 | exact hd6 | exact hd7) (by decide) ?_
  rintro ⟨bv460, bm461, bf462⟩ bh463
  try dsimp only at bh463
  show R g mX11_text (k + 1 + 8) ((16 * 2 ^ k - 16) + 8) ((33000 * 2 ^ k - 33000) + 24876) 426 [(4, .ref u4), (3, .ref u3), (2, .ref u2), (1, .ref u1), (0, .ref a)] [.ref q12] ((q12, .inr (13, [.ref bv460, .int (0 : Int32), .int (0 : Int32), .int (nI L465.length)])) :: ((bv460, yA g bm461 bf462) :: t0)) _
  refine r_aload_n 4 dX11_text_426 rfl ?_
  refine r_getm (v := .ref (tA k y)) (ci := 11) (fs := [.int (21 : Int32), .int (nI n), .int (nI o), .ref (tA k x), .ref (tA k y)]) dX11_text_427 fl_X11_59 (List.mem_cons_of_mem _ (List.mem_cons_of_mem _ hoK)) rfl ?_
  obtain ⟨fszz467, hfzz467⟩ := TM.cell k y hmy
  refine r_room (x2 := 8 + (16 * 2 ^ k - 16)) (y2 := 24876 + (33000 * 2 ^ k - 33000)) (Nat.le_of_eq (Nat.add_comm _ _)) (Nat.le_of_eq (Nat.add_comm _ _)) ?_
  refine k_Vm (x := 8) (y := 24876) (rest := [.ref q12]) dX11_text_430 kv_X11_128 (IH y _ (TM.mono (fun p hp => (List.mem_cons_of_mem _ (List.mem_cons_of_mem _ (mt p hp)))) k y hmy) hy) rfl rfl (List.mem_cons_of_mem _ (List.mem_cons_of_mem _ (mt _ hfzz467))) rfl (Nat.le_of_ble_eq_true rfl) (Nat.le_of_eq (Nat.add_right_comm _ _ _)) (by decide) ?_
  rintro zz467 hz468
  refine r_seg (ws2 := ((q12, .inr (13, [.ref bv460, .int (0 : Int32), .int (0 : Int32), .int (nI L465.length)])) :: ((bv460, yA g bm461 bf462) :: ((sw g (txt k y).length zz467) ++ t0)))) [sw g (txt k y).length zz467, [(q12, .inr (13, [.ref bv460, .int (0 : Int32), .int (0 : Int32), .int (nI L465.length)]))], [(bv460, yA g bm461 bf462)], t0] [1, 2, 0, 3] rfl rfl rfl ?_
  obtain ⟨L474, eL475⟩ : ∃ L9 : List Int32, L9 = L465 ++ txt k y := ⟨_, rfl⟩
  have bn473 : L474.length ≤ 755 := by rw [eL475]; exact lnA (L := L465) (L2 := txt k y) (n := 378) (n2 := 377) bn464 (ly)
  refine k_V (x := 7) (y := 20874) (rest := []) 0 dX11_text_433 kv_X11_113 (cj_apX (L2 := txt k y) (z := zz467) hz468 eL475 bh463 (Nat.le_trans bn473 (by decide))) rfl rfl rfl rfl (Nat.le_of_ble_eq_true rfl) (by first | exact hd3 | exact hd6 | exact hd7) (by decide) ?_
  rintro ⟨bv469, bm470, bf471⟩ bh472
  try dsimp only at bh472
  show R g mX11_text (k + 1 + 8) 7 20874 436 [(4, .ref u4), (3, .ref u3), (2, .ref u2), (1, .ref u1), (0, .ref a)] [.ref q12] ((q12, .inr (13, [.ref bv469, .int (0 : Int32), .int (0 : Int32), .int (nI L474.length)])) :: ((bv469, yA g bm470 bf471) :: ((sw g (txt k y).length zz467) ++ t0))) _
  refine r_seg (ws2 := ((q12, .inr (13, [.ref bv469, .int (0 : Int32), .int (0 : Int32), .int (nI L474.length)])) :: ((bv469, yA g bm470 bf471) :: t0))) [[(q12, .inr (13, [.ref bv469, .int (0 : Int32), .int (0 : Int32), .int (nI L474.length)]))], [(bv469, yA g bm470 bf471)], sw g (txt k y).length zz467, t0] [0, 1, 3] rfl rfl rfl ?_
  refine k_V (x := 5) (y := 16868) (rest := []) 0 dX11_text_436 kv_X11_120 (cj_strB bh472) rfl rfl rfl rfl (Nat.le_of_ble_eq_true rfl) (by first | exact hd3 | exact hd6 | exact hd7) (by decide) ?_
  rintro ⟨ts476, tb477, tf478⟩ th479
  try dsimp only at th479
  show R g mX11_text (k + 1 + 8) 5 16868 439 [(4, .ref u4), (3, .ref u3), (2, .ref u2), (1, .ref u1), (0, .ref a)] [.ref ts476] ((ts476, .inr (12, [.ref tb477, .int (0 : Int32), .int (0 : Int32), .int (0 : Int32)])) :: ((tb477, yA g L474.length tf478) :: ((q12, .inr (13, [.ref bv469, .int (0 : Int32), .int (0 : Int32), .int (nI L474.length)])) :: ((bv469, yA g bm470 bf471) :: t0)))) _
  rw [e0]
  refine r_seg (ws2 := ((ts476, .inr (12, [.ref tb477, .int (0 : Int32), .int (0 : Int32), .int (0 : Int32)])) :: ((tb477, yA g L474.length tf478) :: t))) [[(ts476, .inr (12, [.ref tb477, .int (0 : Int32), .int (0 : Int32), .int (0 : Int32)]))], [(tb477, yA g L474.length tf478)], [(q12, .inr (13, [.ref bv469, .int (0 : Int32), .int (0 : Int32), .int (nI L474.length)]))], [(bv469, yA g bm470 bf471)], [(u4, qA g 7 4 (va_up (va_up (va_up (va_up (fun _ => none) 0 (some (gK g 43))) 1 (some (gK g 44))) 2 (some (gK g 45))) 3 (some (gK g 46))))], [(u3, qA g 7 5 (va_up (va_up (va_up (va_up (va_up (fun _ => none) 0 (some (gK g 38))) 1 (some (gK g 39))) 2 (some (gK g 40))) 3 (some (gK g 41))) 4 (some (gK g 42))))], [(u2, qA g 7 6 (va_up (va_up (va_up (va_up (va_up (va_up (fun _ => none) 0 (some (gK g 32))) 1 (some (gK g 33))) 2 (some (gK g 34))) 3 (some (gK g 35))) 4 (some (gK g 36))) 5 (some (gK g 37))))], [(u1, qA g 7 6 (va_up (va_up (va_up (va_up (va_up (va_up (fun _ => none) 0 (some (gK g iE))) 1 (some (gK g 27))) 2 (some (gK g 28))) 3 (some (gK g 29))) 4 (some (gK g 30))) 5 (some (gK g 31))))], t] [0, 1, 8] rfl rfl rfl ?_
  subst eL475
  subst eL466
  subst eL459
  refine r_aret dX11_text_439 rfl rfl (Or.inr ⟨_, rfl⟩) ?_
  exact Dq.mk (Sum.inr (ts476, tb477, tf478)) rfl rfl th479
set_option maxRecDepth 20000 in
set_option maxHeartbeats 8000000 in
theorem tx_22 {g : GG} {ne nt k a n o u1 u2 u3 u4 : Nat} {t t0 : va_W} {x y : TT k} (IH : TextH g ne nt k) (e0 : t0 = ((u4, qA g 7 4 (va_up (va_up (va_up (va_up (fun _ => none) 0 (some (gK g 43))) 1 (some (gK g 44))) 2 (some (gK g 45))) 3 (some (gK g 46)))) :: ((u3, qA g 7 5 (va_up (va_up (va_up (va_up (va_up (fun _ => none) 0 (some (gK g 38))) 1 (some (gK g 39))) 2 (some (gK g 40))) 3 (some (gK g 41))) 4 (some (gK g 42)))) :: ((u2, qA g 7 6 (va_up (va_up (va_up (va_up (va_up (va_up (fun _ => none) 0 (some (gK g 32))) 1 (some (gK g 33))) 2 (some (gK g 34))) 3 (some (gK g 35))) 4 (some (gK g 36))) 5 (some (gK g 37)))) :: ((u1, qA g 7 6 (va_up (va_up (va_up (va_up (va_up (va_up (fun _ => none) 0 (some (gK g iE))) 1 (some (gK g 27))) 2 (some (gK g 28))) 3 (some (gK g 29))) 4 (some (gK g 30))) 5 (some (gK g 31)))) :: t))))) (hk5 : k ≤ 5) (hn : nt ≤ 10) (hne : ne ≤ 10) (ho : (a, .inr (11, [.int (22 : Int32), .int (nI n), .int (nI o), .ref (tA k x), .ref (tA k y)])) ∈ t) (hmx : TM g t k x) (hx : TE ne nt k x ∨ TB ne nt k x) (hmy : TM g t k y) (hy : TE ne nt k y ∨ TB ne nt k y) : R g mX11_text (k + 1 + 8) ((16 * 2 ^ k - 16) + (16 * 2 ^ k - 16) + 12) ((33000 * 2 ^ k - 33000) + (33000 * 2 ^ k - 33000) + 32900) 128 [(4, .ref u4), (3, .ref u3), (2, .ref u2), (1, .ref u1), (0, .ref a)] [] t0 (Dq (fun (z : SZ) => some (sv g z)) (fun z => sw g (((([] : List Int32) ++ (txt k x)) ++ kT 40) ++ (txt k y)).length z ++ t) (fun z => sP (((([] : List Int32) ++ (txt k x)) ++ kT 40) ++ (txt k y)) z)) := by
  have hd3 : 3 + 1 ≤ k + 1 + 8 := by omega
  have hd6 : 6 + 1 ≤ k + 1 + 8 := by omega
  have hd7 : 7 + 1 ≤ k + 1 + 8 := by omega
  have hp5 : 2 ^ k ≤ 32 := Nat.le_trans (Nat.pow_le_pow_right (by decide) hk5) (by decide)
  have hlk : 12 * 2 ^ k - 7 ≤ 377 := by omega
  have lx := Nat.le_trans (txt_len hne hn k x hx) hlk
  have ly := Nat.le_trans (txt_len hne hn k y hy) hlk
  have m0 : (u4, qA g 7 4 (va_up (va_up (va_up (va_up (fun _ => none) 0 (some (gK g 43))) 1 (some (gK g 44))) 2 (some (gK g 45))) 3 (some (gK g 46)))) ∈ t0 := by rw [e0]; exact List.mem_cons_self
  have m1 : (u3, qA g 7 5 (va_up (va_up (va_up (va_up (va_up (fun _ => none) 0 (some (gK g 38))) 1 (some (gK g 39))) 2 (some (gK g 40))) 3 (some (gK g 41))) 4 (some (gK g 42)))) ∈ t0 := by rw [e0]; exact (List.mem_cons_of_mem _ List.mem_cons_self)
  have m2 : (u2, qA g 7 6 (va_up (va_up (va_up (va_up (va_up (va_up (fun _ => none) 0 (some (gK g 32))) 1 (some (gK g 33))) 2 (some (gK g 34))) 3 (some (gK g 35))) 4 (some (gK g 36))) 5 (some (gK g 37)))) ∈ t0 := by rw [e0]; exact (List.mem_cons_of_mem _ (List.mem_cons_of_mem _ List.mem_cons_self))
  have m3 : (u1, qA g 7 6 (va_up (va_up (va_up (va_up (va_up (va_up (fun _ => none) 0 (some (gK g iE))) 1 (some (gK g 27))) 2 (some (gK g 28))) 3 (some (gK g 29))) 4 (some (gK g 30))) 5 (some (gK g 31)))) ∈ t0 := by rw [e0]; exact (List.mem_cons_of_mem _ (List.mem_cons_of_mem _ (List.mem_cons_of_mem _ List.mem_cons_self)))
  have mt : ∀ p ∈ t, p ∈ t0 := fun p hp => by rw [e0]; exact (List.mem_cons_of_mem _ (List.mem_cons_of_mem _ (List.mem_cons_of_mem _ (List.mem_cons_of_mem _ hp))))
  have hoK := mt _ ho
  refine r_aload_n 4 dX11_text_128 rfl ?_
  refine r_getm (v := .int (22 : Int32)) (ci := 11) (fs := [.int (22 : Int32), .int (nI n), .int (nI o), .ref (tA k x), .ref (tA k y)]) dX11_text_129 fl_X11_7 hoK rfl ?_
  refine r_if_ne (tgt := 158) dX11_text_132 (by decide) (fun _ => ?_) (fun hc => absurd hc (by decide))
  refine r_aload_n 4 dX11_text_158 rfl ?_
  refine r_getm (v := .int (22 : Int32)) (ci := 11) (fs := [.int (22 : Int32), .int (nI n), .int (nI o), .ref (tA k x), .ref (tA k y)]) dX11_text_159 fl_X11_7 hoK rfl ?_
  refine r_iconst (v := (4 : Int32)) dX11_text_162 (by decide) ?_
  refine r_icmp_ge (tgt := 173) dX11_text_163 (by decide) (fun _ => ?_) (fun hc => absurd (by decide) hc)
  refine r_aload_n 4 dX11_text_173 rfl ?_
  refine r_getm (v := .int (22 : Int32)) (ci := 11) (fs := [.int (22 : Int32), .int (nI n), .int (nI o), .ref (tA k x), .ref (tA k y)]) dX11_text_174 fl_X11_7 hoK rfl ?_
  refine r_bipush (v := (6 : Int32)) dX11_text_177 (by decide) ?_
  refine r_icmp_ge (tgt := 214) dX11_text_179 (by decide) (fun _ => ?_) (fun hc => absurd (by decide) hc)
  refine r_aload_n 4 dX11_text_214 rfl ?_
  refine r_getm (v := .int (22 : Int32)) (ci := 11) (fs := [.int (22 : Int32), .int (nI n), .int (nI o), .ref (tA k x), .ref (tA k y)]) dX11_text_215 fl_X11_7 hoK rfl ?_
  refine r_bipush (v := (6 : Int32)) dX11_text_218 (by decide) ?_
  refine r_icmp_ne (tgt := 254) dX11_text_220 (by decide) (fun _ => ?_) (fun hc => absurd hc (by decide))
  refine r_aload_n 4 dX11_text_254 rfl ?_
  refine r_getm (v := .int (22 : Int32)) (ci := 11) (fs := [.int (22 : Int32), .int (nI n), .int (nI o), .ref (tA k x), .ref (tA k y)]) dX11_text_255 fl_X11_7 hoK rfl ?_
  refine r_bipush (v := (11 : Int32)) dX11_text_258 (by decide) ?_
  refine r_icmp_ge (tgt := 326) dX11_text_260 (by decide) (fun _ => ?_) (fun hc => absurd (by decide) hc)
  refine r_aload_n 4 dX11_text_326 rfl ?_
  refine r_getm (v := .int (22 : Int32)) (ci := 11) (fs := [.int (22 : Int32), .int (nI n), .int (nI o), .ref (tA k x), .ref (tA k y)]) dX11_text_327 fl_X11_7 hoK rfl ?_
  refine r_bipush (v := (13 : Int32)) dX11_text_330 (by decide) ?_
  refine r_icmp_ge (tgt := 388) dX11_text_332 (by decide) (fun _ => ?_) (fun hc => absurd (by decide) hc)
  refine r_aload_n 4 dX11_text_388 rfl ?_
  refine r_getm (v := .int (22 : Int32)) (ci := 11) (fs := [.int (22 : Int32), .int (nI n), .int (nI o), .ref (tA k x), .ref (tA k y)]) dX11_text_389 fl_X11_7 hoK rfl ?_
  refine r_bipush (v := (25 : Int32)) dX11_text_392 (by decide) ?_
  refine r_icmp_ge (tgt := 440) dX11_text_394 (by decide) (fun hc => absurd hc (by decide)) (fun _ => ?_)
  refine r_new (N := 4) (x := ((16 * 2 ^ k - 16) + (16 * 2 ^ k - 16) + 11)) (y := ((33000 * 2 ^ k - 33000) + (33000 * 2 ^ k - 33000) + 32896)) dX11_text_397 nl_X11_110 (fun q13 => ?_)
  refine r_dup dX11_text_400 rfl ?_
  refine r_room (x2 := ((16 * 2 ^ k - 16) + (16 * 2 ^ k - 16) + 10) + 1) (y2 := ((33000 * 2 ^ k - 33000) + (33000 * 2 ^ k - 33000) + 32880) + 16) (rq rfl) (rq rfl) ?_
  refine k_I (x := ((16 * 2 ^ k - 16) + (16 * 2 ^ k - 16) + 10)) (y := ((33000 * 2 ^ k - 33000) + (33000 * 2 ^ k - 33000) + 32880)) (rest := [.ref q13]) dX11_text_401 ki_X11_112 (cj_sb) rfl rfl (Nat.le_of_ble_eq_true rfl) (by first | exact hd3 | exact hd6 | exact hd7) (by decide) ?_
  rintro bv480 -
  show R g mX11_text (k + 1 + 8) ((16 * 2 ^ k - 16) + (16 * 2 ^ k - 16) + 10) ((33000 * 2 ^ k - 33000) + (33000 * 2 ^ k - 33000) + 32880) 404 [(4, .ref u4), (3, .ref u3), (2, .ref u2), (1, .ref u1), (0, .ref a)] [.ref q13] ((q13, .inr (13, [.ref bv480, .int (0 : Int32), .int (0 : Int32), .int (nI ([] : List Int32).length)])) :: ((bv480, yA g 16 (fun _ => 0)) :: t0)) _
  refine r_aload_n 4 dX11_text_404 rfl ?_
  refine r_getm (v := .ref (tA k x)) (ci := 11) (fs := [.int (22 : Int32), .int (nI n), .int (nI o), .ref (tA k x), .ref (tA k y)]) dX11_text_405 fl_X11_40 (List.mem_cons_of_mem _ (List.mem_cons_of_mem _ hoK)) rfl ?_
  obtain ⟨fszz481, hfzz481⟩ := TM.cell k x hmx
  refine r_room (x2 := ((16 * 2 ^ k - 16) + 10) + (16 * 2 ^ k - 16)) (y2 := ((33000 * 2 ^ k - 33000) + 32880) + (33000 * 2 ^ k - 33000)) (Nat.le_of_eq (Nat.add_right_comm _ _ _)) (Nat.le_of_eq (Nat.add_right_comm _ _ _)) ?_
  refine k_Vm (x := ((16 * 2 ^ k - 16) + 10)) (y := ((33000 * 2 ^ k - 33000) + 32880)) (rest := [.ref q13]) dX11_text_408 kv_X11_128 (IH x _ (TM.mono (fun p hp => (List.mem_cons_of_mem _ (List.mem_cons_of_mem _ (mt p hp)))) k x hmx) hx) rfl rfl (List.mem_cons_of_mem _ (List.mem_cons_of_mem _ (mt _ hfzz481))) rfl (Nat.le_of_ble_eq_true rfl) (Nat.le_of_eq (Nat.add_right_comm _ _ _)) (by decide) ?_
  rintro zz481 hz482
  refine r_seg (ws2 := ((q13, .inr (13, [.ref bv480, .int (0 : Int32), .int (0 : Int32), .int (nI ([] : List Int32).length)])) :: ((bv480, yA g 16 (fun _ => 0)) :: ((sw g (txt k x).length zz481) ++ t0)))) [sw g (txt k x).length zz481, [(q13, .inr (13, [.ref bv480, .int (0 : Int32), .int (0 : Int32), .int (nI ([] : List Int32).length)]))], [(bv480, yA g 16 (fun _ => 0))], t0] [1, 2, 0, 3] rfl rfl rfl ?_
  obtain ⟨L488, eL489⟩ : ∃ L9 : List Int32, L9 = ([] : List Int32) ++ txt k x := ⟨_, rfl⟩
  have bn487 : L488.length ≤ 377 := by rw [eL489]; exact lnA (L := ([] : List Int32)) (L2 := txt k x) (n := 0) (n2 := 377) (Nat.le_refl 0) (lx)
  refine r_room (x2 := ((16 * 2 ^ k - 16) + 9) + 1) (y2 := ((33000 * 2 ^ k - 33000) + 28878) + 4002) (rq rfl) (rq rfl) ?_
  refine k_V (x := ((16 * 2 ^ k - 16) + 9)) (y := ((33000 * 2 ^ k - 33000) + 28878)) (rest := []) 0 dX11_text_411 kv_X11_113 (cj_apX (L2 := txt k x) (z := zz481) hz482 eL489 BL.nil (Nat.le_trans bn487 (by decide))) rfl rfl rfl rfl (Nat.le_of_ble_eq_true rfl) (by first | exact hd3 | exact hd6 | exact hd7) (by decide) ?_
  rintro ⟨bv483, bm484, bf485⟩ bh486
  try dsimp only at bh486
  show R g mX11_text (k + 1 + 8) ((16 * 2 ^ k - 16) + 9) ((33000 * 2 ^ k - 33000) + 28878) 414 [(4, .ref u4), (3, .ref u3), (2, .ref u2), (1, .ref u1), (0, .ref a)] [.ref q13] ((q13, .inr (13, [.ref bv483, .int (0 : Int32), .int (0 : Int32), .int (nI L488.length)])) :: ((bv483, yA g bm484 bf485) :: ((sw g (txt k x).length zz481) ++ t0))) _
  refine r_seg (ws2 := ((q13, .inr (13, [.ref bv483, .int (0 : Int32), .int (0 : Int32), .int (nI L488.length)])) :: ((bv483, yA g bm484 bf485) :: t0))) [[(q13, .inr (13, [.ref bv483, .int (0 : Int32), .int (0 : Int32), .int (nI L488.length)]))], [(bv483, yA g bm484 bf485)], sw g (txt k x).length zz481, t0] [0, 1, 3] rfl rfl rfl ?_
  refine r_aload_n 1 dX11_text_414 rfl ?_
  refine r_aload_n 4 dX11_text_415 rfl ?_
  refine r_getm (v := .int (22 : Int32)) (ci := 11) (fs := [.int (22 : Int32), .int (nI n), .int (nI o), .ref (tA k x), .ref (tA k y)]) dX11_text_416 fl_X11_7 (List.mem_cons_of_mem _ (List.mem_cons_of_mem _ hoK)) rfl ?_
  refine r_bipush (v := (20 : Int32)) dX11_text_419 (by decide) ?_
  refine r_isub dX11_text_421 ?_
  refine r_aaldm (t := 7) (n := 5) (f := (va_up (va_up (va_up (va_up (va_up (fun _ => none) 0 (some (gK g 38))) 1 (some (gK g 39))) 2 (some (gK g 40))) 3 (some (gK g 41))) 4 (some (gK g 42)))) (v := .ref (gK g 40)) dX11_text_422 rfl rfl (List.mem_cons_of_mem _ (List.mem_cons_of_mem _ m1)) (by decide) (by rfl) ?_
  obtain ⟨L495, eL496⟩ : ∃ L9 : List Int32, L9 = L488 ++ kT 40 := ⟨_, rfl⟩
  have bn494 : L495.length ≤ 378 := by rw [eL496]; exact lnA (L := L488) (L2 := kT 40) (n := 377) (n2 := 1) bn487 (Nat.le_of_eq kl_40)
  refine r_room (x2 := ((16 * 2 ^ k - 16) + 8) + 1) (y2 := ((33000 * 2 ^ k - 33000) + 24876) + 4002) (rq rfl) (rq rfl) ?_
  refine k_V (x := ((16 * 2 ^ k - 16) + 8)) (y := ((33000 * 2 ^ k - 33000) + 24876)) (rest := []) 0 dX11_text_423 kv_X11_113 (cj_apK (i := 40) (by decide) eL496 bh486 (Nat.le_trans bn494 (by decide))) rfl rfl rfl rfl (Nat.le_of_ble_eq_true rfl) (by first | exact hd3 | exact hd6 | exact hd7) (by decide) ?_
  rintro ⟨bv490, bm491, bf492⟩ bh493
  try dsimp only at bh493
  show R g mX11_text (k + 1 + 8) ((16 * 2 ^ k - 16) + 8) ((33000 * 2 ^ k - 33000) + 24876) 426 [(4, .ref u4), (3, .ref u3), (2, .ref u2), (1, .ref u1), (0, .ref a)] [.ref q13] ((q13, .inr (13, [.ref bv490, .int (0 : Int32), .int (0 : Int32), .int (nI L495.length)])) :: ((bv490, yA g bm491 bf492) :: t0)) _
  refine r_aload_n 4 dX11_text_426 rfl ?_
  refine r_getm (v := .ref (tA k y)) (ci := 11) (fs := [.int (22 : Int32), .int (nI n), .int (nI o), .ref (tA k x), .ref (tA k y)]) dX11_text_427 fl_X11_59 (List.mem_cons_of_mem _ (List.mem_cons_of_mem _ hoK)) rfl ?_
  obtain ⟨fszz497, hfzz497⟩ := TM.cell k y hmy
  refine r_room (x2 := 8 + (16 * 2 ^ k - 16)) (y2 := 24876 + (33000 * 2 ^ k - 33000)) (Nat.le_of_eq (Nat.add_comm _ _)) (Nat.le_of_eq (Nat.add_comm _ _)) ?_
  refine k_Vm (x := 8) (y := 24876) (rest := [.ref q13]) dX11_text_430 kv_X11_128 (IH y _ (TM.mono (fun p hp => (List.mem_cons_of_mem _ (List.mem_cons_of_mem _ (mt p hp)))) k y hmy) hy) rfl rfl (List.mem_cons_of_mem _ (List.mem_cons_of_mem _ (mt _ hfzz497))) rfl (Nat.le_of_ble_eq_true rfl) (Nat.le_of_eq (Nat.add_right_comm _ _ _)) (by decide) ?_
  rintro zz497 hz498
  refine r_seg (ws2 := ((q13, .inr (13, [.ref bv490, .int (0 : Int32), .int (0 : Int32), .int (nI L495.length)])) :: ((bv490, yA g bm491 bf492) :: ((sw g (txt k y).length zz497) ++ t0)))) [sw g (txt k y).length zz497, [(q13, .inr (13, [.ref bv490, .int (0 : Int32), .int (0 : Int32), .int (nI L495.length)]))], [(bv490, yA g bm491 bf492)], t0] [1, 2, 0, 3] rfl rfl rfl ?_
  obtain ⟨L504, eL505⟩ : ∃ L9 : List Int32, L9 = L495 ++ txt k y := ⟨_, rfl⟩
  have bn503 : L504.length ≤ 755 := by rw [eL505]; exact lnA (L := L495) (L2 := txt k y) (n := 378) (n2 := 377) bn494 (ly)
  refine k_V (x := 7) (y := 20874) (rest := []) 0 dX11_text_433 kv_X11_113 (cj_apX (L2 := txt k y) (z := zz497) hz498 eL505 bh493 (Nat.le_trans bn503 (by decide))) rfl rfl rfl rfl (Nat.le_of_ble_eq_true rfl) (by first | exact hd3 | exact hd6 | exact hd7) (by decide) ?_
  rintro ⟨bv499, bm500, bf501⟩ bh502
  try dsimp only at bh502
  show R g mX11_text (k + 1 + 8) 7 20874 436 [(4, .ref u4), (3, .ref u3), (2, .ref u2), (1, .ref u1), (0, .ref a)] [.ref q13] ((q13, .inr (13, [.ref bv499, .int (0 : Int32), .int (0 : Int32), .int (nI L504.length)])) :: ((bv499, yA g bm500 bf501) :: ((sw g (txt k y).length zz497) ++ t0))) _
  refine r_seg (ws2 := ((q13, .inr (13, [.ref bv499, .int (0 : Int32), .int (0 : Int32), .int (nI L504.length)])) :: ((bv499, yA g bm500 bf501) :: t0))) [[(q13, .inr (13, [.ref bv499, .int (0 : Int32), .int (0 : Int32), .int (nI L504.length)]))], [(bv499, yA g bm500 bf501)], sw g (txt k y).length zz497, t0] [0, 1, 3] rfl rfl rfl ?_
  refine k_V (x := 5) (y := 16868) (rest := []) 0 dX11_text_436 kv_X11_120 (cj_strB bh502) rfl rfl rfl rfl (Nat.le_of_ble_eq_true rfl) (by first | exact hd3 | exact hd6 | exact hd7) (by decide) ?_
  rintro ⟨ts506, tb507, tf508⟩ th509
  try dsimp only at th509
  show R g mX11_text (k + 1 + 8) 5 16868 439 [(4, .ref u4), (3, .ref u3), (2, .ref u2), (1, .ref u1), (0, .ref a)] [.ref ts506] ((ts506, .inr (12, [.ref tb507, .int (0 : Int32), .int (0 : Int32), .int (0 : Int32)])) :: ((tb507, yA g L504.length tf508) :: ((q13, .inr (13, [.ref bv499, .int (0 : Int32), .int (0 : Int32), .int (nI L504.length)])) :: ((bv499, yA g bm500 bf501) :: t0)))) _
  rw [e0]
  refine r_seg (ws2 := ((ts506, .inr (12, [.ref tb507, .int (0 : Int32), .int (0 : Int32), .int (0 : Int32)])) :: ((tb507, yA g L504.length tf508) :: t))) [[(ts506, .inr (12, [.ref tb507, .int (0 : Int32), .int (0 : Int32), .int (0 : Int32)]))], [(tb507, yA g L504.length tf508)], [(q13, .inr (13, [.ref bv499, .int (0 : Int32), .int (0 : Int32), .int (nI L504.length)]))], [(bv499, yA g bm500 bf501)], [(u4, qA g 7 4 (va_up (va_up (va_up (va_up (fun _ => none) 0 (some (gK g 43))) 1 (some (gK g 44))) 2 (some (gK g 45))) 3 (some (gK g 46))))], [(u3, qA g 7 5 (va_up (va_up (va_up (va_up (va_up (fun _ => none) 0 (some (gK g 38))) 1 (some (gK g 39))) 2 (some (gK g 40))) 3 (some (gK g 41))) 4 (some (gK g 42))))], [(u2, qA g 7 6 (va_up (va_up (va_up (va_up (va_up (va_up (fun _ => none) 0 (some (gK g 32))) 1 (some (gK g 33))) 2 (some (gK g 34))) 3 (some (gK g 35))) 4 (some (gK g 36))) 5 (some (gK g 37))))], [(u1, qA g 7 6 (va_up (va_up (va_up (va_up (va_up (va_up (fun _ => none) 0 (some (gK g iE))) 1 (some (gK g 27))) 2 (some (gK g 28))) 3 (some (gK g 29))) 4 (some (gK g 30))) 5 (some (gK g 31))))], t] [0, 1, 8] rfl rfl rfl ?_
  subst eL505
  subst eL496
  subst eL489
  refine r_aret dX11_text_439 rfl rfl (Or.inr ⟨_, rfl⟩) ?_
  exact Dq.mk (Sum.inr (ts506, tb507, tf508)) rfl rfl th509
set_option maxRecDepth 20000 in
set_option maxHeartbeats 8000000 in
theorem tx_23 {g : GG} {ne nt k a n o u1 u2 u3 u4 : Nat} {t t0 : va_W} {x y : TT k} (IH : TextH g ne nt k) (e0 : t0 = ((u4, qA g 7 4 (va_up (va_up (va_up (va_up (fun _ => none) 0 (some (gK g 43))) 1 (some (gK g 44))) 2 (some (gK g 45))) 3 (some (gK g 46)))) :: ((u3, qA g 7 5 (va_up (va_up (va_up (va_up (va_up (fun _ => none) 0 (some (gK g 38))) 1 (some (gK g 39))) 2 (some (gK g 40))) 3 (some (gK g 41))) 4 (some (gK g 42)))) :: ((u2, qA g 7 6 (va_up (va_up (va_up (va_up (va_up (va_up (fun _ => none) 0 (some (gK g 32))) 1 (some (gK g 33))) 2 (some (gK g 34))) 3 (some (gK g 35))) 4 (some (gK g 36))) 5 (some (gK g 37)))) :: ((u1, qA g 7 6 (va_up (va_up (va_up (va_up (va_up (va_up (fun _ => none) 0 (some (gK g iE))) 1 (some (gK g 27))) 2 (some (gK g 28))) 3 (some (gK g 29))) 4 (some (gK g 30))) 5 (some (gK g 31)))) :: t))))) (hk5 : k ≤ 5) (hn : nt ≤ 10) (hne : ne ≤ 10) (ho : (a, .inr (11, [.int (23 : Int32), .int (nI n), .int (nI o), .ref (tA k x), .ref (tA k y)])) ∈ t) (hmx : TM g t k x) (hx : TE ne nt k x ∨ TB ne nt k x) (hmy : TM g t k y) (hy : TE ne nt k y ∨ TB ne nt k y) : R g mX11_text (k + 1 + 8) ((16 * 2 ^ k - 16) + (16 * 2 ^ k - 16) + 12) ((33000 * 2 ^ k - 33000) + (33000 * 2 ^ k - 33000) + 32900) 128 [(4, .ref u4), (3, .ref u3), (2, .ref u2), (1, .ref u1), (0, .ref a)] [] t0 (Dq (fun (z : SZ) => some (sv g z)) (fun z => sw g (((([] : List Int32) ++ (txt k x)) ++ kT 41) ++ (txt k y)).length z ++ t) (fun z => sP (((([] : List Int32) ++ (txt k x)) ++ kT 41) ++ (txt k y)) z)) := by
  have hd3 : 3 + 1 ≤ k + 1 + 8 := by omega
  have hd6 : 6 + 1 ≤ k + 1 + 8 := by omega
  have hd7 : 7 + 1 ≤ k + 1 + 8 := by omega
  have hp5 : 2 ^ k ≤ 32 := Nat.le_trans (Nat.pow_le_pow_right (by decide) hk5) (by decide)
  have hlk : 12 * 2 ^ k - 7 ≤ 377 := by omega
  have lx := Nat.le_trans (txt_len hne hn k x hx) hlk
  have ly := Nat.le_trans (txt_len hne hn k y hy) hlk
  have m0 : (u4, qA g 7 4 (va_up (va_up (va_up (va_up (fun _ => none) 0 (some (gK g 43))) 1 (some (gK g 44))) 2 (some (gK g 45))) 3 (some (gK g 46)))) ∈ t0 := by rw [e0]; exact List.mem_cons_self
  have m1 : (u3, qA g 7 5 (va_up (va_up (va_up (va_up (va_up (fun _ => none) 0 (some (gK g 38))) 1 (some (gK g 39))) 2 (some (gK g 40))) 3 (some (gK g 41))) 4 (some (gK g 42)))) ∈ t0 := by rw [e0]; exact (List.mem_cons_of_mem _ List.mem_cons_self)
  have m2 : (u2, qA g 7 6 (va_up (va_up (va_up (va_up (va_up (va_up (fun _ => none) 0 (some (gK g 32))) 1 (some (gK g 33))) 2 (some (gK g 34))) 3 (some (gK g 35))) 4 (some (gK g 36))) 5 (some (gK g 37)))) ∈ t0 := by rw [e0]; exact (List.mem_cons_of_mem _ (List.mem_cons_of_mem _ List.mem_cons_self))
  have m3 : (u1, qA g 7 6 (va_up (va_up (va_up (va_up (va_up (va_up (fun _ => none) 0 (some (gK g iE))) 1 (some (gK g 27))) 2 (some (gK g 28))) 3 (some (gK g 29))) 4 (some (gK g 30))) 5 (some (gK g 31)))) ∈ t0 := by rw [e0]; exact (List.mem_cons_of_mem _ (List.mem_cons_of_mem _ (List.mem_cons_of_mem _ List.mem_cons_self)))
  have mt : ∀ p ∈ t, p ∈ t0 := fun p hp => by rw [e0]; exact (List.mem_cons_of_mem _ (List.mem_cons_of_mem _ (List.mem_cons_of_mem _ (List.mem_cons_of_mem _ hp))))
  have hoK := mt _ ho
  refine r_aload_n 4 dX11_text_128 rfl ?_
  refine r_getm (v := .int (23 : Int32)) (ci := 11) (fs := [.int (23 : Int32), .int (nI n), .int (nI o), .ref (tA k x), .ref (tA k y)]) dX11_text_129 fl_X11_7 hoK rfl ?_
  refine r_if_ne (tgt := 158) dX11_text_132 (by decide) (fun _ => ?_) (fun hc => absurd hc (by decide))
  refine r_aload_n 4 dX11_text_158 rfl ?_
  refine r_getm (v := .int (23 : Int32)) (ci := 11) (fs := [.int (23 : Int32), .int (nI n), .int (nI o), .ref (tA k x), .ref (tA k y)]) dX11_text_159 fl_X11_7 hoK rfl ?_
  refine r_iconst (v := (4 : Int32)) dX11_text_162 (by decide) ?_
  refine r_icmp_ge (tgt := 173) dX11_text_163 (by decide) (fun _ => ?_) (fun hc => absurd (by decide) hc)
  refine r_aload_n 4 dX11_text_173 rfl ?_
  refine r_getm (v := .int (23 : Int32)) (ci := 11) (fs := [.int (23 : Int32), .int (nI n), .int (nI o), .ref (tA k x), .ref (tA k y)]) dX11_text_174 fl_X11_7 hoK rfl ?_
  refine r_bipush (v := (6 : Int32)) dX11_text_177 (by decide) ?_
  refine r_icmp_ge (tgt := 214) dX11_text_179 (by decide) (fun _ => ?_) (fun hc => absurd (by decide) hc)
  refine r_aload_n 4 dX11_text_214 rfl ?_
  refine r_getm (v := .int (23 : Int32)) (ci := 11) (fs := [.int (23 : Int32), .int (nI n), .int (nI o), .ref (tA k x), .ref (tA k y)]) dX11_text_215 fl_X11_7 hoK rfl ?_
  refine r_bipush (v := (6 : Int32)) dX11_text_218 (by decide) ?_
  refine r_icmp_ne (tgt := 254) dX11_text_220 (by decide) (fun _ => ?_) (fun hc => absurd hc (by decide))
  refine r_aload_n 4 dX11_text_254 rfl ?_
  refine r_getm (v := .int (23 : Int32)) (ci := 11) (fs := [.int (23 : Int32), .int (nI n), .int (nI o), .ref (tA k x), .ref (tA k y)]) dX11_text_255 fl_X11_7 hoK rfl ?_
  refine r_bipush (v := (11 : Int32)) dX11_text_258 (by decide) ?_
  refine r_icmp_ge (tgt := 326) dX11_text_260 (by decide) (fun _ => ?_) (fun hc => absurd (by decide) hc)
  refine r_aload_n 4 dX11_text_326 rfl ?_
  refine r_getm (v := .int (23 : Int32)) (ci := 11) (fs := [.int (23 : Int32), .int (nI n), .int (nI o), .ref (tA k x), .ref (tA k y)]) dX11_text_327 fl_X11_7 hoK rfl ?_
  refine r_bipush (v := (13 : Int32)) dX11_text_330 (by decide) ?_
  refine r_icmp_ge (tgt := 388) dX11_text_332 (by decide) (fun _ => ?_) (fun hc => absurd (by decide) hc)
  refine r_aload_n 4 dX11_text_388 rfl ?_
  refine r_getm (v := .int (23 : Int32)) (ci := 11) (fs := [.int (23 : Int32), .int (nI n), .int (nI o), .ref (tA k x), .ref (tA k y)]) dX11_text_389 fl_X11_7 hoK rfl ?_
  refine r_bipush (v := (25 : Int32)) dX11_text_392 (by decide) ?_
  refine r_icmp_ge (tgt := 440) dX11_text_394 (by decide) (fun hc => absurd hc (by decide)) (fun _ => ?_)
  refine r_new (N := 4) (x := ((16 * 2 ^ k - 16) + (16 * 2 ^ k - 16) + 11)) (y := ((33000 * 2 ^ k - 33000) + (33000 * 2 ^ k - 33000) + 32896)) dX11_text_397 nl_X11_110 (fun q14 => ?_)
  refine r_dup dX11_text_400 rfl ?_
  refine r_room (x2 := ((16 * 2 ^ k - 16) + (16 * 2 ^ k - 16) + 10) + 1) (y2 := ((33000 * 2 ^ k - 33000) + (33000 * 2 ^ k - 33000) + 32880) + 16) (rq rfl) (rq rfl) ?_
  refine k_I (x := ((16 * 2 ^ k - 16) + (16 * 2 ^ k - 16) + 10)) (y := ((33000 * 2 ^ k - 33000) + (33000 * 2 ^ k - 33000) + 32880)) (rest := [.ref q14]) dX11_text_401 ki_X11_112 (cj_sb) rfl rfl (Nat.le_of_ble_eq_true rfl) (by first | exact hd3 | exact hd6 | exact hd7) (by decide) ?_
  rintro bv510 -
  show R g mX11_text (k + 1 + 8) ((16 * 2 ^ k - 16) + (16 * 2 ^ k - 16) + 10) ((33000 * 2 ^ k - 33000) + (33000 * 2 ^ k - 33000) + 32880) 404 [(4, .ref u4), (3, .ref u3), (2, .ref u2), (1, .ref u1), (0, .ref a)] [.ref q14] ((q14, .inr (13, [.ref bv510, .int (0 : Int32), .int (0 : Int32), .int (nI ([] : List Int32).length)])) :: ((bv510, yA g 16 (fun _ => 0)) :: t0)) _
  refine r_aload_n 4 dX11_text_404 rfl ?_
  refine r_getm (v := .ref (tA k x)) (ci := 11) (fs := [.int (23 : Int32), .int (nI n), .int (nI o), .ref (tA k x), .ref (tA k y)]) dX11_text_405 fl_X11_40 (List.mem_cons_of_mem _ (List.mem_cons_of_mem _ hoK)) rfl ?_
  obtain ⟨fszz511, hfzz511⟩ := TM.cell k x hmx
  refine r_room (x2 := ((16 * 2 ^ k - 16) + 10) + (16 * 2 ^ k - 16)) (y2 := ((33000 * 2 ^ k - 33000) + 32880) + (33000 * 2 ^ k - 33000)) (Nat.le_of_eq (Nat.add_right_comm _ _ _)) (Nat.le_of_eq (Nat.add_right_comm _ _ _)) ?_
  refine k_Vm (x := ((16 * 2 ^ k - 16) + 10)) (y := ((33000 * 2 ^ k - 33000) + 32880)) (rest := [.ref q14]) dX11_text_408 kv_X11_128 (IH x _ (TM.mono (fun p hp => (List.mem_cons_of_mem _ (List.mem_cons_of_mem _ (mt p hp)))) k x hmx) hx) rfl rfl (List.mem_cons_of_mem _ (List.mem_cons_of_mem _ (mt _ hfzz511))) rfl (Nat.le_of_ble_eq_true rfl) (Nat.le_of_eq (Nat.add_right_comm _ _ _)) (by decide) ?_
  rintro zz511 hz512
  refine r_seg (ws2 := ((q14, .inr (13, [.ref bv510, .int (0 : Int32), .int (0 : Int32), .int (nI ([] : List Int32).length)])) :: ((bv510, yA g 16 (fun _ => 0)) :: ((sw g (txt k x).length zz511) ++ t0)))) [sw g (txt k x).length zz511, [(q14, .inr (13, [.ref bv510, .int (0 : Int32), .int (0 : Int32), .int (nI ([] : List Int32).length)]))], [(bv510, yA g 16 (fun _ => 0))], t0] [1, 2, 0, 3] rfl rfl rfl ?_
  obtain ⟨L518, eL519⟩ : ∃ L9 : List Int32, L9 = ([] : List Int32) ++ txt k x := ⟨_, rfl⟩
  have bn517 : L518.length ≤ 377 := by rw [eL519]; exact lnA (L := ([] : List Int32)) (L2 := txt k x) (n := 0) (n2 := 377) (Nat.le_refl 0) (lx)
  refine r_room (x2 := ((16 * 2 ^ k - 16) + 9) + 1) (y2 := ((33000 * 2 ^ k - 33000) + 28878) + 4002) (rq rfl) (rq rfl) ?_
  refine k_V (x := ((16 * 2 ^ k - 16) + 9)) (y := ((33000 * 2 ^ k - 33000) + 28878)) (rest := []) 0 dX11_text_411 kv_X11_113 (cj_apX (L2 := txt k x) (z := zz511) hz512 eL519 BL.nil (Nat.le_trans bn517 (by decide))) rfl rfl rfl rfl (Nat.le_of_ble_eq_true rfl) (by first | exact hd3 | exact hd6 | exact hd7) (by decide) ?_
  rintro ⟨bv513, bm514, bf515⟩ bh516
  try dsimp only at bh516
  show R g mX11_text (k + 1 + 8) ((16 * 2 ^ k - 16) + 9) ((33000 * 2 ^ k - 33000) + 28878) 414 [(4, .ref u4), (3, .ref u3), (2, .ref u2), (1, .ref u1), (0, .ref a)] [.ref q14] ((q14, .inr (13, [.ref bv513, .int (0 : Int32), .int (0 : Int32), .int (nI L518.length)])) :: ((bv513, yA g bm514 bf515) :: ((sw g (txt k x).length zz511) ++ t0))) _
  refine r_seg (ws2 := ((q14, .inr (13, [.ref bv513, .int (0 : Int32), .int (0 : Int32), .int (nI L518.length)])) :: ((bv513, yA g bm514 bf515) :: t0))) [[(q14, .inr (13, [.ref bv513, .int (0 : Int32), .int (0 : Int32), .int (nI L518.length)]))], [(bv513, yA g bm514 bf515)], sw g (txt k x).length zz511, t0] [0, 1, 3] rfl rfl rfl ?_
  refine r_aload_n 1 dX11_text_414 rfl ?_
  refine r_aload_n 4 dX11_text_415 rfl ?_
  refine r_getm (v := .int (23 : Int32)) (ci := 11) (fs := [.int (23 : Int32), .int (nI n), .int (nI o), .ref (tA k x), .ref (tA k y)]) dX11_text_416 fl_X11_7 (List.mem_cons_of_mem _ (List.mem_cons_of_mem _ hoK)) rfl ?_
  refine r_bipush (v := (20 : Int32)) dX11_text_419 (by decide) ?_
  refine r_isub dX11_text_421 ?_
  refine r_aaldm (t := 7) (n := 5) (f := (va_up (va_up (va_up (va_up (va_up (fun _ => none) 0 (some (gK g 38))) 1 (some (gK g 39))) 2 (some (gK g 40))) 3 (some (gK g 41))) 4 (some (gK g 42)))) (v := .ref (gK g 41)) dX11_text_422 rfl rfl (List.mem_cons_of_mem _ (List.mem_cons_of_mem _ m1)) (by decide) (by rfl) ?_
  obtain ⟨L525, eL526⟩ : ∃ L9 : List Int32, L9 = L518 ++ kT 41 := ⟨_, rfl⟩
  have bn524 : L525.length ≤ 379 := by rw [eL526]; exact lnA (L := L518) (L2 := kT 41) (n := 377) (n2 := 2) bn517 (Nat.le_of_eq kl_41)
  refine r_room (x2 := ((16 * 2 ^ k - 16) + 8) + 1) (y2 := ((33000 * 2 ^ k - 33000) + 24876) + 4002) (rq rfl) (rq rfl) ?_
  refine k_V (x := ((16 * 2 ^ k - 16) + 8)) (y := ((33000 * 2 ^ k - 33000) + 24876)) (rest := []) 0 dX11_text_423 kv_X11_113 (cj_apK (i := 41) (by decide) eL526 bh516 (Nat.le_trans bn524 (by decide))) rfl rfl rfl rfl (Nat.le_of_ble_eq_true rfl) (by first | exact hd3 | exact hd6 | exact hd7) (by decide) ?_
  rintro ⟨bv520, bm521, bf522⟩ bh523
  try dsimp only at bh523
  show R g mX11_text (k + 1 + 8) ((16 * 2 ^ k - 16) + 8) ((33000 * 2 ^ k - 33000) + 24876) 426 [(4, .ref u4), (3, .ref u3), (2, .ref u2), (1, .ref u1), (0, .ref a)] [.ref q14] ((q14, .inr (13, [.ref bv520, .int (0 : Int32), .int (0 : Int32), .int (nI L525.length)])) :: ((bv520, yA g bm521 bf522) :: t0)) _
  refine r_aload_n 4 dX11_text_426 rfl ?_
  refine r_getm (v := .ref (tA k y)) (ci := 11) (fs := [.int (23 : Int32), .int (nI n), .int (nI o), .ref (tA k x), .ref (tA k y)]) dX11_text_427 fl_X11_59 (List.mem_cons_of_mem _ (List.mem_cons_of_mem _ hoK)) rfl ?_
  obtain ⟨fszz527, hfzz527⟩ := TM.cell k y hmy
  refine r_room (x2 := 8 + (16 * 2 ^ k - 16)) (y2 := 24876 + (33000 * 2 ^ k - 33000)) (Nat.le_of_eq (Nat.add_comm _ _)) (Nat.le_of_eq (Nat.add_comm _ _)) ?_
  refine k_Vm (x := 8) (y := 24876) (rest := [.ref q14]) dX11_text_430 kv_X11_128 (IH y _ (TM.mono (fun p hp => (List.mem_cons_of_mem _ (List.mem_cons_of_mem _ (mt p hp)))) k y hmy) hy) rfl rfl (List.mem_cons_of_mem _ (List.mem_cons_of_mem _ (mt _ hfzz527))) rfl (Nat.le_of_ble_eq_true rfl) (Nat.le_of_eq (Nat.add_right_comm _ _ _)) (by decide) ?_
  rintro zz527 hz528
  refine r_seg (ws2 := ((q14, .inr (13, [.ref bv520, .int (0 : Int32), .int (0 : Int32), .int (nI L525.length)])) :: ((bv520, yA g bm521 bf522) :: ((sw g (txt k y).length zz527) ++ t0)))) [sw g (txt k y).length zz527, [(q14, .inr (13, [.ref bv520, .int (0 : Int32), .int (0 : Int32), .int (nI L525.length)]))], [(bv520, yA g bm521 bf522)], t0] [1, 2, 0, 3] rfl rfl rfl ?_
  obtain ⟨L534, eL535⟩ : ∃ L9 : List Int32, L9 = L525 ++ txt k y := ⟨_, rfl⟩
  have bn533 : L534.length ≤ 756 := by rw [eL535]; exact lnA (L := L525) (L2 := txt k y) (n := 379) (n2 := 377) bn524 (ly)
  refine k_V (x := 7) (y := 20874) (rest := []) 0 dX11_text_433 kv_X11_113 (cj_apX (L2 := txt k y) (z := zz527) hz528 eL535 bh523 (Nat.le_trans bn533 (by decide))) rfl rfl rfl rfl (Nat.le_of_ble_eq_true rfl) (by first | exact hd3 | exact hd6 | exact hd7) (by decide) ?_
  rintro ⟨bv529, bm530, bf531⟩ bh532
  try dsimp only at bh532
  show R g mX11_text (k + 1 + 8) 7 20874 436 [(4, .ref u4), (3, .ref u3), (2, .ref u2), (1, .ref u1), (0, .ref a)] [.ref q14] ((q14, .inr (13, [.ref bv529, .int (0 : Int32), .int (0 : Int32), .int (nI L534.length)])) :: ((bv529, yA g bm530 bf531) :: ((sw g (txt k y).length zz527) ++ t0))) _
  refine r_seg (ws2 := ((q14, .inr (13, [.ref bv529, .int (0 : Int32), .int (0 : Int32), .int (nI L534.length)])) :: ((bv529, yA g bm530 bf531) :: t0))) [[(q14, .inr (13, [.ref bv529, .int (0 : Int32), .int (0 : Int32), .int (nI L534.length)]))], [(bv529, yA g bm530 bf531)], sw g (txt k y).length zz527, t0] [0, 1, 3] rfl rfl rfl ?_
  refine k_V (x := 5) (y := 16868) (rest := []) 0 dX11_text_436 kv_X11_120 (cj_strB bh532) rfl rfl rfl rfl (Nat.le_of_ble_eq_true rfl) (by first | exact hd3 | exact hd6 | exact hd7) (by decide) ?_
  rintro ⟨ts536, tb537, tf538⟩ th539
  try dsimp only at th539
  show R g mX11_text (k + 1 + 8) 5 16868 439 [(4, .ref u4), (3, .ref u3), (2, .ref u2), (1, .ref u1), (0, .ref a)] [.ref ts536] ((ts536, .inr (12, [.ref tb537, .int (0 : Int32), .int (0 : Int32), .int (0 : Int32)])) :: ((tb537, yA g L534.length tf538) :: ((q14, .inr (13, [.ref bv529, .int (0 : Int32), .int (0 : Int32), .int (nI L534.length)])) :: ((bv529, yA g bm530 bf531) :: t0)))) _
  rw [e0]
  refine r_seg (ws2 := ((ts536, .inr (12, [.ref tb537, .int (0 : Int32), .int (0 : Int32), .int (0 : Int32)])) :: ((tb537, yA g L534.length tf538) :: t))) [[(ts536, .inr (12, [.ref tb537, .int (0 : Int32), .int (0 : Int32), .int (0 : Int32)]))], [(tb537, yA g L534.length tf538)], [(q14, .inr (13, [.ref bv529, .int (0 : Int32), .int (0 : Int32), .int (nI L534.length)]))], [(bv529, yA g bm530 bf531)], [(u4, qA g 7 4 (va_up (va_up (va_up (va_up (fun _ => none) 0 (some (gK g 43))) 1 (some (gK g 44))) 2 (some (gK g 45))) 3 (some (gK g 46))))], [(u3, qA g 7 5 (va_up (va_up (va_up (va_up (va_up (fun _ => none) 0 (some (gK g 38))) 1 (some (gK g 39))) 2 (some (gK g 40))) 3 (some (gK g 41))) 4 (some (gK g 42))))], [(u2, qA g 7 6 (va_up (va_up (va_up (va_up (va_up (va_up (fun _ => none) 0 (some (gK g 32))) 1 (some (gK g 33))) 2 (some (gK g 34))) 3 (some (gK g 35))) 4 (some (gK g 36))) 5 (some (gK g 37))))], [(u1, qA g 7 6 (va_up (va_up (va_up (va_up (va_up (va_up (fun _ => none) 0 (some (gK g iE))) 1 (some (gK g 27))) 2 (some (gK g 28))) 3 (some (gK g 29))) 4 (some (gK g 30))) 5 (some (gK g 31))))], t] [0, 1, 8] rfl rfl rfl ?_
  subst eL535
  subst eL526
  subst eL519
  refine r_aret dX11_text_439 rfl rfl (Or.inr ⟨_, rfl⟩) ?_
  exact Dq.mk (Sum.inr (ts536, tb537, tf538)) rfl rfl th539
set_option maxRecDepth 20000 in
set_option maxHeartbeats 8000000 in
theorem tx_24 {g : GG} {ne nt k a n o u1 u2 u3 u4 : Nat} {t t0 : va_W} {x y : TT k} (IH : TextH g ne nt k) (e0 : t0 = ((u4, qA g 7 4 (va_up (va_up (va_up (va_up (fun _ => none) 0 (some (gK g 43))) 1 (some (gK g 44))) 2 (some (gK g 45))) 3 (some (gK g 46)))) :: ((u3, qA g 7 5 (va_up (va_up (va_up (va_up (va_up (fun _ => none) 0 (some (gK g 38))) 1 (some (gK g 39))) 2 (some (gK g 40))) 3 (some (gK g 41))) 4 (some (gK g 42)))) :: ((u2, qA g 7 6 (va_up (va_up (va_up (va_up (va_up (va_up (fun _ => none) 0 (some (gK g 32))) 1 (some (gK g 33))) 2 (some (gK g 34))) 3 (some (gK g 35))) 4 (some (gK g 36))) 5 (some (gK g 37)))) :: ((u1, qA g 7 6 (va_up (va_up (va_up (va_up (va_up (va_up (fun _ => none) 0 (some (gK g iE))) 1 (some (gK g 27))) 2 (some (gK g 28))) 3 (some (gK g 29))) 4 (some (gK g 30))) 5 (some (gK g 31)))) :: t))))) (hk5 : k ≤ 5) (hn : nt ≤ 10) (hne : ne ≤ 10) (ho : (a, .inr (11, [.int (24 : Int32), .int (nI n), .int (nI o), .ref (tA k x), .ref (tA k y)])) ∈ t) (hmx : TM g t k x) (hx : TE ne nt k x ∨ TB ne nt k x) (hmy : TM g t k y) (hy : TE ne nt k y ∨ TB ne nt k y) : R g mX11_text (k + 1 + 8) ((16 * 2 ^ k - 16) + (16 * 2 ^ k - 16) + 12) ((33000 * 2 ^ k - 33000) + (33000 * 2 ^ k - 33000) + 32900) 128 [(4, .ref u4), (3, .ref u3), (2, .ref u2), (1, .ref u1), (0, .ref a)] [] t0 (Dq (fun (z : SZ) => some (sv g z)) (fun z => sw g (((([] : List Int32) ++ (txt k x)) ++ kT 42) ++ (txt k y)).length z ++ t) (fun z => sP (((([] : List Int32) ++ (txt k x)) ++ kT 42) ++ (txt k y)) z)) := by
  have hd3 : 3 + 1 ≤ k + 1 + 8 := by omega
  have hd6 : 6 + 1 ≤ k + 1 + 8 := by omega
  have hd7 : 7 + 1 ≤ k + 1 + 8 := by omega
  have hp5 : 2 ^ k ≤ 32 := Nat.le_trans (Nat.pow_le_pow_right (by decide) hk5) (by decide)
  have hlk : 12 * 2 ^ k - 7 ≤ 377 := by omega
  have lx := Nat.le_trans (txt_len hne hn k x hx) hlk
  have ly := Nat.le_trans (txt_len hne hn k y hy) hlk
  have m0 : (u4, qA g 7 4 (va_up (va_up (va_up (va_up (fun _ => none) 0 (some (gK g 43))) 1 (some (gK g 44))) 2 (some (gK g 45))) 3 (some (gK g 46)))) ∈ t0 := by rw [e0]; exact List.mem_cons_self
  have m1 : (u3, qA g 7 5 (va_up (va_up (va_up (va_up (va_up (fun _ => none) 0 (some (gK g 38))) 1 (some (gK g 39))) 2 (some (gK g 40))) 3 (some (gK g 41))) 4 (some (gK g 42)))) ∈ t0 := by rw [e0]; exact (List.mem_cons_of_mem _ List.mem_cons_self)
  have m2 : (u2, qA g 7 6 (va_up (va_up (va_up (va_up (va_up (va_up (fun _ => none) 0 (some (gK g 32))) 1 (some (gK g 33))) 2 (some (gK g 34))) 3 (some (gK g 35))) 4 (some (gK g 36))) 5 (some (gK g 37)))) ∈ t0 := by rw [e0]; exact (List.mem_cons_of_mem _ (List.mem_cons_of_mem _ List.mem_cons_self))
  have m3 : (u1, qA g 7 6 (va_up (va_up (va_up (va_up (va_up (va_up (fun _ => none) 0 (some (gK g iE))) 1 (some (gK g 27))) 2 (some (gK g 28))) 3 (some (gK g 29))) 4 (some (gK g 30))) 5 (some (gK g 31)))) ∈ t0 := by rw [e0]; exact (List.mem_cons_of_mem _ (List.mem_cons_of_mem _ (List.mem_cons_of_mem _ List.mem_cons_self)))
  have mt : ∀ p ∈ t, p ∈ t0 := fun p hp => by rw [e0]; exact (List.mem_cons_of_mem _ (List.mem_cons_of_mem _ (List.mem_cons_of_mem _ (List.mem_cons_of_mem _ hp))))
  have hoK := mt _ ho
  refine r_aload_n 4 dX11_text_128 rfl ?_
  refine r_getm (v := .int (24 : Int32)) (ci := 11) (fs := [.int (24 : Int32), .int (nI n), .int (nI o), .ref (tA k x), .ref (tA k y)]) dX11_text_129 fl_X11_7 hoK rfl ?_
  refine r_if_ne (tgt := 158) dX11_text_132 (by decide) (fun _ => ?_) (fun hc => absurd hc (by decide))
  refine r_aload_n 4 dX11_text_158 rfl ?_
  refine r_getm (v := .int (24 : Int32)) (ci := 11) (fs := [.int (24 : Int32), .int (nI n), .int (nI o), .ref (tA k x), .ref (tA k y)]) dX11_text_159 fl_X11_7 hoK rfl ?_
  refine r_iconst (v := (4 : Int32)) dX11_text_162 (by decide) ?_
  refine r_icmp_ge (tgt := 173) dX11_text_163 (by decide) (fun _ => ?_) (fun hc => absurd (by decide) hc)
  refine r_aload_n 4 dX11_text_173 rfl ?_
  refine r_getm (v := .int (24 : Int32)) (ci := 11) (fs := [.int (24 : Int32), .int (nI n), .int (nI o), .ref (tA k x), .ref (tA k y)]) dX11_text_174 fl_X11_7 hoK rfl ?_
  refine r_bipush (v := (6 : Int32)) dX11_text_177 (by decide) ?_
  refine r_icmp_ge (tgt := 214) dX11_text_179 (by decide) (fun _ => ?_) (fun hc => absurd (by decide) hc)
  refine r_aload_n 4 dX11_text_214 rfl ?_
  refine r_getm (v := .int (24 : Int32)) (ci := 11) (fs := [.int (24 : Int32), .int (nI n), .int (nI o), .ref (tA k x), .ref (tA k y)]) dX11_text_215 fl_X11_7 hoK rfl ?_
  refine r_bipush (v := (6 : Int32)) dX11_text_218 (by decide) ?_
  refine r_icmp_ne (tgt := 254) dX11_text_220 (by decide) (fun _ => ?_) (fun hc => absurd hc (by decide))
  refine r_aload_n 4 dX11_text_254 rfl ?_
  refine r_getm (v := .int (24 : Int32)) (ci := 11) (fs := [.int (24 : Int32), .int (nI n), .int (nI o), .ref (tA k x), .ref (tA k y)]) dX11_text_255 fl_X11_7 hoK rfl ?_
  refine r_bipush (v := (11 : Int32)) dX11_text_258 (by decide) ?_
  refine r_icmp_ge (tgt := 326) dX11_text_260 (by decide) (fun _ => ?_) (fun hc => absurd (by decide) hc)
  refine r_aload_n 4 dX11_text_326 rfl ?_
  refine r_getm (v := .int (24 : Int32)) (ci := 11) (fs := [.int (24 : Int32), .int (nI n), .int (nI o), .ref (tA k x), .ref (tA k y)]) dX11_text_327 fl_X11_7 hoK rfl ?_
  refine r_bipush (v := (13 : Int32)) dX11_text_330 (by decide) ?_
  refine r_icmp_ge (tgt := 388) dX11_text_332 (by decide) (fun _ => ?_) (fun hc => absurd (by decide) hc)
  refine r_aload_n 4 dX11_text_388 rfl ?_
  refine r_getm (v := .int (24 : Int32)) (ci := 11) (fs := [.int (24 : Int32), .int (nI n), .int (nI o), .ref (tA k x), .ref (tA k y)]) dX11_text_389 fl_X11_7 hoK rfl ?_
  refine r_bipush (v := (25 : Int32)) dX11_text_392 (by decide) ?_
  refine r_icmp_ge (tgt := 440) dX11_text_394 (by decide) (fun hc => absurd hc (by decide)) (fun _ => ?_)
  refine r_new (N := 4) (x := ((16 * 2 ^ k - 16) + (16 * 2 ^ k - 16) + 11)) (y := ((33000 * 2 ^ k - 33000) + (33000 * 2 ^ k - 33000) + 32896)) dX11_text_397 nl_X11_110 (fun q15 => ?_)
  refine r_dup dX11_text_400 rfl ?_
  refine r_room (x2 := ((16 * 2 ^ k - 16) + (16 * 2 ^ k - 16) + 10) + 1) (y2 := ((33000 * 2 ^ k - 33000) + (33000 * 2 ^ k - 33000) + 32880) + 16) (rq rfl) (rq rfl) ?_
  refine k_I (x := ((16 * 2 ^ k - 16) + (16 * 2 ^ k - 16) + 10)) (y := ((33000 * 2 ^ k - 33000) + (33000 * 2 ^ k - 33000) + 32880)) (rest := [.ref q15]) dX11_text_401 ki_X11_112 (cj_sb) rfl rfl (Nat.le_of_ble_eq_true rfl) (by first | exact hd3 | exact hd6 | exact hd7) (by decide) ?_
  rintro bv540 -
  show R g mX11_text (k + 1 + 8) ((16 * 2 ^ k - 16) + (16 * 2 ^ k - 16) + 10) ((33000 * 2 ^ k - 33000) + (33000 * 2 ^ k - 33000) + 32880) 404 [(4, .ref u4), (3, .ref u3), (2, .ref u2), (1, .ref u1), (0, .ref a)] [.ref q15] ((q15, .inr (13, [.ref bv540, .int (0 : Int32), .int (0 : Int32), .int (nI ([] : List Int32).length)])) :: ((bv540, yA g 16 (fun _ => 0)) :: t0)) _
  refine r_aload_n 4 dX11_text_404 rfl ?_
  refine r_getm (v := .ref (tA k x)) (ci := 11) (fs := [.int (24 : Int32), .int (nI n), .int (nI o), .ref (tA k x), .ref (tA k y)]) dX11_text_405 fl_X11_40 (List.mem_cons_of_mem _ (List.mem_cons_of_mem _ hoK)) rfl ?_
  obtain ⟨fszz541, hfzz541⟩ := TM.cell k x hmx
  refine r_room (x2 := ((16 * 2 ^ k - 16) + 10) + (16 * 2 ^ k - 16)) (y2 := ((33000 * 2 ^ k - 33000) + 32880) + (33000 * 2 ^ k - 33000)) (Nat.le_of_eq (Nat.add_right_comm _ _ _)) (Nat.le_of_eq (Nat.add_right_comm _ _ _)) ?_
  refine k_Vm (x := ((16 * 2 ^ k - 16) + 10)) (y := ((33000 * 2 ^ k - 33000) + 32880)) (rest := [.ref q15]) dX11_text_408 kv_X11_128 (IH x _ (TM.mono (fun p hp => (List.mem_cons_of_mem _ (List.mem_cons_of_mem _ (mt p hp)))) k x hmx) hx) rfl rfl (List.mem_cons_of_mem _ (List.mem_cons_of_mem _ (mt _ hfzz541))) rfl (Nat.le_of_ble_eq_true rfl) (Nat.le_of_eq (Nat.add_right_comm _ _ _)) (by decide) ?_
  rintro zz541 hz542
  refine r_seg (ws2 := ((q15, .inr (13, [.ref bv540, .int (0 : Int32), .int (0 : Int32), .int (nI ([] : List Int32).length)])) :: ((bv540, yA g 16 (fun _ => 0)) :: ((sw g (txt k x).length zz541) ++ t0)))) [sw g (txt k x).length zz541, [(q15, .inr (13, [.ref bv540, .int (0 : Int32), .int (0 : Int32), .int (nI ([] : List Int32).length)]))], [(bv540, yA g 16 (fun _ => 0))], t0] [1, 2, 0, 3] rfl rfl rfl ?_
  obtain ⟨L548, eL549⟩ : ∃ L9 : List Int32, L9 = ([] : List Int32) ++ txt k x := ⟨_, rfl⟩
  have bn547 : L548.length ≤ 377 := by rw [eL549]; exact lnA (L := ([] : List Int32)) (L2 := txt k x) (n := 0) (n2 := 377) (Nat.le_refl 0) (lx)
  refine r_room (x2 := ((16 * 2 ^ k - 16) + 9) + 1) (y2 := ((33000 * 2 ^ k - 33000) + 28878) + 4002) (rq rfl) (rq rfl) ?_
  refine k_V (x := ((16 * 2 ^ k - 16) + 9)) (y := ((33000 * 2 ^ k - 33000) + 28878)) (rest := []) 0 dX11_text_411 kv_X11_113 (cj_apX (L2 := txt k x) (z := zz541) hz542 eL549 BL.nil (Nat.le_trans bn547 (by decide))) rfl rfl rfl rfl (Nat.le_of_ble_eq_true rfl) (by first | exact hd3 | exact hd6 | exact hd7) (by decide) ?_
  rintro ⟨bv543, bm544, bf545⟩ bh546
  try dsimp only at bh546
  show R g mX11_text (k + 1 + 8) ((16 * 2 ^ k - 16) + 9) ((33000 * 2 ^ k - 33000) + 28878) 414 [(4, .ref u4), (3, .ref u3), (2, .ref u2), (1, .ref u1), (0, .ref a)] [.ref q15] ((q15, .inr (13, [.ref bv543, .int (0 : Int32), .int (0 : Int32), .int (nI L548.length)])) :: ((bv543, yA g bm544 bf545) :: ((sw g (txt k x).length zz541) ++ t0))) _
  refine r_seg (ws2 := ((q15, .inr (13, [.ref bv543, .int (0 : Int32), .int (0 : Int32), .int (nI L548.length)])) :: ((bv543, yA g bm544 bf545) :: t0))) [[(q15, .inr (13, [.ref bv543, .int (0 : Int32), .int (0 : Int32), .int (nI L548.length)]))], [(bv543, yA g bm544 bf545)], sw g (txt k x).length zz541, t0] [0, 1, 3] rfl rfl rfl ?_
  refine r_aload_n 1 dX11_text_414 rfl ?_
  refine r_aload_n 4 dX11_text_415 rfl ?_
  refine r_getm (v := .int (24 : Int32)) (ci := 11) (fs := [.int (24 : Int32), .int (nI n), .int (nI o), .ref (tA k x), .ref (tA k y)]) dX11_text_416 fl_X11_7 (List.mem_cons_of_mem _ (List.mem_cons_of_mem _ hoK)) rfl ?_
  refine r_bipush (v := (20 : Int32)) dX11_text_419 (by decide) ?_
  refine r_isub dX11_text_421 ?_
  refine r_aaldm (t := 7) (n := 5) (f := (va_up (va_up (va_up (va_up (va_up (fun _ => none) 0 (some (gK g 38))) 1 (some (gK g 39))) 2 (some (gK g 40))) 3 (some (gK g 41))) 4 (some (gK g 42)))) (v := .ref (gK g 42)) dX11_text_422 rfl rfl (List.mem_cons_of_mem _ (List.mem_cons_of_mem _ m1)) (by decide) (by rfl) ?_
  obtain ⟨L555, eL556⟩ : ∃ L9 : List Int32, L9 = L548 ++ kT 42 := ⟨_, rfl⟩
  have bn554 : L555.length ≤ 379 := by rw [eL556]; exact lnA (L := L548) (L2 := kT 42) (n := 377) (n2 := 2) bn547 (Nat.le_of_eq kl_42)
  refine r_room (x2 := ((16 * 2 ^ k - 16) + 8) + 1) (y2 := ((33000 * 2 ^ k - 33000) + 24876) + 4002) (rq rfl) (rq rfl) ?_
  refine k_V (x := ((16 * 2 ^ k - 16) + 8)) (y := ((33000 * 2 ^ k - 33000) + 24876)) (rest := []) 0 dX11_text_423 kv_X11_113 (cj_apK (i := 42) (by decide) eL556 bh546 (Nat.le_trans bn554 (by decide))) rfl rfl rfl rfl (Nat.le_of_ble_eq_true rfl) (by first | exact hd3 | exact hd6 | exact hd7) (by decide) ?_
  rintro ⟨bv550, bm551, bf552⟩ bh553
  try dsimp only at bh553
  show R g mX11_text (k + 1 + 8) ((16 * 2 ^ k - 16) + 8) ((33000 * 2 ^ k - 33000) + 24876) 426 [(4, .ref u4), (3, .ref u3), (2, .ref u2), (1, .ref u1), (0, .ref a)] [.ref q15] ((q15, .inr (13, [.ref bv550, .int (0 : Int32), .int (0 : Int32), .int (nI L555.length)])) :: ((bv550, yA g bm551 bf552) :: t0)) _
  refine r_aload_n 4 dX11_text_426 rfl ?_
  refine r_getm (v := .ref (tA k y)) (ci := 11) (fs := [.int (24 : Int32), .int (nI n), .int (nI o), .ref (tA k x), .ref (tA k y)]) dX11_text_427 fl_X11_59 (List.mem_cons_of_mem _ (List.mem_cons_of_mem _ hoK)) rfl ?_
  obtain ⟨fszz557, hfzz557⟩ := TM.cell k y hmy
  refine r_room (x2 := 8 + (16 * 2 ^ k - 16)) (y2 := 24876 + (33000 * 2 ^ k - 33000)) (Nat.le_of_eq (Nat.add_comm _ _)) (Nat.le_of_eq (Nat.add_comm _ _)) ?_
  refine k_Vm (x := 8) (y := 24876) (rest := [.ref q15]) dX11_text_430 kv_X11_128 (IH y _ (TM.mono (fun p hp => (List.mem_cons_of_mem _ (List.mem_cons_of_mem _ (mt p hp)))) k y hmy) hy) rfl rfl (List.mem_cons_of_mem _ (List.mem_cons_of_mem _ (mt _ hfzz557))) rfl (Nat.le_of_ble_eq_true rfl) (Nat.le_of_eq (Nat.add_right_comm _ _ _)) (by decide) ?_
  rintro zz557 hz558
  refine r_seg (ws2 := ((q15, .inr (13, [.ref bv550, .int (0 : Int32), .int (0 : Int32), .int (nI L555.length)])) :: ((bv550, yA g bm551 bf552) :: ((sw g (txt k y).length zz557) ++ t0)))) [sw g (txt k y).length zz557, [(q15, .inr (13, [.ref bv550, .int (0 : Int32), .int (0 : Int32), .int (nI L555.length)]))], [(bv550, yA g bm551 bf552)], t0] [1, 2, 0, 3] rfl rfl rfl ?_
  obtain ⟨L564, eL565⟩ : ∃ L9 : List Int32, L9 = L555 ++ txt k y := ⟨_, rfl⟩
  have bn563 : L564.length ≤ 756 := by rw [eL565]; exact lnA (L := L555) (L2 := txt k y) (n := 379) (n2 := 377) bn554 (ly)
  refine k_V (x := 7) (y := 20874) (rest := []) 0 dX11_text_433 kv_X11_113 (cj_apX (L2 := txt k y) (z := zz557) hz558 eL565 bh553 (Nat.le_trans bn563 (by decide))) rfl rfl rfl rfl (Nat.le_of_ble_eq_true rfl) (by first | exact hd3 | exact hd6 | exact hd7) (by decide) ?_
  rintro ⟨bv559, bm560, bf561⟩ bh562
  try dsimp only at bh562
  show R g mX11_text (k + 1 + 8) 7 20874 436 [(4, .ref u4), (3, .ref u3), (2, .ref u2), (1, .ref u1), (0, .ref a)] [.ref q15] ((q15, .inr (13, [.ref bv559, .int (0 : Int32), .int (0 : Int32), .int (nI L564.length)])) :: ((bv559, yA g bm560 bf561) :: ((sw g (txt k y).length zz557) ++ t0))) _
  refine r_seg (ws2 := ((q15, .inr (13, [.ref bv559, .int (0 : Int32), .int (0 : Int32), .int (nI L564.length)])) :: ((bv559, yA g bm560 bf561) :: t0))) [[(q15, .inr (13, [.ref bv559, .int (0 : Int32), .int (0 : Int32), .int (nI L564.length)]))], [(bv559, yA g bm560 bf561)], sw g (txt k y).length zz557, t0] [0, 1, 3] rfl rfl rfl ?_
  refine k_V (x := 5) (y := 16868) (rest := []) 0 dX11_text_436 kv_X11_120 (cj_strB bh562) rfl rfl rfl rfl (Nat.le_of_ble_eq_true rfl) (by first | exact hd3 | exact hd6 | exact hd7) (by decide) ?_
  rintro ⟨ts566, tb567, tf568⟩ th569
  try dsimp only at th569
  show R g mX11_text (k + 1 + 8) 5 16868 439 [(4, .ref u4), (3, .ref u3), (2, .ref u2), (1, .ref u1), (0, .ref a)] [.ref ts566] ((ts566, .inr (12, [.ref tb567, .int (0 : Int32), .int (0 : Int32), .int (0 : Int32)])) :: ((tb567, yA g L564.length tf568) :: ((q15, .inr (13, [.ref bv559, .int (0 : Int32), .int (0 : Int32), .int (nI L564.length)])) :: ((bv559, yA g bm560 bf561) :: t0)))) _
  rw [e0]
  refine r_seg (ws2 := ((ts566, .inr (12, [.ref tb567, .int (0 : Int32), .int (0 : Int32), .int (0 : Int32)])) :: ((tb567, yA g L564.length tf568) :: t))) [[(ts566, .inr (12, [.ref tb567, .int (0 : Int32), .int (0 : Int32), .int (0 : Int32)]))], [(tb567, yA g L564.length tf568)], [(q15, .inr (13, [.ref bv559, .int (0 : Int32), .int (0 : Int32), .int (nI L564.length)]))], [(bv559, yA g bm560 bf561)], [(u4, qA g 7 4 (va_up (va_up (va_up (va_up (fun _ => none) 0 (some (gK g 43))) 1 (some (gK g 44))) 2 (some (gK g 45))) 3 (some (gK g 46))))], [(u3, qA g 7 5 (va_up (va_up (va_up (va_up (va_up (fun _ => none) 0 (some (gK g 38))) 1 (some (gK g 39))) 2 (some (gK g 40))) 3 (some (gK g 41))) 4 (some (gK g 42))))], [(u2, qA g 7 6 (va_up (va_up (va_up (va_up (va_up (va_up (fun _ => none) 0 (some (gK g 32))) 1 (some (gK g 33))) 2 (some (gK g 34))) 3 (some (gK g 35))) 4 (some (gK g 36))) 5 (some (gK g 37))))], [(u1, qA g 7 6 (va_up (va_up (va_up (va_up (va_up (va_up (fun _ => none) 0 (some (gK g iE))) 1 (some (gK g 27))) 2 (some (gK g 28))) 3 (some (gK g 29))) 4 (some (gK g 30))) 5 (some (gK g 31))))], t] [0, 1, 8] rfl rfl rfl ?_
  subst eL565
  subst eL556
  subst eL549
  refine r_aret dX11_text_439 rfl rfl (Or.inr ⟨_, rfl⟩) ?_
  exact Dq.mk (Sum.inr (ts566, tb567, tf568)) rfl rfl th569
set_option maxRecDepth 20000 in
set_option maxHeartbeats 8000000 in
theorem tx_25 {g : GG} {ne nt k a n o u1 u2 u3 u4 : Nat} {t t0 : va_W}  {vb : Value} {va : Value} (IH : TextH g ne nt k) (e0 : t0 = ((u4, qA g 7 4 (va_up (va_up (va_up (va_up (fun _ => none) 0 (some (gK g 43))) 1 (some (gK g 44))) 2 (some (gK g 45))) 3 (some (gK g 46)))) :: ((u3, qA g 7 5 (va_up (va_up (va_up (va_up (va_up (fun _ => none) 0 (some (gK g 38))) 1 (some (gK g 39))) 2 (some (gK g 40))) 3 (some (gK g 41))) 4 (some (gK g 42)))) :: ((u2, qA g 7 6 (va_up (va_up (va_up (va_up (va_up (va_up (fun _ => none) 0 (some (gK g 32))) 1 (some (gK g 33))) 2 (some (gK g 34))) 3 (some (gK g 35))) 4 (some (gK g 36))) 5 (some (gK g 37)))) :: ((u1, qA g 7 6 (va_up (va_up (va_up (va_up (va_up (va_up (fun _ => none) 0 (some (gK g iE))) 1 (some (gK g 27))) 2 (some (gK g 28))) 3 (some (gK g 29))) 4 (some (gK g 30))) 5 (some (gK g 31)))) :: t))))) (hk5 : k ≤ 5) (hn : nt ≤ 10) (hne : ne ≤ 10) (ho : (a, .inr (11, [.int (25 : Int32), .int (nI n), .int (nI o), va, vb])) ∈ t) (hb : n < 10) (hb2 : o < 10) : R g mX11_text (k + 1 + 8) ((16 * 2 ^ k - 16) + (16 * 2 ^ k - 16) + 12) ((33000 * 2 ^ k - 33000) + (33000 * 2 ^ k - 33000) + 32900) 128 [(4, .ref u4), (3, .ref u3), (2, .ref u2), (1, .ref u1), (0, .ref a)] [] t0 (Dq (fun (z : SZ) => some (sv g z)) (fun z => sw g (((((([] : List Int32) ++ kT 43) ++ dgL n) ++ kT 52) ++ dgL o) ++ kT 47).length z ++ t) (fun z => sP (((((([] : List Int32) ++ kT 43) ++ dgL n) ++ kT 52) ++ dgL o) ++ kT 47) z)) := by
  have hd3 : 3 + 1 ≤ k + 1 + 8 := by omega
  have hd6 : 6 + 1 ≤ k + 1 + 8 := by omega
  have hd7 : 7 + 1 ≤ k + 1 + 8 := by omega
  have m0 : (u4, qA g 7 4 (va_up (va_up (va_up (va_up (fun _ => none) 0 (some (gK g 43))) 1 (some (gK g 44))) 2 (some (gK g 45))) 3 (some (gK g 46)))) ∈ t0 := by rw [e0]; exact List.mem_cons_self
  have m1 : (u3, qA g 7 5 (va_up (va_up (va_up (va_up (va_up (fun _ => none) 0 (some (gK g 38))) 1 (some (gK g 39))) 2 (some (gK g 40))) 3 (some (gK g 41))) 4 (some (gK g 42)))) ∈ t0 := by rw [e0]; exact (List.mem_cons_of_mem _ List.mem_cons_self)
  have m2 : (u2, qA g 7 6 (va_up (va_up (va_up (va_up (va_up (va_up (fun _ => none) 0 (some (gK g 32))) 1 (some (gK g 33))) 2 (some (gK g 34))) 3 (some (gK g 35))) 4 (some (gK g 36))) 5 (some (gK g 37)))) ∈ t0 := by rw [e0]; exact (List.mem_cons_of_mem _ (List.mem_cons_of_mem _ List.mem_cons_self))
  have m3 : (u1, qA g 7 6 (va_up (va_up (va_up (va_up (va_up (va_up (fun _ => none) 0 (some (gK g iE))) 1 (some (gK g 27))) 2 (some (gK g 28))) 3 (some (gK g 29))) 4 (some (gK g 30))) 5 (some (gK g 31)))) ∈ t0 := by rw [e0]; exact (List.mem_cons_of_mem _ (List.mem_cons_of_mem _ (List.mem_cons_of_mem _ List.mem_cons_self)))
  have mt : ∀ p ∈ t, p ∈ t0 := fun p hp => by rw [e0]; exact (List.mem_cons_of_mem _ (List.mem_cons_of_mem _ (List.mem_cons_of_mem _ (List.mem_cons_of_mem _ hp))))
  have hoK := mt _ ho
  refine r_aload_n 4 dX11_text_128 rfl ?_
  refine r_getm (v := .int (25 : Int32)) (ci := 11) (fs := [.int (25 : Int32), .int (nI n), .int (nI o), va, vb]) dX11_text_129 fl_X11_7 hoK rfl ?_
  refine r_if_ne (tgt := 158) dX11_text_132 (by decide) (fun _ => ?_) (fun hc => absurd hc (by decide))
  refine r_aload_n 4 dX11_text_158 rfl ?_
  refine r_getm (v := .int (25 : Int32)) (ci := 11) (fs := [.int (25 : Int32), .int (nI n), .int (nI o), va, vb]) dX11_text_159 fl_X11_7 hoK rfl ?_
  refine r_iconst (v := (4 : Int32)) dX11_text_162 (by decide) ?_
  refine r_icmp_ge (tgt := 173) dX11_text_163 (by decide) (fun _ => ?_) (fun hc => absurd (by decide) hc)
  refine r_aload_n 4 dX11_text_173 rfl ?_
  refine r_getm (v := .int (25 : Int32)) (ci := 11) (fs := [.int (25 : Int32), .int (nI n), .int (nI o), va, vb]) dX11_text_174 fl_X11_7 hoK rfl ?_
  refine r_bipush (v := (6 : Int32)) dX11_text_177 (by decide) ?_
  refine r_icmp_ge (tgt := 214) dX11_text_179 (by decide) (fun _ => ?_) (fun hc => absurd (by decide) hc)
  refine r_aload_n 4 dX11_text_214 rfl ?_
  refine r_getm (v := .int (25 : Int32)) (ci := 11) (fs := [.int (25 : Int32), .int (nI n), .int (nI o), va, vb]) dX11_text_215 fl_X11_7 hoK rfl ?_
  refine r_bipush (v := (6 : Int32)) dX11_text_218 (by decide) ?_
  refine r_icmp_ne (tgt := 254) dX11_text_220 (by decide) (fun _ => ?_) (fun hc => absurd hc (by decide))
  refine r_aload_n 4 dX11_text_254 rfl ?_
  refine r_getm (v := .int (25 : Int32)) (ci := 11) (fs := [.int (25 : Int32), .int (nI n), .int (nI o), va, vb]) dX11_text_255 fl_X11_7 hoK rfl ?_
  refine r_bipush (v := (11 : Int32)) dX11_text_258 (by decide) ?_
  refine r_icmp_ge (tgt := 326) dX11_text_260 (by decide) (fun _ => ?_) (fun hc => absurd (by decide) hc)
  refine r_aload_n 4 dX11_text_326 rfl ?_
  refine r_getm (v := .int (25 : Int32)) (ci := 11) (fs := [.int (25 : Int32), .int (nI n), .int (nI o), va, vb]) dX11_text_327 fl_X11_7 hoK rfl ?_
  refine r_bipush (v := (13 : Int32)) dX11_text_330 (by decide) ?_
  refine r_icmp_ge (tgt := 388) dX11_text_332 (by decide) (fun _ => ?_) (fun hc => absurd (by decide) hc)
  refine r_aload_n 4 dX11_text_388 rfl ?_
  refine r_getm (v := .int (25 : Int32)) (ci := 11) (fs := [.int (25 : Int32), .int (nI n), .int (nI o), va, vb]) dX11_text_389 fl_X11_7 hoK rfl ?_
  refine r_bipush (v := (25 : Int32)) dX11_text_392 (by decide) ?_
  refine r_icmp_ge (tgt := 440) dX11_text_394 (by decide) (fun _ => ?_) (fun hc => absurd (by decide) hc)
  refine r_aload_n 4 dX11_text_440 rfl ?_
  refine r_getm (v := .int (25 : Int32)) (ci := 11) (fs := [.int (25 : Int32), .int (nI n), .int (nI o), va, vb]) dX11_text_441 fl_X11_7 hoK rfl ?_
  refine r_bipush (v := (25 : Int32)) dX11_text_444 (by decide) ?_
  refine r_icmp_ne (tgt := 491) dX11_text_446 (by decide) (fun hc => absurd (by decide) hc) (fun _ => ?_)
  refine r_new (N := 4) (x := ((16 * 2 ^ k - 16) + (16 * 2 ^ k - 16) + 11)) (y := ((33000 * 2 ^ k - 33000) + (33000 * 2 ^ k - 33000) + 32896)) dX11_text_449 nl_X11_110 (fun q16 => ?_)
  refine r_dup dX11_text_452 rfl ?_
  refine r_room (x2 := ((16 * 2 ^ k - 16) + (16 * 2 ^ k - 16) + 10) + 1) (y2 := ((33000 * 2 ^ k - 33000) + (33000 * 2 ^ k - 33000) + 32880) + 16) (rq rfl) (rq rfl) ?_
  refine k_I (x := ((16 * 2 ^ k - 16) + (16 * 2 ^ k - 16) + 10)) (y := ((33000 * 2 ^ k - 33000) + (33000 * 2 ^ k - 33000) + 32880)) (rest := [.ref q16]) dX11_text_453 ki_X11_112 (cj_sb) rfl rfl (Nat.le_of_ble_eq_true rfl) (by first | exact hd3 | exact hd6 | exact hd7) (by decide) ?_
  rintro bv570 -
  show R g mX11_text (k + 1 + 8) ((16 * 2 ^ k - 16) + (16 * 2 ^ k - 16) + 10) ((33000 * 2 ^ k - 33000) + (33000 * 2 ^ k - 33000) + 32880) 456 [(4, .ref u4), (3, .ref u3), (2, .ref u2), (1, .ref u1), (0, .ref a)] [.ref q16] ((q16, .inr (13, [.ref bv570, .int (0 : Int32), .int (0 : Int32), .int (nI ([] : List Int32).length)])) :: ((bv570, yA g 16 (fun _ => 0)) :: t0)) _
  refine r_aload 0 dX11_text_456 rfl ?_
  refine r_iconst (v := (0 : Int32)) dX11_text_458 (by decide) ?_
  refine r_aaldm (t := 7) (n := 4) (f := (va_up (va_up (va_up (va_up (fun _ => none) 0 (some (gK g 43))) 1 (some (gK g 44))) 2 (some (gK g 45))) 3 (some (gK g 46)))) (v := .ref (gK g 43)) dX11_text_459 rfl rfl (List.mem_cons_of_mem _ (List.mem_cons_of_mem _ m0)) (by decide) (by rfl) ?_
  obtain ⟨L576, eL577⟩ : ∃ L9 : List Int32, L9 = ([] : List Int32) ++ kT 43 := ⟨_, rfl⟩
  have bn575 : L576.length ≤ 12 := by rw [eL577]; exact lnA (L := ([] : List Int32)) (L2 := kT 43) (n := 0) (n2 := 12) (Nat.le_refl 0) (Nat.le_of_eq kl_43)
  refine r_room (x2 := ((16 * 2 ^ k - 16) + (16 * 2 ^ k - 16) + 9) + 1) (y2 := ((33000 * 2 ^ k - 33000) + (33000 * 2 ^ k - 33000) + 28878) + 4002) (rq rfl) (rq rfl) ?_
  refine k_V (x := ((16 * 2 ^ k - 16) + (16 * 2 ^ k - 16) + 9)) (y := ((33000 * 2 ^ k - 33000) + (33000 * 2 ^ k - 33000) + 28878)) (rest := []) 0 dX11_text_460 kv_X11_113 (cj_apK (i := 43) (by decide) eL577 BL.nil (Nat.le_trans bn575 (by decide))) rfl rfl rfl rfl (Nat.le_of_ble_eq_true rfl) (by first | exact hd3 | exact hd6 | exact hd7) (by decide) ?_
  rintro ⟨bv571, bm572, bf573⟩ bh574
  try dsimp only at bh574
  show R g mX11_text (k + 1 + 8) ((16 * 2 ^ k - 16) + (16 * 2 ^ k - 16) + 9) ((33000 * 2 ^ k - 33000) + (33000 * 2 ^ k - 33000) + 28878) 463 [(4, .ref u4), (3, .ref u3), (2, .ref u2), (1, .ref u1), (0, .ref a)] [.ref q16] ((q16, .inr (13, [.ref bv571, .int (0 : Int32), .int (0 : Int32), .int (nI L576.length)])) :: ((bv571, yA g bm572 bf573) :: t0)) _
  refine r_aload_n 4 dX11_text_463 rfl ?_
  refine r_getm (v := .int (nI n)) (ci := 11) (fs := [.int (25 : Int32), .int (nI n), .int (nI o), va, vb]) dX11_text_464 fl_X11_13 (List.mem_cons_of_mem _ (List.mem_cons_of_mem _ hoK)) rfl ?_
  obtain ⟨L583, eL584⟩ : ∃ L9 : List Int32, L9 = L576 ++ dgL n := ⟨_, rfl⟩
  have bn582 : L583.length ≤ 13 := by rw [eL584]; exact lnA (L := L576) (L2 := dgL n) (n := 12) (n2 := 1) bn575 (dgL_t1 hb)
  refine r_room (x2 := ((16 * 2 ^ k - 16) + (16 * 2 ^ k - 16) + 8) + 1) (y2 := ((33000 * 2 ^ k - 33000) + (33000 * 2 ^ k - 33000) + 24876) + 4002) (rq rfl) (rq rfl) ?_
  refine k_V (x := ((16 * 2 ^ k - 16) + (16 * 2 ^ k - 16) + 8)) (y := ((33000 * 2 ^ k - 33000) + (33000 * 2 ^ k - 33000) + 24876)) (rest := []) 0 dX11_text_467 kv_X11_117 (cj_apI (x9 := n) (Nat.lt_trans hb (by decide)) eL584 bh574 (Nat.le_trans bn582 (by decide))) rfl rfl rfl rfl (Nat.le_of_ble_eq_true rfl) (by first | exact hd3 | exact hd6 | exact hd7) (by decide) ?_
  rintro ⟨bv578, bm579, bf580⟩ bh581
  try dsimp only at bh581
  show R g mX11_text (k + 1 + 8) ((16 * 2 ^ k - 16) + (16 * 2 ^ k - 16) + 8) ((33000 * 2 ^ k - 33000) + (33000 * 2 ^ k - 33000) + 24876) 470 [(4, .ref u4), (3, .ref u3), (2, .ref u2), (1, .ref u1), (0, .ref a)] [.ref q16] ((q16, .inr (13, [.ref bv578, .int (0 : Int32), .int (0 : Int32), .int (nI L583.length)])) :: ((bv578, yA g bm579 bf580) :: t0)) _
  refine r_ldcS (i := 52) dX11_text_470 rfl ?_
  obtain ⟨L590, eL591⟩ : ∃ L9 : List Int32, L9 = L583 ++ kT 52 := ⟨_, rfl⟩
  have bn589 : L590.length ≤ 15 := by rw [eL591]; exact lnA (L := L583) (L2 := kT 52) (n := 13) (n2 := 2) bn582 (Nat.le_of_eq kl_52)
  refine r_room (x2 := ((16 * 2 ^ k - 16) + (16 * 2 ^ k - 16) + 7) + 1) (y2 := ((33000 * 2 ^ k - 33000) + (33000 * 2 ^ k - 33000) + 20874) + 4002) (rq rfl) (rq rfl) ?_
  refine k_V (x := ((16 * 2 ^ k - 16) + (16 * 2 ^ k - 16) + 7)) (y := ((33000 * 2 ^ k - 33000) + (33000 * 2 ^ k - 33000) + 20874)) (rest := []) 0 dX11_text_472 kv_X11_113 (cj_apK (i := 52) (by decide) eL591 bh581 (Nat.le_trans bn589 (by decide))) rfl rfl rfl rfl (Nat.le_of_ble_eq_true rfl) (by first | exact hd3 | exact hd6 | exact hd7) (by decide) ?_
  rintro ⟨bv585, bm586, bf587⟩ bh588
  try dsimp only at bh588
  show R g mX11_text (k + 1 + 8) ((16 * 2 ^ k - 16) + (16 * 2 ^ k - 16) + 7) ((33000 * 2 ^ k - 33000) + (33000 * 2 ^ k - 33000) + 20874) 475 [(4, .ref u4), (3, .ref u3), (2, .ref u2), (1, .ref u1), (0, .ref a)] [.ref q16] ((q16, .inr (13, [.ref bv585, .int (0 : Int32), .int (0 : Int32), .int (nI L590.length)])) :: ((bv585, yA g bm586 bf587) :: t0)) _
  refine r_aload_n 4 dX11_text_475 rfl ?_
  refine r_getm (v := .int (nI o)) (ci := 11) (fs := [.int (25 : Int32), .int (nI n), .int (nI o), va, vb]) dX11_text_476 fl_X11_48 (List.mem_cons_of_mem _ (List.mem_cons_of_mem _ hoK)) rfl ?_
  obtain ⟨L597, eL598⟩ : ∃ L9 : List Int32, L9 = L590 ++ dgL o := ⟨_, rfl⟩
  have bn596 : L597.length ≤ 16 := by rw [eL598]; exact lnA (L := L590) (L2 := dgL o) (n := 15) (n2 := 1) bn589 (dgL_t1 hb2)
  refine r_room (x2 := ((16 * 2 ^ k - 16) + (16 * 2 ^ k - 16) + 6) + 1) (y2 := ((33000 * 2 ^ k - 33000) + (33000 * 2 ^ k - 33000) + 16872) + 4002) (rq rfl) (rq rfl) ?_
  refine k_V (x := ((16 * 2 ^ k - 16) + (16 * 2 ^ k - 16) + 6)) (y := ((33000 * 2 ^ k - 33000) + (33000 * 2 ^ k - 33000) + 16872)) (rest := []) 0 dX11_text_479 kv_X11_117 (cj_apI (x9 := o) (Nat.lt_trans hb2 (by decide)) eL598 bh588 (Nat.le_trans bn596 (by decide))) rfl rfl rfl rfl (Nat.le_of_ble_eq_true rfl) (by first | exact hd3 | exact hd6 | exact hd7) (by decide) ?_
  rintro ⟨bv592, bm593, bf594⟩ bh595
  try dsimp only at bh595
  show R g mX11_text (k + 1 + 8) ((16 * 2 ^ k - 16) + (16 * 2 ^ k - 16) + 6) ((33000 * 2 ^ k - 33000) + (33000 * 2 ^ k - 33000) + 16872) 482 [(4, .ref u4), (3, .ref u3), (2, .ref u2), (1, .ref u1), (0, .ref a)] [.ref q16] ((q16, .inr (13, [.ref bv592, .int (0 : Int32), .int (0 : Int32), .int (nI L597.length)])) :: ((bv592, yA g bm593 bf594) :: t0)) _
  refine r_ldcS (i := 47) dX11_text_482 rfl ?_
  obtain ⟨L604, eL605⟩ : ∃ L9 : List Int32, L9 = L597 ++ kT 47 := ⟨_, rfl⟩
  have bn603 : L604.length ≤ 17 := by rw [eL605]; exact lnA (L := L597) (L2 := kT 47) (n := 16) (n2 := 1) bn596 (Nat.le_of_eq kl_47)
  refine r_room (x2 := ((16 * 2 ^ k - 16) + (16 * 2 ^ k - 16) + 5) + 1) (y2 := ((33000 * 2 ^ k - 33000) + (33000 * 2 ^ k - 33000) + 12870) + 4002) (rq rfl) (rq rfl) ?_
  refine k_V (x := ((16 * 2 ^ k - 16) + (16 * 2 ^ k - 16) + 5)) (y := ((33000 * 2 ^ k - 33000) + (33000 * 2 ^ k - 33000) + 12870)) (rest := []) 0 dX11_text_484 kv_X11_113 (cj_apK (i := 47) (by decide) eL605 bh595 (Nat.le_trans bn603 (by decide))) rfl rfl rfl rfl (Nat.le_of_ble_eq_true rfl) (by first | exact hd3 | exact hd6 | exact hd7) (by decide) ?_
  rintro ⟨bv599, bm600, bf601⟩ bh602
  try dsimp only at bh602
  show R g mX11_text (k + 1 + 8) ((16 * 2 ^ k - 16) + (16 * 2 ^ k - 16) + 5) ((33000 * 2 ^ k - 33000) + (33000 * 2 ^ k - 33000) + 12870) 487 [(4, .ref u4), (3, .ref u3), (2, .ref u2), (1, .ref u1), (0, .ref a)] [.ref q16] ((q16, .inr (13, [.ref bv599, .int (0 : Int32), .int (0 : Int32), .int (nI L604.length)])) :: ((bv599, yA g bm600 bf601) :: t0)) _
  refine r_room (x2 := ((16 * 2 ^ k - 16) + (16 * 2 ^ k - 16) + 3) + 2) (y2 := ((33000 * 2 ^ k - 33000) + (33000 * 2 ^ k - 33000) + 8864) + 4006) (rq rfl) (rq rfl) ?_
  refine k_V (x := ((16 * 2 ^ k - 16) + (16 * 2 ^ k - 16) + 3)) (y := ((33000 * 2 ^ k - 33000) + (33000 * 2 ^ k - 33000) + 8864)) (rest := []) 0 dX11_text_487 kv_X11_120 (cj_strB bh602) rfl rfl rfl rfl (Nat.le_of_ble_eq_true rfl) (by first | exact hd3 | exact hd6 | exact hd7) (by decide) ?_
  rintro ⟨ts606, tb607, tf608⟩ th609
  try dsimp only at th609
  show R g mX11_text (k + 1 + 8) ((16 * 2 ^ k - 16) + (16 * 2 ^ k - 16) + 3) ((33000 * 2 ^ k - 33000) + (33000 * 2 ^ k - 33000) + 8864) 490 [(4, .ref u4), (3, .ref u3), (2, .ref u2), (1, .ref u1), (0, .ref a)] [.ref ts606] ((ts606, .inr (12, [.ref tb607, .int (0 : Int32), .int (0 : Int32), .int (0 : Int32)])) :: ((tb607, yA g L604.length tf608) :: ((q16, .inr (13, [.ref bv599, .int (0 : Int32), .int (0 : Int32), .int (nI L604.length)])) :: ((bv599, yA g bm600 bf601) :: t0)))) _
  rw [e0]
  refine r_seg (ws2 := ((ts606, .inr (12, [.ref tb607, .int (0 : Int32), .int (0 : Int32), .int (0 : Int32)])) :: ((tb607, yA g L604.length tf608) :: t))) [[(ts606, .inr (12, [.ref tb607, .int (0 : Int32), .int (0 : Int32), .int (0 : Int32)]))], [(tb607, yA g L604.length tf608)], [(q16, .inr (13, [.ref bv599, .int (0 : Int32), .int (0 : Int32), .int (nI L604.length)]))], [(bv599, yA g bm600 bf601)], [(u4, qA g 7 4 (va_up (va_up (va_up (va_up (fun _ => none) 0 (some (gK g 43))) 1 (some (gK g 44))) 2 (some (gK g 45))) 3 (some (gK g 46))))], [(u3, qA g 7 5 (va_up (va_up (va_up (va_up (va_up (fun _ => none) 0 (some (gK g 38))) 1 (some (gK g 39))) 2 (some (gK g 40))) 3 (some (gK g 41))) 4 (some (gK g 42))))], [(u2, qA g 7 6 (va_up (va_up (va_up (va_up (va_up (va_up (fun _ => none) 0 (some (gK g 32))) 1 (some (gK g 33))) 2 (some (gK g 34))) 3 (some (gK g 35))) 4 (some (gK g 36))) 5 (some (gK g 37))))], [(u1, qA g 7 6 (va_up (va_up (va_up (va_up (va_up (va_up (fun _ => none) 0 (some (gK g iE))) 1 (some (gK g 27))) 2 (some (gK g 28))) 3 (some (gK g 29))) 4 (some (gK g 30))) 5 (some (gK g 31))))], t] [0, 1, 8] rfl rfl rfl ?_
  subst eL605
  subst eL598
  subst eL591
  subst eL584
  subst eL577
  refine r_aret dX11_text_490 rfl rfl (Or.inr ⟨_, rfl⟩) ?_
  exact Dq.mk (Sum.inr (ts606, tb607, tf608)) rfl rfl th609
set_option maxRecDepth 20000 in
set_option maxHeartbeats 8000000 in
theorem tx_26 {g : GG} {ne nt k a n o u1 u2 u3 u4 : Nat} {t t0 : va_W}  {vb : Value} {va : Value} (IH : TextH g ne nt k) (e0 : t0 = ((u4, qA g 7 4 (va_up (va_up (va_up (va_up (fun _ => none) 0 (some (gK g 43))) 1 (some (gK g 44))) 2 (some (gK g 45))) 3 (some (gK g 46)))) :: ((u3, qA g 7 5 (va_up (va_up (va_up (va_up (va_up (fun _ => none) 0 (some (gK g 38))) 1 (some (gK g 39))) 2 (some (gK g 40))) 3 (some (gK g 41))) 4 (some (gK g 42)))) :: ((u2, qA g 7 6 (va_up (va_up (va_up (va_up (va_up (va_up (fun _ => none) 0 (some (gK g 32))) 1 (some (gK g 33))) 2 (some (gK g 34))) 3 (some (gK g 35))) 4 (some (gK g 36))) 5 (some (gK g 37)))) :: ((u1, qA g 7 6 (va_up (va_up (va_up (va_up (va_up (va_up (fun _ => none) 0 (some (gK g iE))) 1 (some (gK g 27))) 2 (some (gK g 28))) 3 (some (gK g 29))) 4 (some (gK g 30))) 5 (some (gK g 31)))) :: t))))) (hk5 : k ≤ 5) (hn : nt ≤ 10) (hne : ne ≤ 10) (ho : (a, .inr (11, [.int (26 : Int32), .int (nI n), .int (nI o), va, vb])) ∈ t) (hb : n < 10) : R g mX11_text (k + 1 + 8) ((16 * 2 ^ k - 16) + (16 * 2 ^ k - 16) + 12) ((33000 * 2 ^ k - 33000) + (33000 * 2 ^ k - 33000) + 32900) 128 [(4, .ref u4), (3, .ref u3), (2, .ref u2), (1, .ref u1), (0, .ref a)] [] t0 (Dq (fun (z : SZ) => some (sv g z)) (fun z => sw g (((([] : List Int32) ++ kT 44) ++ dgL n) ++ kT 47).length z ++ t) (fun z => sP (((([] : List Int32) ++ kT 44) ++ dgL n) ++ kT 47) z)) := by
  have hd3 : 3 + 1 ≤ k + 1 + 8 := by omega
  have hd6 : 6 + 1 ≤ k + 1 + 8 := by omega
  have hd7 : 7 + 1 ≤ k + 1 + 8 := by omega
  have m0 : (u4, qA g 7 4 (va_up (va_up (va_up (va_up (fun _ => none) 0 (some (gK g 43))) 1 (some (gK g 44))) 2 (some (gK g 45))) 3 (some (gK g 46)))) ∈ t0 := by rw [e0]; exact List.mem_cons_self
  have m1 : (u3, qA g 7 5 (va_up (va_up (va_up (va_up (va_up (fun _ => none) 0 (some (gK g 38))) 1 (some (gK g 39))) 2 (some (gK g 40))) 3 (some (gK g 41))) 4 (some (gK g 42)))) ∈ t0 := by rw [e0]; exact (List.mem_cons_of_mem _ List.mem_cons_self)
  have m2 : (u2, qA g 7 6 (va_up (va_up (va_up (va_up (va_up (va_up (fun _ => none) 0 (some (gK g 32))) 1 (some (gK g 33))) 2 (some (gK g 34))) 3 (some (gK g 35))) 4 (some (gK g 36))) 5 (some (gK g 37)))) ∈ t0 := by rw [e0]; exact (List.mem_cons_of_mem _ (List.mem_cons_of_mem _ List.mem_cons_self))
  have m3 : (u1, qA g 7 6 (va_up (va_up (va_up (va_up (va_up (va_up (fun _ => none) 0 (some (gK g iE))) 1 (some (gK g 27))) 2 (some (gK g 28))) 3 (some (gK g 29))) 4 (some (gK g 30))) 5 (some (gK g 31)))) ∈ t0 := by rw [e0]; exact (List.mem_cons_of_mem _ (List.mem_cons_of_mem _ (List.mem_cons_of_mem _ List.mem_cons_self)))
  have mt : ∀ p ∈ t, p ∈ t0 := fun p hp => by rw [e0]; exact (List.mem_cons_of_mem _ (List.mem_cons_of_mem _ (List.mem_cons_of_mem _ (List.mem_cons_of_mem _ hp))))
  have hoK := mt _ ho
  refine r_aload_n 4 dX11_text_128 rfl ?_
  refine r_getm (v := .int (26 : Int32)) (ci := 11) (fs := [.int (26 : Int32), .int (nI n), .int (nI o), va, vb]) dX11_text_129 fl_X11_7 hoK rfl ?_
  refine r_if_ne (tgt := 158) dX11_text_132 (by decide) (fun _ => ?_) (fun hc => absurd hc (by decide))
  refine r_aload_n 4 dX11_text_158 rfl ?_
  refine r_getm (v := .int (26 : Int32)) (ci := 11) (fs := [.int (26 : Int32), .int (nI n), .int (nI o), va, vb]) dX11_text_159 fl_X11_7 hoK rfl ?_
  refine r_iconst (v := (4 : Int32)) dX11_text_162 (by decide) ?_
  refine r_icmp_ge (tgt := 173) dX11_text_163 (by decide) (fun _ => ?_) (fun hc => absurd (by decide) hc)
  refine r_aload_n 4 dX11_text_173 rfl ?_
  refine r_getm (v := .int (26 : Int32)) (ci := 11) (fs := [.int (26 : Int32), .int (nI n), .int (nI o), va, vb]) dX11_text_174 fl_X11_7 hoK rfl ?_
  refine r_bipush (v := (6 : Int32)) dX11_text_177 (by decide) ?_
  refine r_icmp_ge (tgt := 214) dX11_text_179 (by decide) (fun _ => ?_) (fun hc => absurd (by decide) hc)
  refine r_aload_n 4 dX11_text_214 rfl ?_
  refine r_getm (v := .int (26 : Int32)) (ci := 11) (fs := [.int (26 : Int32), .int (nI n), .int (nI o), va, vb]) dX11_text_215 fl_X11_7 hoK rfl ?_
  refine r_bipush (v := (6 : Int32)) dX11_text_218 (by decide) ?_
  refine r_icmp_ne (tgt := 254) dX11_text_220 (by decide) (fun _ => ?_) (fun hc => absurd hc (by decide))
  refine r_aload_n 4 dX11_text_254 rfl ?_
  refine r_getm (v := .int (26 : Int32)) (ci := 11) (fs := [.int (26 : Int32), .int (nI n), .int (nI o), va, vb]) dX11_text_255 fl_X11_7 hoK rfl ?_
  refine r_bipush (v := (11 : Int32)) dX11_text_258 (by decide) ?_
  refine r_icmp_ge (tgt := 326) dX11_text_260 (by decide) (fun _ => ?_) (fun hc => absurd (by decide) hc)
  refine r_aload_n 4 dX11_text_326 rfl ?_
  refine r_getm (v := .int (26 : Int32)) (ci := 11) (fs := [.int (26 : Int32), .int (nI n), .int (nI o), va, vb]) dX11_text_327 fl_X11_7 hoK rfl ?_
  refine r_bipush (v := (13 : Int32)) dX11_text_330 (by decide) ?_
  refine r_icmp_ge (tgt := 388) dX11_text_332 (by decide) (fun _ => ?_) (fun hc => absurd (by decide) hc)
  refine r_aload_n 4 dX11_text_388 rfl ?_
  refine r_getm (v := .int (26 : Int32)) (ci := 11) (fs := [.int (26 : Int32), .int (nI n), .int (nI o), va, vb]) dX11_text_389 fl_X11_7 hoK rfl ?_
  refine r_bipush (v := (25 : Int32)) dX11_text_392 (by decide) ?_
  refine r_icmp_ge (tgt := 440) dX11_text_394 (by decide) (fun _ => ?_) (fun hc => absurd (by decide) hc)
  refine r_aload_n 4 dX11_text_440 rfl ?_
  refine r_getm (v := .int (26 : Int32)) (ci := 11) (fs := [.int (26 : Int32), .int (nI n), .int (nI o), va, vb]) dX11_text_441 fl_X11_7 hoK rfl ?_
  refine r_bipush (v := (25 : Int32)) dX11_text_444 (by decide) ?_
  refine r_icmp_ne (tgt := 491) dX11_text_446 (by decide) (fun _ => ?_) (fun hc => absurd hc (by decide))
  refine r_aload_n 4 dX11_text_491 rfl ?_
  refine r_getm (v := .int (26 : Int32)) (ci := 11) (fs := [.int (26 : Int32), .int (nI n), .int (nI o), va, vb]) dX11_text_492 fl_X11_7 hoK rfl ?_
  refine r_bipush (v := (29 : Int32)) dX11_text_495 (by decide) ?_
  refine r_icmp_ge (tgt := 536) dX11_text_497 (by decide) (fun hc => absurd hc (by decide)) (fun _ => ?_)
  refine r_new (N := 4) (x := ((16 * 2 ^ k - 16) + (16 * 2 ^ k - 16) + 11)) (y := ((33000 * 2 ^ k - 33000) + (33000 * 2 ^ k - 33000) + 32896)) dX11_text_500 nl_X11_110 (fun q17 => ?_)
  refine r_dup dX11_text_503 rfl ?_
  refine r_room (x2 := ((16 * 2 ^ k - 16) + (16 * 2 ^ k - 16) + 10) + 1) (y2 := ((33000 * 2 ^ k - 33000) + (33000 * 2 ^ k - 33000) + 32880) + 16) (rq rfl) (rq rfl) ?_
  refine k_I (x := ((16 * 2 ^ k - 16) + (16 * 2 ^ k - 16) + 10)) (y := ((33000 * 2 ^ k - 33000) + (33000 * 2 ^ k - 33000) + 32880)) (rest := [.ref q17]) dX11_text_504 ki_X11_112 (cj_sb) rfl rfl (Nat.le_of_ble_eq_true rfl) (by first | exact hd3 | exact hd6 | exact hd7) (by decide) ?_
  rintro bv610 -
  show R g mX11_text (k + 1 + 8) ((16 * 2 ^ k - 16) + (16 * 2 ^ k - 16) + 10) ((33000 * 2 ^ k - 33000) + (33000 * 2 ^ k - 33000) + 32880) 507 [(4, .ref u4), (3, .ref u3), (2, .ref u2), (1, .ref u1), (0, .ref a)] [.ref q17] ((q17, .inr (13, [.ref bv610, .int (0 : Int32), .int (0 : Int32), .int (nI ([] : List Int32).length)])) :: ((bv610, yA g 16 (fun _ => 0)) :: t0)) _
  refine r_aload 0 dX11_text_507 rfl ?_
  refine r_aload_n 4 dX11_text_509 rfl ?_
  refine r_getm (v := .int (26 : Int32)) (ci := 11) (fs := [.int (26 : Int32), .int (nI n), .int (nI o), va, vb]) dX11_text_510 fl_X11_7 (List.mem_cons_of_mem _ (List.mem_cons_of_mem _ hoK)) rfl ?_
  refine r_bipush (v := (25 : Int32)) dX11_text_513 (by decide) ?_
  refine r_isub dX11_text_515 ?_
  refine r_aaldm (t := 7) (n := 4) (f := (va_up (va_up (va_up (va_up (fun _ => none) 0 (some (gK g 43))) 1 (some (gK g 44))) 2 (some (gK g 45))) 3 (some (gK g 46)))) (v := .ref (gK g 44)) dX11_text_516 rfl rfl (List.mem_cons_of_mem _ (List.mem_cons_of_mem _ m0)) (by decide) (by rfl) ?_
  obtain ⟨L616, eL617⟩ : ∃ L9 : List Int32, L9 = ([] : List Int32) ++ kT 44 := ⟨_, rfl⟩
  have bn615 : L616.length ≤ 6 := by rw [eL617]; exact lnA (L := ([] : List Int32)) (L2 := kT 44) (n := 0) (n2 := 6) (Nat.le_refl 0) (Nat.le_of_eq kl_44)
  refine r_room (x2 := ((16 * 2 ^ k - 16) + (16 * 2 ^ k - 16) + 9) + 1) (y2 := ((33000 * 2 ^ k - 33000) + (33000 * 2 ^ k - 33000) + 28878) + 4002) (rq rfl) (rq rfl) ?_
  refine k_V (x := ((16 * 2 ^ k - 16) + (16 * 2 ^ k - 16) + 9)) (y := ((33000 * 2 ^ k - 33000) + (33000 * 2 ^ k - 33000) + 28878)) (rest := []) 0 dX11_text_517 kv_X11_113 (cj_apK (i := 44) (by decide) eL617 BL.nil (Nat.le_trans bn615 (by decide))) rfl rfl rfl rfl (Nat.le_of_ble_eq_true rfl) (by first | exact hd3 | exact hd6 | exact hd7) (by decide) ?_
  rintro ⟨bv611, bm612, bf613⟩ bh614
  try dsimp only at bh614
  show R g mX11_text (k + 1 + 8) ((16 * 2 ^ k - 16) + (16 * 2 ^ k - 16) + 9) ((33000 * 2 ^ k - 33000) + (33000 * 2 ^ k - 33000) + 28878) 520 [(4, .ref u4), (3, .ref u3), (2, .ref u2), (1, .ref u1), (0, .ref a)] [.ref q17] ((q17, .inr (13, [.ref bv611, .int (0 : Int32), .int (0 : Int32), .int (nI L616.length)])) :: ((bv611, yA g bm612 bf613) :: t0)) _
  refine r_aload_n 4 dX11_text_520 rfl ?_
  refine r_getm (v := .int (nI n)) (ci := 11) (fs := [.int (26 : Int32), .int (nI n), .int (nI o), va, vb]) dX11_text_521 fl_X11_13 (List.mem_cons_of_mem _ (List.mem_cons_of_mem _ hoK)) rfl ?_
  obtain ⟨L623, eL624⟩ : ∃ L9 : List Int32, L9 = L616 ++ dgL n := ⟨_, rfl⟩
  have bn622 : L623.length ≤ 7 := by rw [eL624]; exact lnA (L := L616) (L2 := dgL n) (n := 6) (n2 := 1) bn615 (dgL_t1 hb)
  refine r_room (x2 := ((16 * 2 ^ k - 16) + (16 * 2 ^ k - 16) + 8) + 1) (y2 := ((33000 * 2 ^ k - 33000) + (33000 * 2 ^ k - 33000) + 24876) + 4002) (rq rfl) (rq rfl) ?_
  refine k_V (x := ((16 * 2 ^ k - 16) + (16 * 2 ^ k - 16) + 8)) (y := ((33000 * 2 ^ k - 33000) + (33000 * 2 ^ k - 33000) + 24876)) (rest := []) 0 dX11_text_524 kv_X11_117 (cj_apI (x9 := n) (Nat.lt_trans hb (by decide)) eL624 bh614 (Nat.le_trans bn622 (by decide))) rfl rfl rfl rfl (Nat.le_of_ble_eq_true rfl) (by first | exact hd3 | exact hd6 | exact hd7) (by decide) ?_
  rintro ⟨bv618, bm619, bf620⟩ bh621
  try dsimp only at bh621
  show R g mX11_text (k + 1 + 8) ((16 * 2 ^ k - 16) + (16 * 2 ^ k - 16) + 8) ((33000 * 2 ^ k - 33000) + (33000 * 2 ^ k - 33000) + 24876) 527 [(4, .ref u4), (3, .ref u3), (2, .ref u2), (1, .ref u1), (0, .ref a)] [.ref q17] ((q17, .inr (13, [.ref bv618, .int (0 : Int32), .int (0 : Int32), .int (nI L623.length)])) :: ((bv618, yA g bm619 bf620) :: t0)) _
  refine r_ldcS (i := 47) dX11_text_527 rfl ?_
  obtain ⟨L630, eL631⟩ : ∃ L9 : List Int32, L9 = L623 ++ kT 47 := ⟨_, rfl⟩
  have bn629 : L630.length ≤ 8 := by rw [eL631]; exact lnA (L := L623) (L2 := kT 47) (n := 7) (n2 := 1) bn622 (Nat.le_of_eq kl_47)
  refine r_room (x2 := ((16 * 2 ^ k - 16) + (16 * 2 ^ k - 16) + 7) + 1) (y2 := ((33000 * 2 ^ k - 33000) + (33000 * 2 ^ k - 33000) + 20874) + 4002) (rq rfl) (rq rfl) ?_
  refine k_V (x := ((16 * 2 ^ k - 16) + (16 * 2 ^ k - 16) + 7)) (y := ((33000 * 2 ^ k - 33000) + (33000 * 2 ^ k - 33000) + 20874)) (rest := []) 0 dX11_text_529 kv_X11_113 (cj_apK (i := 47) (by decide) eL631 bh621 (Nat.le_trans bn629 (by decide))) rfl rfl rfl rfl (Nat.le_of_ble_eq_true rfl) (by first | exact hd3 | exact hd6 | exact hd7) (by decide) ?_
  rintro ⟨bv625, bm626, bf627⟩ bh628
  try dsimp only at bh628
  show R g mX11_text (k + 1 + 8) ((16 * 2 ^ k - 16) + (16 * 2 ^ k - 16) + 7) ((33000 * 2 ^ k - 33000) + (33000 * 2 ^ k - 33000) + 20874) 532 [(4, .ref u4), (3, .ref u3), (2, .ref u2), (1, .ref u1), (0, .ref a)] [.ref q17] ((q17, .inr (13, [.ref bv625, .int (0 : Int32), .int (0 : Int32), .int (nI L630.length)])) :: ((bv625, yA g bm626 bf627) :: t0)) _
  refine r_room (x2 := ((16 * 2 ^ k - 16) + (16 * 2 ^ k - 16) + 5) + 2) (y2 := ((33000 * 2 ^ k - 33000) + (33000 * 2 ^ k - 33000) + 16868) + 4006) (rq rfl) (rq rfl) ?_
  refine k_V (x := ((16 * 2 ^ k - 16) + (16 * 2 ^ k - 16) + 5)) (y := ((33000 * 2 ^ k - 33000) + (33000 * 2 ^ k - 33000) + 16868)) (rest := []) 0 dX11_text_532 kv_X11_120 (cj_strB bh628) rfl rfl rfl rfl (Nat.le_of_ble_eq_true rfl) (by first | exact hd3 | exact hd6 | exact hd7) (by decide) ?_
  rintro ⟨ts632, tb633, tf634⟩ th635
  try dsimp only at th635
  show R g mX11_text (k + 1 + 8) ((16 * 2 ^ k - 16) + (16 * 2 ^ k - 16) + 5) ((33000 * 2 ^ k - 33000) + (33000 * 2 ^ k - 33000) + 16868) 535 [(4, .ref u4), (3, .ref u3), (2, .ref u2), (1, .ref u1), (0, .ref a)] [.ref ts632] ((ts632, .inr (12, [.ref tb633, .int (0 : Int32), .int (0 : Int32), .int (0 : Int32)])) :: ((tb633, yA g L630.length tf634) :: ((q17, .inr (13, [.ref bv625, .int (0 : Int32), .int (0 : Int32), .int (nI L630.length)])) :: ((bv625, yA g bm626 bf627) :: t0)))) _
  rw [e0]
  refine r_seg (ws2 := ((ts632, .inr (12, [.ref tb633, .int (0 : Int32), .int (0 : Int32), .int (0 : Int32)])) :: ((tb633, yA g L630.length tf634) :: t))) [[(ts632, .inr (12, [.ref tb633, .int (0 : Int32), .int (0 : Int32), .int (0 : Int32)]))], [(tb633, yA g L630.length tf634)], [(q17, .inr (13, [.ref bv625, .int (0 : Int32), .int (0 : Int32), .int (nI L630.length)]))], [(bv625, yA g bm626 bf627)], [(u4, qA g 7 4 (va_up (va_up (va_up (va_up (fun _ => none) 0 (some (gK g 43))) 1 (some (gK g 44))) 2 (some (gK g 45))) 3 (some (gK g 46))))], [(u3, qA g 7 5 (va_up (va_up (va_up (va_up (va_up (fun _ => none) 0 (some (gK g 38))) 1 (some (gK g 39))) 2 (some (gK g 40))) 3 (some (gK g 41))) 4 (some (gK g 42))))], [(u2, qA g 7 6 (va_up (va_up (va_up (va_up (va_up (va_up (fun _ => none) 0 (some (gK g 32))) 1 (some (gK g 33))) 2 (some (gK g 34))) 3 (some (gK g 35))) 4 (some (gK g 36))) 5 (some (gK g 37))))], [(u1, qA g 7 6 (va_up (va_up (va_up (va_up (va_up (va_up (fun _ => none) 0 (some (gK g iE))) 1 (some (gK g 27))) 2 (some (gK g 28))) 3 (some (gK g 29))) 4 (some (gK g 30))) 5 (some (gK g 31))))], t] [0, 1, 8] rfl rfl rfl ?_
  subst eL631
  subst eL624
  subst eL617
  refine r_aret dX11_text_535 rfl rfl (Or.inr ⟨_, rfl⟩) ?_
  exact Dq.mk (Sum.inr (ts632, tb633, tf634)) rfl rfl th635
set_option maxRecDepth 20000 in
set_option maxHeartbeats 8000000 in
theorem tx_27 {g : GG} {ne nt k a n o u1 u2 u3 u4 : Nat} {t t0 : va_W}  {vb : Value} {va : Value} (IH : TextH g ne nt k) (e0 : t0 = ((u4, qA g 7 4 (va_up (va_up (va_up (va_up (fun _ => none) 0 (some (gK g 43))) 1 (some (gK g 44))) 2 (some (gK g 45))) 3 (some (gK g 46)))) :: ((u3, qA g 7 5 (va_up (va_up (va_up (va_up (va_up (fun _ => none) 0 (some (gK g 38))) 1 (some (gK g 39))) 2 (some (gK g 40))) 3 (some (gK g 41))) 4 (some (gK g 42)))) :: ((u2, qA g 7 6 (va_up (va_up (va_up (va_up (va_up (va_up (fun _ => none) 0 (some (gK g 32))) 1 (some (gK g 33))) 2 (some (gK g 34))) 3 (some (gK g 35))) 4 (some (gK g 36))) 5 (some (gK g 37)))) :: ((u1, qA g 7 6 (va_up (va_up (va_up (va_up (va_up (va_up (fun _ => none) 0 (some (gK g iE))) 1 (some (gK g 27))) 2 (some (gK g 28))) 3 (some (gK g 29))) 4 (some (gK g 30))) 5 (some (gK g 31)))) :: t))))) (hk5 : k ≤ 5) (hn : nt ≤ 10) (hne : ne ≤ 10) (ho : (a, .inr (11, [.int (27 : Int32), .int (nI n), .int (nI o), va, vb])) ∈ t) (hb : n < 10) : R g mX11_text (k + 1 + 8) ((16 * 2 ^ k - 16) + (16 * 2 ^ k - 16) + 12) ((33000 * 2 ^ k - 33000) + (33000 * 2 ^ k - 33000) + 32900) 128 [(4, .ref u4), (3, .ref u3), (2, .ref u2), (1, .ref u1), (0, .ref a)] [] t0 (Dq (fun (z : SZ) => some (sv g z)) (fun z => sw g (((([] : List Int32) ++ kT 45) ++ dgL n) ++ kT 47).length z ++ t) (fun z => sP (((([] : List Int32) ++ kT 45) ++ dgL n) ++ kT 47) z)) := by
  have hd3 : 3 + 1 ≤ k + 1 + 8 := by omega
  have hd6 : 6 + 1 ≤ k + 1 + 8 := by omega
  have hd7 : 7 + 1 ≤ k + 1 + 8 := by omega
  have m0 : (u4, qA g 7 4 (va_up (va_up (va_up (va_up (fun _ => none) 0 (some (gK g 43))) 1 (some (gK g 44))) 2 (some (gK g 45))) 3 (some (gK g 46)))) ∈ t0 := by rw [e0]; exact List.mem_cons_self
  have m1 : (u3, qA g 7 5 (va_up (va_up (va_up (va_up (va_up (fun _ => none) 0 (some (gK g 38))) 1 (some (gK g 39))) 2 (some (gK g 40))) 3 (some (gK g 41))) 4 (some (gK g 42)))) ∈ t0 := by rw [e0]; exact (List.mem_cons_of_mem _ List.mem_cons_self)
  have m2 : (u2, qA g 7 6 (va_up (va_up (va_up (va_up (va_up (va_up (fun _ => none) 0 (some (gK g 32))) 1 (some (gK g 33))) 2 (some (gK g 34))) 3 (some (gK g 35))) 4 (some (gK g 36))) 5 (some (gK g 37)))) ∈ t0 := by rw [e0]; exact (List.mem_cons_of_mem _ (List.mem_cons_of_mem _ List.mem_cons_self))
  have m3 : (u1, qA g 7 6 (va_up (va_up (va_up (va_up (va_up (va_up (fun _ => none) 0 (some (gK g iE))) 1 (some (gK g 27))) 2 (some (gK g 28))) 3 (some (gK g 29))) 4 (some (gK g 30))) 5 (some (gK g 31)))) ∈ t0 := by rw [e0]; exact (List.mem_cons_of_mem _ (List.mem_cons_of_mem _ (List.mem_cons_of_mem _ List.mem_cons_self)))
  have mt : ∀ p ∈ t, p ∈ t0 := fun p hp => by rw [e0]; exact (List.mem_cons_of_mem _ (List.mem_cons_of_mem _ (List.mem_cons_of_mem _ (List.mem_cons_of_mem _ hp))))
  have hoK := mt _ ho
  refine r_aload_n 4 dX11_text_128 rfl ?_
  refine r_getm (v := .int (27 : Int32)) (ci := 11) (fs := [.int (27 : Int32), .int (nI n), .int (nI o), va, vb]) dX11_text_129 fl_X11_7 hoK rfl ?_
  refine r_if_ne (tgt := 158) dX11_text_132 (by decide) (fun _ => ?_) (fun hc => absurd hc (by decide))
  refine r_aload_n 4 dX11_text_158 rfl ?_
  refine r_getm (v := .int (27 : Int32)) (ci := 11) (fs := [.int (27 : Int32), .int (nI n), .int (nI o), va, vb]) dX11_text_159 fl_X11_7 hoK rfl ?_
  refine r_iconst (v := (4 : Int32)) dX11_text_162 (by decide) ?_
  refine r_icmp_ge (tgt := 173) dX11_text_163 (by decide) (fun _ => ?_) (fun hc => absurd (by decide) hc)
  refine r_aload_n 4 dX11_text_173 rfl ?_
  refine r_getm (v := .int (27 : Int32)) (ci := 11) (fs := [.int (27 : Int32), .int (nI n), .int (nI o), va, vb]) dX11_text_174 fl_X11_7 hoK rfl ?_
  refine r_bipush (v := (6 : Int32)) dX11_text_177 (by decide) ?_
  refine r_icmp_ge (tgt := 214) dX11_text_179 (by decide) (fun _ => ?_) (fun hc => absurd (by decide) hc)
  refine r_aload_n 4 dX11_text_214 rfl ?_
  refine r_getm (v := .int (27 : Int32)) (ci := 11) (fs := [.int (27 : Int32), .int (nI n), .int (nI o), va, vb]) dX11_text_215 fl_X11_7 hoK rfl ?_
  refine r_bipush (v := (6 : Int32)) dX11_text_218 (by decide) ?_
  refine r_icmp_ne (tgt := 254) dX11_text_220 (by decide) (fun _ => ?_) (fun hc => absurd hc (by decide))
  refine r_aload_n 4 dX11_text_254 rfl ?_
  refine r_getm (v := .int (27 : Int32)) (ci := 11) (fs := [.int (27 : Int32), .int (nI n), .int (nI o), va, vb]) dX11_text_255 fl_X11_7 hoK rfl ?_
  refine r_bipush (v := (11 : Int32)) dX11_text_258 (by decide) ?_
  refine r_icmp_ge (tgt := 326) dX11_text_260 (by decide) (fun _ => ?_) (fun hc => absurd (by decide) hc)
  refine r_aload_n 4 dX11_text_326 rfl ?_
  refine r_getm (v := .int (27 : Int32)) (ci := 11) (fs := [.int (27 : Int32), .int (nI n), .int (nI o), va, vb]) dX11_text_327 fl_X11_7 hoK rfl ?_
  refine r_bipush (v := (13 : Int32)) dX11_text_330 (by decide) ?_
  refine r_icmp_ge (tgt := 388) dX11_text_332 (by decide) (fun _ => ?_) (fun hc => absurd (by decide) hc)
  refine r_aload_n 4 dX11_text_388 rfl ?_
  refine r_getm (v := .int (27 : Int32)) (ci := 11) (fs := [.int (27 : Int32), .int (nI n), .int (nI o), va, vb]) dX11_text_389 fl_X11_7 hoK rfl ?_
  refine r_bipush (v := (25 : Int32)) dX11_text_392 (by decide) ?_
  refine r_icmp_ge (tgt := 440) dX11_text_394 (by decide) (fun _ => ?_) (fun hc => absurd (by decide) hc)
  refine r_aload_n 4 dX11_text_440 rfl ?_
  refine r_getm (v := .int (27 : Int32)) (ci := 11) (fs := [.int (27 : Int32), .int (nI n), .int (nI o), va, vb]) dX11_text_441 fl_X11_7 hoK rfl ?_
  refine r_bipush (v := (25 : Int32)) dX11_text_444 (by decide) ?_
  refine r_icmp_ne (tgt := 491) dX11_text_446 (by decide) (fun _ => ?_) (fun hc => absurd hc (by decide))
  refine r_aload_n 4 dX11_text_491 rfl ?_
  refine r_getm (v := .int (27 : Int32)) (ci := 11) (fs := [.int (27 : Int32), .int (nI n), .int (nI o), va, vb]) dX11_text_492 fl_X11_7 hoK rfl ?_
  refine r_bipush (v := (29 : Int32)) dX11_text_495 (by decide) ?_
  refine r_icmp_ge (tgt := 536) dX11_text_497 (by decide) (fun hc => absurd hc (by decide)) (fun _ => ?_)
  refine r_new (N := 4) (x := ((16 * 2 ^ k - 16) + (16 * 2 ^ k - 16) + 11)) (y := ((33000 * 2 ^ k - 33000) + (33000 * 2 ^ k - 33000) + 32896)) dX11_text_500 nl_X11_110 (fun q18 => ?_)
  refine r_dup dX11_text_503 rfl ?_
  refine r_room (x2 := ((16 * 2 ^ k - 16) + (16 * 2 ^ k - 16) + 10) + 1) (y2 := ((33000 * 2 ^ k - 33000) + (33000 * 2 ^ k - 33000) + 32880) + 16) (rq rfl) (rq rfl) ?_
  refine k_I (x := ((16 * 2 ^ k - 16) + (16 * 2 ^ k - 16) + 10)) (y := ((33000 * 2 ^ k - 33000) + (33000 * 2 ^ k - 33000) + 32880)) (rest := [.ref q18]) dX11_text_504 ki_X11_112 (cj_sb) rfl rfl (Nat.le_of_ble_eq_true rfl) (by first | exact hd3 | exact hd6 | exact hd7) (by decide) ?_
  rintro bv636 -
  show R g mX11_text (k + 1 + 8) ((16 * 2 ^ k - 16) + (16 * 2 ^ k - 16) + 10) ((33000 * 2 ^ k - 33000) + (33000 * 2 ^ k - 33000) + 32880) 507 [(4, .ref u4), (3, .ref u3), (2, .ref u2), (1, .ref u1), (0, .ref a)] [.ref q18] ((q18, .inr (13, [.ref bv636, .int (0 : Int32), .int (0 : Int32), .int (nI ([] : List Int32).length)])) :: ((bv636, yA g 16 (fun _ => 0)) :: t0)) _
  refine r_aload 0 dX11_text_507 rfl ?_
  refine r_aload_n 4 dX11_text_509 rfl ?_
  refine r_getm (v := .int (27 : Int32)) (ci := 11) (fs := [.int (27 : Int32), .int (nI n), .int (nI o), va, vb]) dX11_text_510 fl_X11_7 (List.mem_cons_of_mem _ (List.mem_cons_of_mem _ hoK)) rfl ?_
  refine r_bipush (v := (25 : Int32)) dX11_text_513 (by decide) ?_
  refine r_isub dX11_text_515 ?_
  refine r_aaldm (t := 7) (n := 4) (f := (va_up (va_up (va_up (va_up (fun _ => none) 0 (some (gK g 43))) 1 (some (gK g 44))) 2 (some (gK g 45))) 3 (some (gK g 46)))) (v := .ref (gK g 45)) dX11_text_516 rfl rfl (List.mem_cons_of_mem _ (List.mem_cons_of_mem _ m0)) (by decide) (by rfl) ?_
  obtain ⟨L642, eL643⟩ : ∃ L9 : List Int32, L9 = ([] : List Int32) ++ kT 45 := ⟨_, rfl⟩
  have bn641 : L642.length ≤ 9 := by rw [eL643]; exact lnA (L := ([] : List Int32)) (L2 := kT 45) (n := 0) (n2 := 9) (Nat.le_refl 0) (Nat.le_of_eq kl_45)
  refine r_room (x2 := ((16 * 2 ^ k - 16) + (16 * 2 ^ k - 16) + 9) + 1) (y2 := ((33000 * 2 ^ k - 33000) + (33000 * 2 ^ k - 33000) + 28878) + 4002) (rq rfl) (rq rfl) ?_
  refine k_V (x := ((16 * 2 ^ k - 16) + (16 * 2 ^ k - 16) + 9)) (y := ((33000 * 2 ^ k - 33000) + (33000 * 2 ^ k - 33000) + 28878)) (rest := []) 0 dX11_text_517 kv_X11_113 (cj_apK (i := 45) (by decide) eL643 BL.nil (Nat.le_trans bn641 (by decide))) rfl rfl rfl rfl (Nat.le_of_ble_eq_true rfl) (by first | exact hd3 | exact hd6 | exact hd7) (by decide) ?_
  rintro ⟨bv637, bm638, bf639⟩ bh640
  try dsimp only at bh640
  show R g mX11_text (k + 1 + 8) ((16 * 2 ^ k - 16) + (16 * 2 ^ k - 16) + 9) ((33000 * 2 ^ k - 33000) + (33000 * 2 ^ k - 33000) + 28878) 520 [(4, .ref u4), (3, .ref u3), (2, .ref u2), (1, .ref u1), (0, .ref a)] [.ref q18] ((q18, .inr (13, [.ref bv637, .int (0 : Int32), .int (0 : Int32), .int (nI L642.length)])) :: ((bv637, yA g bm638 bf639) :: t0)) _
  refine r_aload_n 4 dX11_text_520 rfl ?_
  refine r_getm (v := .int (nI n)) (ci := 11) (fs := [.int (27 : Int32), .int (nI n), .int (nI o), va, vb]) dX11_text_521 fl_X11_13 (List.mem_cons_of_mem _ (List.mem_cons_of_mem _ hoK)) rfl ?_
  obtain ⟨L649, eL650⟩ : ∃ L9 : List Int32, L9 = L642 ++ dgL n := ⟨_, rfl⟩
  have bn648 : L649.length ≤ 10 := by rw [eL650]; exact lnA (L := L642) (L2 := dgL n) (n := 9) (n2 := 1) bn641 (dgL_t1 hb)
  refine r_room (x2 := ((16 * 2 ^ k - 16) + (16 * 2 ^ k - 16) + 8) + 1) (y2 := ((33000 * 2 ^ k - 33000) + (33000 * 2 ^ k - 33000) + 24876) + 4002) (rq rfl) (rq rfl) ?_
  refine k_V (x := ((16 * 2 ^ k - 16) + (16 * 2 ^ k - 16) + 8)) (y := ((33000 * 2 ^ k - 33000) + (33000 * 2 ^ k - 33000) + 24876)) (rest := []) 0 dX11_text_524 kv_X11_117 (cj_apI (x9 := n) (Nat.lt_trans hb (by decide)) eL650 bh640 (Nat.le_trans bn648 (by decide))) rfl rfl rfl rfl (Nat.le_of_ble_eq_true rfl) (by first | exact hd3 | exact hd6 | exact hd7) (by decide) ?_
  rintro ⟨bv644, bm645, bf646⟩ bh647
  try dsimp only at bh647
  show R g mX11_text (k + 1 + 8) ((16 * 2 ^ k - 16) + (16 * 2 ^ k - 16) + 8) ((33000 * 2 ^ k - 33000) + (33000 * 2 ^ k - 33000) + 24876) 527 [(4, .ref u4), (3, .ref u3), (2, .ref u2), (1, .ref u1), (0, .ref a)] [.ref q18] ((q18, .inr (13, [.ref bv644, .int (0 : Int32), .int (0 : Int32), .int (nI L649.length)])) :: ((bv644, yA g bm645 bf646) :: t0)) _
  refine r_ldcS (i := 47) dX11_text_527 rfl ?_
  obtain ⟨L656, eL657⟩ : ∃ L9 : List Int32, L9 = L649 ++ kT 47 := ⟨_, rfl⟩
  have bn655 : L656.length ≤ 11 := by rw [eL657]; exact lnA (L := L649) (L2 := kT 47) (n := 10) (n2 := 1) bn648 (Nat.le_of_eq kl_47)
  refine r_room (x2 := ((16 * 2 ^ k - 16) + (16 * 2 ^ k - 16) + 7) + 1) (y2 := ((33000 * 2 ^ k - 33000) + (33000 * 2 ^ k - 33000) + 20874) + 4002) (rq rfl) (rq rfl) ?_
  refine k_V (x := ((16 * 2 ^ k - 16) + (16 * 2 ^ k - 16) + 7)) (y := ((33000 * 2 ^ k - 33000) + (33000 * 2 ^ k - 33000) + 20874)) (rest := []) 0 dX11_text_529 kv_X11_113 (cj_apK (i := 47) (by decide) eL657 bh647 (Nat.le_trans bn655 (by decide))) rfl rfl rfl rfl (Nat.le_of_ble_eq_true rfl) (by first | exact hd3 | exact hd6 | exact hd7) (by decide) ?_
  rintro ⟨bv651, bm652, bf653⟩ bh654
  try dsimp only at bh654
  show R g mX11_text (k + 1 + 8) ((16 * 2 ^ k - 16) + (16 * 2 ^ k - 16) + 7) ((33000 * 2 ^ k - 33000) + (33000 * 2 ^ k - 33000) + 20874) 532 [(4, .ref u4), (3, .ref u3), (2, .ref u2), (1, .ref u1), (0, .ref a)] [.ref q18] ((q18, .inr (13, [.ref bv651, .int (0 : Int32), .int (0 : Int32), .int (nI L656.length)])) :: ((bv651, yA g bm652 bf653) :: t0)) _
  refine r_room (x2 := ((16 * 2 ^ k - 16) + (16 * 2 ^ k - 16) + 5) + 2) (y2 := ((33000 * 2 ^ k - 33000) + (33000 * 2 ^ k - 33000) + 16868) + 4006) (rq rfl) (rq rfl) ?_
  refine k_V (x := ((16 * 2 ^ k - 16) + (16 * 2 ^ k - 16) + 5)) (y := ((33000 * 2 ^ k - 33000) + (33000 * 2 ^ k - 33000) + 16868)) (rest := []) 0 dX11_text_532 kv_X11_120 (cj_strB bh654) rfl rfl rfl rfl (Nat.le_of_ble_eq_true rfl) (by first | exact hd3 | exact hd6 | exact hd7) (by decide) ?_
  rintro ⟨ts658, tb659, tf660⟩ th661
  try dsimp only at th661
  show R g mX11_text (k + 1 + 8) ((16 * 2 ^ k - 16) + (16 * 2 ^ k - 16) + 5) ((33000 * 2 ^ k - 33000) + (33000 * 2 ^ k - 33000) + 16868) 535 [(4, .ref u4), (3, .ref u3), (2, .ref u2), (1, .ref u1), (0, .ref a)] [.ref ts658] ((ts658, .inr (12, [.ref tb659, .int (0 : Int32), .int (0 : Int32), .int (0 : Int32)])) :: ((tb659, yA g L656.length tf660) :: ((q18, .inr (13, [.ref bv651, .int (0 : Int32), .int (0 : Int32), .int (nI L656.length)])) :: ((bv651, yA g bm652 bf653) :: t0)))) _
  rw [e0]
  refine r_seg (ws2 := ((ts658, .inr (12, [.ref tb659, .int (0 : Int32), .int (0 : Int32), .int (0 : Int32)])) :: ((tb659, yA g L656.length tf660) :: t))) [[(ts658, .inr (12, [.ref tb659, .int (0 : Int32), .int (0 : Int32), .int (0 : Int32)]))], [(tb659, yA g L656.length tf660)], [(q18, .inr (13, [.ref bv651, .int (0 : Int32), .int (0 : Int32), .int (nI L656.length)]))], [(bv651, yA g bm652 bf653)], [(u4, qA g 7 4 (va_up (va_up (va_up (va_up (fun _ => none) 0 (some (gK g 43))) 1 (some (gK g 44))) 2 (some (gK g 45))) 3 (some (gK g 46))))], [(u3, qA g 7 5 (va_up (va_up (va_up (va_up (va_up (fun _ => none) 0 (some (gK g 38))) 1 (some (gK g 39))) 2 (some (gK g 40))) 3 (some (gK g 41))) 4 (some (gK g 42))))], [(u2, qA g 7 6 (va_up (va_up (va_up (va_up (va_up (va_up (fun _ => none) 0 (some (gK g 32))) 1 (some (gK g 33))) 2 (some (gK g 34))) 3 (some (gK g 35))) 4 (some (gK g 36))) 5 (some (gK g 37))))], [(u1, qA g 7 6 (va_up (va_up (va_up (va_up (va_up (va_up (fun _ => none) 0 (some (gK g iE))) 1 (some (gK g 27))) 2 (some (gK g 28))) 3 (some (gK g 29))) 4 (some (gK g 30))) 5 (some (gK g 31))))], t] [0, 1, 8] rfl rfl rfl ?_
  subst eL657
  subst eL650
  subst eL643
  refine r_aret dX11_text_535 rfl rfl (Or.inr ⟨_, rfl⟩) ?_
  exact Dq.mk (Sum.inr (ts658, tb659, tf660)) rfl rfl th661
set_option maxRecDepth 20000 in
set_option maxHeartbeats 8000000 in
theorem tx_28 {g : GG} {ne nt k a n o u1 u2 u3 u4 : Nat} {t t0 : va_W}  {vb : Value} {va : Value} (IH : TextH g ne nt k) (e0 : t0 = ((u4, qA g 7 4 (va_up (va_up (va_up (va_up (fun _ => none) 0 (some (gK g 43))) 1 (some (gK g 44))) 2 (some (gK g 45))) 3 (some (gK g 46)))) :: ((u3, qA g 7 5 (va_up (va_up (va_up (va_up (va_up (fun _ => none) 0 (some (gK g 38))) 1 (some (gK g 39))) 2 (some (gK g 40))) 3 (some (gK g 41))) 4 (some (gK g 42)))) :: ((u2, qA g 7 6 (va_up (va_up (va_up (va_up (va_up (va_up (fun _ => none) 0 (some (gK g 32))) 1 (some (gK g 33))) 2 (some (gK g 34))) 3 (some (gK g 35))) 4 (some (gK g 36))) 5 (some (gK g 37)))) :: ((u1, qA g 7 6 (va_up (va_up (va_up (va_up (va_up (va_up (fun _ => none) 0 (some (gK g iE))) 1 (some (gK g 27))) 2 (some (gK g 28))) 3 (some (gK g 29))) 4 (some (gK g 30))) 5 (some (gK g 31)))) :: t))))) (hk5 : k ≤ 5) (hn : nt ≤ 10) (hne : ne ≤ 10) (ho : (a, .inr (11, [.int (28 : Int32), .int (nI n), .int (nI o), va, vb])) ∈ t) (hb : n < 10) : R g mX11_text (k + 1 + 8) ((16 * 2 ^ k - 16) + (16 * 2 ^ k - 16) + 12) ((33000 * 2 ^ k - 33000) + (33000 * 2 ^ k - 33000) + 32900) 128 [(4, .ref u4), (3, .ref u3), (2, .ref u2), (1, .ref u1), (0, .ref a)] [] t0 (Dq (fun (z : SZ) => some (sv g z)) (fun z => sw g (((([] : List Int32) ++ kT 46) ++ dgL n) ++ kT 47).length z ++ t) (fun z => sP (((([] : List Int32) ++ kT 46) ++ dgL n) ++ kT 47) z)) := by
  have hd3 : 3 + 1 ≤ k + 1 + 8 := by omega
  have hd6 : 6 + 1 ≤ k + 1 + 8 := by omega
  have hd7 : 7 + 1 ≤ k + 1 + 8 := by omega
  have m0 : (u4, qA g 7 4 (va_up (va_up (va_up (va_up (fun _ => none) 0 (some (gK g 43))) 1 (some (gK g 44))) 2 (some (gK g 45))) 3 (some (gK g 46)))) ∈ t0 := by rw [e0]; exact List.mem_cons_self
  have m1 : (u3, qA g 7 5 (va_up (va_up (va_up (va_up (va_up (fun _ => none) 0 (some (gK g 38))) 1 (some (gK g 39))) 2 (some (gK g 40))) 3 (some (gK g 41))) 4 (some (gK g 42)))) ∈ t0 := by rw [e0]; exact (List.mem_cons_of_mem _ List.mem_cons_self)
  have m2 : (u2, qA g 7 6 (va_up (va_up (va_up (va_up (va_up (va_up (fun _ => none) 0 (some (gK g 32))) 1 (some (gK g 33))) 2 (some (gK g 34))) 3 (some (gK g 35))) 4 (some (gK g 36))) 5 (some (gK g 37)))) ∈ t0 := by rw [e0]; exact (List.mem_cons_of_mem _ (List.mem_cons_of_mem _ List.mem_cons_self))
  have m3 : (u1, qA g 7 6 (va_up (va_up (va_up (va_up (va_up (va_up (fun _ => none) 0 (some (gK g iE))) 1 (some (gK g 27))) 2 (some (gK g 28))) 3 (some (gK g 29))) 4 (some (gK g 30))) 5 (some (gK g 31)))) ∈ t0 := by rw [e0]; exact (List.mem_cons_of_mem _ (List.mem_cons_of_mem _ (List.mem_cons_of_mem _ List.mem_cons_self)))
  have mt : ∀ p ∈ t, p ∈ t0 := fun p hp => by rw [e0]; exact (List.mem_cons_of_mem _ (List.mem_cons_of_mem _ (List.mem_cons_of_mem _ (List.mem_cons_of_mem _ hp))))
  have hoK := mt _ ho
  refine r_aload_n 4 dX11_text_128 rfl ?_
  refine r_getm (v := .int (28 : Int32)) (ci := 11) (fs := [.int (28 : Int32), .int (nI n), .int (nI o), va, vb]) dX11_text_129 fl_X11_7 hoK rfl ?_
  refine r_if_ne (tgt := 158) dX11_text_132 (by decide) (fun _ => ?_) (fun hc => absurd hc (by decide))
  refine r_aload_n 4 dX11_text_158 rfl ?_
  refine r_getm (v := .int (28 : Int32)) (ci := 11) (fs := [.int (28 : Int32), .int (nI n), .int (nI o), va, vb]) dX11_text_159 fl_X11_7 hoK rfl ?_
  refine r_iconst (v := (4 : Int32)) dX11_text_162 (by decide) ?_
  refine r_icmp_ge (tgt := 173) dX11_text_163 (by decide) (fun _ => ?_) (fun hc => absurd (by decide) hc)
  refine r_aload_n 4 dX11_text_173 rfl ?_
  refine r_getm (v := .int (28 : Int32)) (ci := 11) (fs := [.int (28 : Int32), .int (nI n), .int (nI o), va, vb]) dX11_text_174 fl_X11_7 hoK rfl ?_
  refine r_bipush (v := (6 : Int32)) dX11_text_177 (by decide) ?_
  refine r_icmp_ge (tgt := 214) dX11_text_179 (by decide) (fun _ => ?_) (fun hc => absurd (by decide) hc)
  refine r_aload_n 4 dX11_text_214 rfl ?_
  refine r_getm (v := .int (28 : Int32)) (ci := 11) (fs := [.int (28 : Int32), .int (nI n), .int (nI o), va, vb]) dX11_text_215 fl_X11_7 hoK rfl ?_
  refine r_bipush (v := (6 : Int32)) dX11_text_218 (by decide) ?_
  refine r_icmp_ne (tgt := 254) dX11_text_220 (by decide) (fun _ => ?_) (fun hc => absurd hc (by decide))
  refine r_aload_n 4 dX11_text_254 rfl ?_
  refine r_getm (v := .int (28 : Int32)) (ci := 11) (fs := [.int (28 : Int32), .int (nI n), .int (nI o), va, vb]) dX11_text_255 fl_X11_7 hoK rfl ?_
  refine r_bipush (v := (11 : Int32)) dX11_text_258 (by decide) ?_
  refine r_icmp_ge (tgt := 326) dX11_text_260 (by decide) (fun _ => ?_) (fun hc => absurd (by decide) hc)
  refine r_aload_n 4 dX11_text_326 rfl ?_
  refine r_getm (v := .int (28 : Int32)) (ci := 11) (fs := [.int (28 : Int32), .int (nI n), .int (nI o), va, vb]) dX11_text_327 fl_X11_7 hoK rfl ?_
  refine r_bipush (v := (13 : Int32)) dX11_text_330 (by decide) ?_
  refine r_icmp_ge (tgt := 388) dX11_text_332 (by decide) (fun _ => ?_) (fun hc => absurd (by decide) hc)
  refine r_aload_n 4 dX11_text_388 rfl ?_
  refine r_getm (v := .int (28 : Int32)) (ci := 11) (fs := [.int (28 : Int32), .int (nI n), .int (nI o), va, vb]) dX11_text_389 fl_X11_7 hoK rfl ?_
  refine r_bipush (v := (25 : Int32)) dX11_text_392 (by decide) ?_
  refine r_icmp_ge (tgt := 440) dX11_text_394 (by decide) (fun _ => ?_) (fun hc => absurd (by decide) hc)
  refine r_aload_n 4 dX11_text_440 rfl ?_
  refine r_getm (v := .int (28 : Int32)) (ci := 11) (fs := [.int (28 : Int32), .int (nI n), .int (nI o), va, vb]) dX11_text_441 fl_X11_7 hoK rfl ?_
  refine r_bipush (v := (25 : Int32)) dX11_text_444 (by decide) ?_
  refine r_icmp_ne (tgt := 491) dX11_text_446 (by decide) (fun _ => ?_) (fun hc => absurd hc (by decide))
  refine r_aload_n 4 dX11_text_491 rfl ?_
  refine r_getm (v := .int (28 : Int32)) (ci := 11) (fs := [.int (28 : Int32), .int (nI n), .int (nI o), va, vb]) dX11_text_492 fl_X11_7 hoK rfl ?_
  refine r_bipush (v := (29 : Int32)) dX11_text_495 (by decide) ?_
  refine r_icmp_ge (tgt := 536) dX11_text_497 (by decide) (fun hc => absurd hc (by decide)) (fun _ => ?_)
  refine r_new (N := 4) (x := ((16 * 2 ^ k - 16) + (16 * 2 ^ k - 16) + 11)) (y := ((33000 * 2 ^ k - 33000) + (33000 * 2 ^ k - 33000) + 32896)) dX11_text_500 nl_X11_110 (fun q19 => ?_)
  refine r_dup dX11_text_503 rfl ?_
  refine r_room (x2 := ((16 * 2 ^ k - 16) + (16 * 2 ^ k - 16) + 10) + 1) (y2 := ((33000 * 2 ^ k - 33000) + (33000 * 2 ^ k - 33000) + 32880) + 16) (rq rfl) (rq rfl) ?_
  refine k_I (x := ((16 * 2 ^ k - 16) + (16 * 2 ^ k - 16) + 10)) (y := ((33000 * 2 ^ k - 33000) + (33000 * 2 ^ k - 33000) + 32880)) (rest := [.ref q19]) dX11_text_504 ki_X11_112 (cj_sb) rfl rfl (Nat.le_of_ble_eq_true rfl) (by first | exact hd3 | exact hd6 | exact hd7) (by decide) ?_
  rintro bv662 -
  show R g mX11_text (k + 1 + 8) ((16 * 2 ^ k - 16) + (16 * 2 ^ k - 16) + 10) ((33000 * 2 ^ k - 33000) + (33000 * 2 ^ k - 33000) + 32880) 507 [(4, .ref u4), (3, .ref u3), (2, .ref u2), (1, .ref u1), (0, .ref a)] [.ref q19] ((q19, .inr (13, [.ref bv662, .int (0 : Int32), .int (0 : Int32), .int (nI ([] : List Int32).length)])) :: ((bv662, yA g 16 (fun _ => 0)) :: t0)) _
  refine r_aload 0 dX11_text_507 rfl ?_
  refine r_aload_n 4 dX11_text_509 rfl ?_
  refine r_getm (v := .int (28 : Int32)) (ci := 11) (fs := [.int (28 : Int32), .int (nI n), .int (nI o), va, vb]) dX11_text_510 fl_X11_7 (List.mem_cons_of_mem _ (List.mem_cons_of_mem _ hoK)) rfl ?_
  refine r_bipush (v := (25 : Int32)) dX11_text_513 (by decide) ?_
  refine r_isub dX11_text_515 ?_
  refine r_aaldm (t := 7) (n := 4) (f := (va_up (va_up (va_up (va_up (fun _ => none) 0 (some (gK g 43))) 1 (some (gK g 44))) 2 (some (gK g 45))) 3 (some (gK g 46)))) (v := .ref (gK g 46)) dX11_text_516 rfl rfl (List.mem_cons_of_mem _ (List.mem_cons_of_mem _ m0)) (by decide) (by rfl) ?_
  obtain ⟨L668, eL669⟩ : ∃ L9 : List Int32, L9 = ([] : List Int32) ++ kT 46 := ⟨_, rfl⟩
  have bn667 : L668.length ≤ 8 := by rw [eL669]; exact lnA (L := ([] : List Int32)) (L2 := kT 46) (n := 0) (n2 := 8) (Nat.le_refl 0) (Nat.le_of_eq kl_46)
  refine r_room (x2 := ((16 * 2 ^ k - 16) + (16 * 2 ^ k - 16) + 9) + 1) (y2 := ((33000 * 2 ^ k - 33000) + (33000 * 2 ^ k - 33000) + 28878) + 4002) (rq rfl) (rq rfl) ?_
  refine k_V (x := ((16 * 2 ^ k - 16) + (16 * 2 ^ k - 16) + 9)) (y := ((33000 * 2 ^ k - 33000) + (33000 * 2 ^ k - 33000) + 28878)) (rest := []) 0 dX11_text_517 kv_X11_113 (cj_apK (i := 46) (by decide) eL669 BL.nil (Nat.le_trans bn667 (by decide))) rfl rfl rfl rfl (Nat.le_of_ble_eq_true rfl) (by first | exact hd3 | exact hd6 | exact hd7) (by decide) ?_
  rintro ⟨bv663, bm664, bf665⟩ bh666
  try dsimp only at bh666
  show R g mX11_text (k + 1 + 8) ((16 * 2 ^ k - 16) + (16 * 2 ^ k - 16) + 9) ((33000 * 2 ^ k - 33000) + (33000 * 2 ^ k - 33000) + 28878) 520 [(4, .ref u4), (3, .ref u3), (2, .ref u2), (1, .ref u1), (0, .ref a)] [.ref q19] ((q19, .inr (13, [.ref bv663, .int (0 : Int32), .int (0 : Int32), .int (nI L668.length)])) :: ((bv663, yA g bm664 bf665) :: t0)) _
  refine r_aload_n 4 dX11_text_520 rfl ?_
  refine r_getm (v := .int (nI n)) (ci := 11) (fs := [.int (28 : Int32), .int (nI n), .int (nI o), va, vb]) dX11_text_521 fl_X11_13 (List.mem_cons_of_mem _ (List.mem_cons_of_mem _ hoK)) rfl ?_
  obtain ⟨L675, eL676⟩ : ∃ L9 : List Int32, L9 = L668 ++ dgL n := ⟨_, rfl⟩
  have bn674 : L675.length ≤ 9 := by rw [eL676]; exact lnA (L := L668) (L2 := dgL n) (n := 8) (n2 := 1) bn667 (dgL_t1 hb)
  refine r_room (x2 := ((16 * 2 ^ k - 16) + (16 * 2 ^ k - 16) + 8) + 1) (y2 := ((33000 * 2 ^ k - 33000) + (33000 * 2 ^ k - 33000) + 24876) + 4002) (rq rfl) (rq rfl) ?_
  refine k_V (x := ((16 * 2 ^ k - 16) + (16 * 2 ^ k - 16) + 8)) (y := ((33000 * 2 ^ k - 33000) + (33000 * 2 ^ k - 33000) + 24876)) (rest := []) 0 dX11_text_524 kv_X11_117 (cj_apI (x9 := n) (Nat.lt_trans hb (by decide)) eL676 bh666 (Nat.le_trans bn674 (by decide))) rfl rfl rfl rfl (Nat.le_of_ble_eq_true rfl) (by first | exact hd3 | exact hd6 | exact hd7) (by decide) ?_
  rintro ⟨bv670, bm671, bf672⟩ bh673
  try dsimp only at bh673
  show R g mX11_text (k + 1 + 8) ((16 * 2 ^ k - 16) + (16 * 2 ^ k - 16) + 8) ((33000 * 2 ^ k - 33000) + (33000 * 2 ^ k - 33000) + 24876) 527 [(4, .ref u4), (3, .ref u3), (2, .ref u2), (1, .ref u1), (0, .ref a)] [.ref q19] ((q19, .inr (13, [.ref bv670, .int (0 : Int32), .int (0 : Int32), .int (nI L675.length)])) :: ((bv670, yA g bm671 bf672) :: t0)) _
  refine r_ldcS (i := 47) dX11_text_527 rfl ?_
  obtain ⟨L682, eL683⟩ : ∃ L9 : List Int32, L9 = L675 ++ kT 47 := ⟨_, rfl⟩
  have bn681 : L682.length ≤ 10 := by rw [eL683]; exact lnA (L := L675) (L2 := kT 47) (n := 9) (n2 := 1) bn674 (Nat.le_of_eq kl_47)
  refine r_room (x2 := ((16 * 2 ^ k - 16) + (16 * 2 ^ k - 16) + 7) + 1) (y2 := ((33000 * 2 ^ k - 33000) + (33000 * 2 ^ k - 33000) + 20874) + 4002) (rq rfl) (rq rfl) ?_
  refine k_V (x := ((16 * 2 ^ k - 16) + (16 * 2 ^ k - 16) + 7)) (y := ((33000 * 2 ^ k - 33000) + (33000 * 2 ^ k - 33000) + 20874)) (rest := []) 0 dX11_text_529 kv_X11_113 (cj_apK (i := 47) (by decide) eL683 bh673 (Nat.le_trans bn681 (by decide))) rfl rfl rfl rfl (Nat.le_of_ble_eq_true rfl) (by first | exact hd3 | exact hd6 | exact hd7) (by decide) ?_
  rintro ⟨bv677, bm678, bf679⟩ bh680
  try dsimp only at bh680
  show R g mX11_text (k + 1 + 8) ((16 * 2 ^ k - 16) + (16 * 2 ^ k - 16) + 7) ((33000 * 2 ^ k - 33000) + (33000 * 2 ^ k - 33000) + 20874) 532 [(4, .ref u4), (3, .ref u3), (2, .ref u2), (1, .ref u1), (0, .ref a)] [.ref q19] ((q19, .inr (13, [.ref bv677, .int (0 : Int32), .int (0 : Int32), .int (nI L682.length)])) :: ((bv677, yA g bm678 bf679) :: t0)) _
  refine r_room (x2 := ((16 * 2 ^ k - 16) + (16 * 2 ^ k - 16) + 5) + 2) (y2 := ((33000 * 2 ^ k - 33000) + (33000 * 2 ^ k - 33000) + 16868) + 4006) (rq rfl) (rq rfl) ?_
  refine k_V (x := ((16 * 2 ^ k - 16) + (16 * 2 ^ k - 16) + 5)) (y := ((33000 * 2 ^ k - 33000) + (33000 * 2 ^ k - 33000) + 16868)) (rest := []) 0 dX11_text_532 kv_X11_120 (cj_strB bh680) rfl rfl rfl rfl (Nat.le_of_ble_eq_true rfl) (by first | exact hd3 | exact hd6 | exact hd7) (by decide) ?_
  rintro ⟨ts684, tb685, tf686⟩ th687
  try dsimp only at th687
  show R g mX11_text (k + 1 + 8) ((16 * 2 ^ k - 16) + (16 * 2 ^ k - 16) + 5) ((33000 * 2 ^ k - 33000) + (33000 * 2 ^ k - 33000) + 16868) 535 [(4, .ref u4), (3, .ref u3), (2, .ref u2), (1, .ref u1), (0, .ref a)] [.ref ts684] ((ts684, .inr (12, [.ref tb685, .int (0 : Int32), .int (0 : Int32), .int (0 : Int32)])) :: ((tb685, yA g L682.length tf686) :: ((q19, .inr (13, [.ref bv677, .int (0 : Int32), .int (0 : Int32), .int (nI L682.length)])) :: ((bv677, yA g bm678 bf679) :: t0)))) _
  rw [e0]
  refine r_seg (ws2 := ((ts684, .inr (12, [.ref tb685, .int (0 : Int32), .int (0 : Int32), .int (0 : Int32)])) :: ((tb685, yA g L682.length tf686) :: t))) [[(ts684, .inr (12, [.ref tb685, .int (0 : Int32), .int (0 : Int32), .int (0 : Int32)]))], [(tb685, yA g L682.length tf686)], [(q19, .inr (13, [.ref bv677, .int (0 : Int32), .int (0 : Int32), .int (nI L682.length)]))], [(bv677, yA g bm678 bf679)], [(u4, qA g 7 4 (va_up (va_up (va_up (va_up (fun _ => none) 0 (some (gK g 43))) 1 (some (gK g 44))) 2 (some (gK g 45))) 3 (some (gK g 46))))], [(u3, qA g 7 5 (va_up (va_up (va_up (va_up (va_up (fun _ => none) 0 (some (gK g 38))) 1 (some (gK g 39))) 2 (some (gK g 40))) 3 (some (gK g 41))) 4 (some (gK g 42))))], [(u2, qA g 7 6 (va_up (va_up (va_up (va_up (va_up (va_up (fun _ => none) 0 (some (gK g 32))) 1 (some (gK g 33))) 2 (some (gK g 34))) 3 (some (gK g 35))) 4 (some (gK g 36))) 5 (some (gK g 37))))], [(u1, qA g 7 6 (va_up (va_up (va_up (va_up (va_up (va_up (fun _ => none) 0 (some (gK g iE))) 1 (some (gK g 27))) 2 (some (gK g 28))) 3 (some (gK g 29))) 4 (some (gK g 30))) 5 (some (gK g 31))))], t] [0, 1, 8] rfl rfl rfl ?_
  subst eL683
  subst eL676
  subst eL669
  refine r_aret dX11_text_535 rfl rfl (Or.inr ⟨_, rfl⟩) ?_
  exact Dq.mk (Sum.inr (ts684, tb685, tf686)) rfl rfl th687
set_option maxRecDepth 20000 in
set_option maxHeartbeats 8000000 in
theorem tx_29 {g : GG} {ne nt k a n o u1 u2 u3 u4 : Nat} {t t0 : va_W} {x : TT k} {vb : Value} (IH : TextH g ne nt k) (e0 : t0 = ((u4, qA g 7 4 (va_up (va_up (va_up (va_up (fun _ => none) 0 (some (gK g 43))) 1 (some (gK g 44))) 2 (some (gK g 45))) 3 (some (gK g 46)))) :: ((u3, qA g 7 5 (va_up (va_up (va_up (va_up (va_up (fun _ => none) 0 (some (gK g 38))) 1 (some (gK g 39))) 2 (some (gK g 40))) 3 (some (gK g 41))) 4 (some (gK g 42)))) :: ((u2, qA g 7 6 (va_up (va_up (va_up (va_up (va_up (va_up (fun _ => none) 0 (some (gK g 32))) 1 (some (gK g 33))) 2 (some (gK g 34))) 3 (some (gK g 35))) 4 (some (gK g 36))) 5 (some (gK g 37)))) :: ((u1, qA g 7 6 (va_up (va_up (va_up (va_up (va_up (va_up (fun _ => none) 0 (some (gK g iE))) 1 (some (gK g 27))) 2 (some (gK g 28))) 3 (some (gK g 29))) 4 (some (gK g 30))) 5 (some (gK g 31)))) :: t))))) (hk5 : k ≤ 5) (hn : nt ≤ 10) (hne : ne ≤ 10) (ho : (a, .inr (11, [.int (29 : Int32), .int (nI n), .int (nI o), .ref (tA k x), vb])) ∈ t) (hmx : TM g t k x) (hx : TE ne nt k x ∨ TB ne nt k x) : R g mX11_text (k + 1 + 8) ((16 * 2 ^ k - 16) + (16 * 2 ^ k - 16) + 12) ((33000 * 2 ^ k - 33000) + (33000 * 2 ^ k - 33000) + 32900) 128 [(4, .ref u4), (3, .ref u3), (2, .ref u2), (1, .ref u1), (0, .ref a)] [] t0 (Dq (fun (z : SZ) => some (sv g z)) (fun z => sw g (((([] : List Int32) ++ kT 53) ++ (txt k x)) ++ kT 54).length z ++ t) (fun z => sP (((([] : List Int32) ++ kT 53) ++ (txt k x)) ++ kT 54) z)) := by
  have hd3 : 3 + 1 ≤ k + 1 + 8 := by omega
  have hd6 : 6 + 1 ≤ k + 1 + 8 := by omega
  have hd7 : 7 + 1 ≤ k + 1 + 8 := by omega
  have hp5 : 2 ^ k ≤ 32 := Nat.le_trans (Nat.pow_le_pow_right (by decide) hk5) (by decide)
  have hlk : 12 * 2 ^ k - 7 ≤ 377 := by omega
  have lx := Nat.le_trans (txt_len hne hn k x hx) hlk
  have m0 : (u4, qA g 7 4 (va_up (va_up (va_up (va_up (fun _ => none) 0 (some (gK g 43))) 1 (some (gK g 44))) 2 (some (gK g 45))) 3 (some (gK g 46)))) ∈ t0 := by rw [e0]; exact List.mem_cons_self
  have m1 : (u3, qA g 7 5 (va_up (va_up (va_up (va_up (va_up (fun _ => none) 0 (some (gK g 38))) 1 (some (gK g 39))) 2 (some (gK g 40))) 3 (some (gK g 41))) 4 (some (gK g 42)))) ∈ t0 := by rw [e0]; exact (List.mem_cons_of_mem _ List.mem_cons_self)
  have m2 : (u2, qA g 7 6 (va_up (va_up (va_up (va_up (va_up (va_up (fun _ => none) 0 (some (gK g 32))) 1 (some (gK g 33))) 2 (some (gK g 34))) 3 (some (gK g 35))) 4 (some (gK g 36))) 5 (some (gK g 37)))) ∈ t0 := by rw [e0]; exact (List.mem_cons_of_mem _ (List.mem_cons_of_mem _ List.mem_cons_self))
  have m3 : (u1, qA g 7 6 (va_up (va_up (va_up (va_up (va_up (va_up (fun _ => none) 0 (some (gK g iE))) 1 (some (gK g 27))) 2 (some (gK g 28))) 3 (some (gK g 29))) 4 (some (gK g 30))) 5 (some (gK g 31)))) ∈ t0 := by rw [e0]; exact (List.mem_cons_of_mem _ (List.mem_cons_of_mem _ (List.mem_cons_of_mem _ List.mem_cons_self)))
  have mt : ∀ p ∈ t, p ∈ t0 := fun p hp => by rw [e0]; exact (List.mem_cons_of_mem _ (List.mem_cons_of_mem _ (List.mem_cons_of_mem _ (List.mem_cons_of_mem _ hp))))
  have hoK := mt _ ho
  refine r_aload_n 4 dX11_text_128 rfl ?_
  refine r_getm (v := .int (29 : Int32)) (ci := 11) (fs := [.int (29 : Int32), .int (nI n), .int (nI o), .ref (tA k x), vb]) dX11_text_129 fl_X11_7 hoK rfl ?_
  refine r_if_ne (tgt := 158) dX11_text_132 (by decide) (fun _ => ?_) (fun hc => absurd hc (by decide))
  refine r_aload_n 4 dX11_text_158 rfl ?_
  refine r_getm (v := .int (29 : Int32)) (ci := 11) (fs := [.int (29 : Int32), .int (nI n), .int (nI o), .ref (tA k x), vb]) dX11_text_159 fl_X11_7 hoK rfl ?_
  refine r_iconst (v := (4 : Int32)) dX11_text_162 (by decide) ?_
  refine r_icmp_ge (tgt := 173) dX11_text_163 (by decide) (fun _ => ?_) (fun hc => absurd (by decide) hc)
  refine r_aload_n 4 dX11_text_173 rfl ?_
  refine r_getm (v := .int (29 : Int32)) (ci := 11) (fs := [.int (29 : Int32), .int (nI n), .int (nI o), .ref (tA k x), vb]) dX11_text_174 fl_X11_7 hoK rfl ?_
  refine r_bipush (v := (6 : Int32)) dX11_text_177 (by decide) ?_
  refine r_icmp_ge (tgt := 214) dX11_text_179 (by decide) (fun _ => ?_) (fun hc => absurd (by decide) hc)
  refine r_aload_n 4 dX11_text_214 rfl ?_
  refine r_getm (v := .int (29 : Int32)) (ci := 11) (fs := [.int (29 : Int32), .int (nI n), .int (nI o), .ref (tA k x), vb]) dX11_text_215 fl_X11_7 hoK rfl ?_
  refine r_bipush (v := (6 : Int32)) dX11_text_218 (by decide) ?_
  refine r_icmp_ne (tgt := 254) dX11_text_220 (by decide) (fun _ => ?_) (fun hc => absurd hc (by decide))
  refine r_aload_n 4 dX11_text_254 rfl ?_
  refine r_getm (v := .int (29 : Int32)) (ci := 11) (fs := [.int (29 : Int32), .int (nI n), .int (nI o), .ref (tA k x), vb]) dX11_text_255 fl_X11_7 hoK rfl ?_
  refine r_bipush (v := (11 : Int32)) dX11_text_258 (by decide) ?_
  refine r_icmp_ge (tgt := 326) dX11_text_260 (by decide) (fun _ => ?_) (fun hc => absurd (by decide) hc)
  refine r_aload_n 4 dX11_text_326 rfl ?_
  refine r_getm (v := .int (29 : Int32)) (ci := 11) (fs := [.int (29 : Int32), .int (nI n), .int (nI o), .ref (tA k x), vb]) dX11_text_327 fl_X11_7 hoK rfl ?_
  refine r_bipush (v := (13 : Int32)) dX11_text_330 (by decide) ?_
  refine r_icmp_ge (tgt := 388) dX11_text_332 (by decide) (fun _ => ?_) (fun hc => absurd (by decide) hc)
  refine r_aload_n 4 dX11_text_388 rfl ?_
  refine r_getm (v := .int (29 : Int32)) (ci := 11) (fs := [.int (29 : Int32), .int (nI n), .int (nI o), .ref (tA k x), vb]) dX11_text_389 fl_X11_7 hoK rfl ?_
  refine r_bipush (v := (25 : Int32)) dX11_text_392 (by decide) ?_
  refine r_icmp_ge (tgt := 440) dX11_text_394 (by decide) (fun _ => ?_) (fun hc => absurd (by decide) hc)
  refine r_aload_n 4 dX11_text_440 rfl ?_
  refine r_getm (v := .int (29 : Int32)) (ci := 11) (fs := [.int (29 : Int32), .int (nI n), .int (nI o), .ref (tA k x), vb]) dX11_text_441 fl_X11_7 hoK rfl ?_
  refine r_bipush (v := (25 : Int32)) dX11_text_444 (by decide) ?_
  refine r_icmp_ne (tgt := 491) dX11_text_446 (by decide) (fun _ => ?_) (fun hc => absurd hc (by decide))
  refine r_aload_n 4 dX11_text_491 rfl ?_
  refine r_getm (v := .int (29 : Int32)) (ci := 11) (fs := [.int (29 : Int32), .int (nI n), .int (nI o), .ref (tA k x), vb]) dX11_text_492 fl_X11_7 hoK rfl ?_
  refine r_bipush (v := (29 : Int32)) dX11_text_495 (by decide) ?_
  refine r_icmp_ge (tgt := 536) dX11_text_497 (by decide) (fun _ => ?_) (fun hc => absurd (by decide) hc)
  refine r_aload_n 4 dX11_text_536 rfl ?_
  refine r_getm (v := .int (29 : Int32)) (ci := 11) (fs := [.int (29 : Int32), .int (nI n), .int (nI o), .ref (tA k x), vb]) dX11_text_537 fl_X11_7 hoK rfl ?_
  refine r_bipush (v := (29 : Int32)) dX11_text_540 (by decide) ?_
  refine r_icmp_ne (tgt := 578) dX11_text_542 (by decide) (fun hc => absurd (by decide) hc) (fun _ => ?_)
  refine r_new (N := 4) (x := ((16 * 2 ^ k - 16) + (16 * 2 ^ k - 16) + 11)) (y := ((33000 * 2 ^ k - 33000) + (33000 * 2 ^ k - 33000) + 32896)) dX11_text_545 nl_X11_110 (fun q20 => ?_)
  refine r_dup dX11_text_548 rfl ?_
  refine r_room (x2 := ((16 * 2 ^ k - 16) + (16 * 2 ^ k - 16) + 10) + 1) (y2 := ((33000 * 2 ^ k - 33000) + (33000 * 2 ^ k - 33000) + 32880) + 16) (rq rfl) (rq rfl) ?_
  refine k_I (x := ((16 * 2 ^ k - 16) + (16 * 2 ^ k - 16) + 10)) (y := ((33000 * 2 ^ k - 33000) + (33000 * 2 ^ k - 33000) + 32880)) (rest := [.ref q20]) dX11_text_549 ki_X11_112 (cj_sb) rfl rfl (Nat.le_of_ble_eq_true rfl) (by first | exact hd3 | exact hd6 | exact hd7) (by decide) ?_
  rintro bv688 -
  show R g mX11_text (k + 1 + 8) ((16 * 2 ^ k - 16) + (16 * 2 ^ k - 16) + 10) ((33000 * 2 ^ k - 33000) + (33000 * 2 ^ k - 33000) + 32880) 552 [(4, .ref u4), (3, .ref u3), (2, .ref u2), (1, .ref u1), (0, .ref a)] [.ref q20] ((q20, .inr (13, [.ref bv688, .int (0 : Int32), .int (0 : Int32), .int (nI ([] : List Int32).length)])) :: ((bv688, yA g 16 (fun _ => 0)) :: t0)) _
  refine r_ldcS (i := 53) dX11_text_552 rfl ?_
  obtain ⟨L694, eL695⟩ : ∃ L9 : List Int32, L9 = ([] : List Int32) ++ kT 53 := ⟨_, rfl⟩
  have bn693 : L694.length ≤ 4 := by rw [eL695]; exact lnA (L := ([] : List Int32)) (L2 := kT 53) (n := 0) (n2 := 4) (Nat.le_refl 0) (Nat.le_of_eq kl_53)
  refine r_room (x2 := ((16 * 2 ^ k - 16) + (16 * 2 ^ k - 16) + 9) + 1) (y2 := ((33000 * 2 ^ k - 33000) + (33000 * 2 ^ k - 33000) + 28878) + 4002) (rq rfl) (rq rfl) ?_
  refine k_V (x := ((16 * 2 ^ k - 16) + (16 * 2 ^ k - 16) + 9)) (y := ((33000 * 2 ^ k - 33000) + (33000 * 2 ^ k - 33000) + 28878)) (rest := []) 0 dX11_text_554 kv_X11_113 (cj_apK (i := 53) (by decide) eL695 BL.nil (Nat.le_trans bn693 (by decide))) rfl rfl rfl rfl (Nat.le_of_ble_eq_true rfl) (by first | exact hd3 | exact hd6 | exact hd7) (by decide) ?_
  rintro ⟨bv689, bm690, bf691⟩ bh692
  try dsimp only at bh692
  show R g mX11_text (k + 1 + 8) ((16 * 2 ^ k - 16) + (16 * 2 ^ k - 16) + 9) ((33000 * 2 ^ k - 33000) + (33000 * 2 ^ k - 33000) + 28878) 557 [(4, .ref u4), (3, .ref u3), (2, .ref u2), (1, .ref u1), (0, .ref a)] [.ref q20] ((q20, .inr (13, [.ref bv689, .int (0 : Int32), .int (0 : Int32), .int (nI L694.length)])) :: ((bv689, yA g bm690 bf691) :: t0)) _
  refine r_aload_n 4 dX11_text_557 rfl ?_
  refine r_getm (v := .ref (tA k x)) (ci := 11) (fs := [.int (29 : Int32), .int (nI n), .int (nI o), .ref (tA k x), vb]) dX11_text_558 fl_X11_40 (List.mem_cons_of_mem _ (List.mem_cons_of_mem _ hoK)) rfl ?_
  obtain ⟨fszz696, hfzz696⟩ := TM.cell k x hmx
  refine r_room (x2 := ((16 * 2 ^ k - 16) + 9) + (16 * 2 ^ k - 16)) (y2 := ((33000 * 2 ^ k - 33000) + 28878) + (33000 * 2 ^ k - 33000)) (Nat.le_of_eq (Nat.add_right_comm _ _ _)) (Nat.le_of_eq (Nat.add_right_comm _ _ _)) ?_
  refine k_Vm (x := ((16 * 2 ^ k - 16) + 9)) (y := ((33000 * 2 ^ k - 33000) + 28878)) (rest := [.ref q20]) dX11_text_561 kv_X11_128 (IH x _ (TM.mono (fun p hp => (List.mem_cons_of_mem _ (List.mem_cons_of_mem _ (mt p hp)))) k x hmx) hx) rfl rfl (List.mem_cons_of_mem _ (List.mem_cons_of_mem _ (mt _ hfzz696))) rfl (Nat.le_of_ble_eq_true rfl) (Nat.le_of_eq (Nat.add_right_comm _ _ _)) (by decide) ?_
  rintro zz696 hz697
  refine r_seg (ws2 := ((q20, .inr (13, [.ref bv689, .int (0 : Int32), .int (0 : Int32), .int (nI L694.length)])) :: ((bv689, yA g bm690 bf691) :: ((sw g (txt k x).length zz696) ++ t0)))) [sw g (txt k x).length zz696, [(q20, .inr (13, [.ref bv689, .int (0 : Int32), .int (0 : Int32), .int (nI L694.length)]))], [(bv689, yA g bm690 bf691)], t0] [1, 2, 0, 3] rfl rfl rfl ?_
  obtain ⟨L703, eL704⟩ : ∃ L9 : List Int32, L9 = L694 ++ txt k x := ⟨_, rfl⟩
  have bn702 : L703.length ≤ 381 := by rw [eL704]; exact lnA (L := L694) (L2 := txt k x) (n := 4) (n2 := 377) bn693 (lx)
  refine r_room (x2 := ((16 * 2 ^ k - 16) + 8) + 1) (y2 := ((33000 * 2 ^ k - 33000) + 24876) + 4002) (rq rfl) (rq rfl) ?_
  refine k_V (x := ((16 * 2 ^ k - 16) + 8)) (y := ((33000 * 2 ^ k - 33000) + 24876)) (rest := []) 0 dX11_text_564 kv_X11_113 (cj_apX (L2 := txt k x) (z := zz696) hz697 eL704 bh692 (Nat.le_trans bn702 (by decide))) rfl rfl rfl rfl (Nat.le_of_ble_eq_true rfl) (by first | exact hd3 | exact hd6 | exact hd7) (by decide) ?_
  rintro ⟨bv698, bm699, bf700⟩ bh701
  try dsimp only at bh701
  show R g mX11_text (k + 1 + 8) ((16 * 2 ^ k - 16) + 8) ((33000 * 2 ^ k - 33000) + 24876) 567 [(4, .ref u4), (3, .ref u3), (2, .ref u2), (1, .ref u1), (0, .ref a)] [.ref q20] ((q20, .inr (13, [.ref bv698, .int (0 : Int32), .int (0 : Int32), .int (nI L703.length)])) :: ((bv698, yA g bm699 bf700) :: ((sw g (txt k x).length zz696) ++ t0))) _
  refine r_seg (ws2 := ((q20, .inr (13, [.ref bv698, .int (0 : Int32), .int (0 : Int32), .int (nI L703.length)])) :: ((bv698, yA g bm699 bf700) :: t0))) [[(q20, .inr (13, [.ref bv698, .int (0 : Int32), .int (0 : Int32), .int (nI L703.length)]))], [(bv698, yA g bm699 bf700)], sw g (txt k x).length zz696, t0] [0, 1, 3] rfl rfl rfl ?_
  refine r_ldcS (i := 54) dX11_text_567 rfl ?_
  obtain ⟨L710, eL711⟩ : ∃ L9 : List Int32, L9 = L703 ++ kT 54 := ⟨_, rfl⟩
  have bn709 : L710.length ≤ 382 := by rw [eL711]; exact lnA (L := L703) (L2 := kT 54) (n := 381) (n2 := 1) bn702 (Nat.le_of_eq kl_54)
  refine r_room (x2 := ((16 * 2 ^ k - 16) + 7) + 1) (y2 := ((33000 * 2 ^ k - 33000) + 20874) + 4002) (rq rfl) (rq rfl) ?_
  refine k_V (x := ((16 * 2 ^ k - 16) + 7)) (y := ((33000 * 2 ^ k - 33000) + 20874)) (rest := []) 0 dX11_text_569 kv_X11_113 (cj_apK (i := 54) (by decide) eL711 bh701 (Nat.le_trans bn709 (by decide))) rfl rfl rfl rfl (Nat.le_of_ble_eq_true rfl) (by first | exact hd3 | exact hd6 | exact hd7) (by decide) ?_
  rintro ⟨bv705, bm706, bf707⟩ bh708
  try dsimp only at bh708
  show R g mX11_text (k + 1 + 8) ((16 * 2 ^ k - 16) + 7) ((33000 * 2 ^ k - 33000) + 20874) 572 [(4, .ref u4), (3, .ref u3), (2, .ref u2), (1, .ref u1), (0, .ref a)] [.ref q20] ((q20, .inr (13, [.ref bv705, .int (0 : Int32), .int (0 : Int32), .int (nI L710.length)])) :: ((bv705, yA g bm706 bf707) :: t0)) _
  refine r_room (x2 := ((16 * 2 ^ k - 16) + 5) + 2) (y2 := ((33000 * 2 ^ k - 33000) + 16868) + 4006) (rq rfl) (rq rfl) ?_
  refine k_V (x := ((16 * 2 ^ k - 16) + 5)) (y := ((33000 * 2 ^ k - 33000) + 16868)) (rest := []) 0 dX11_text_572 kv_X11_120 (cj_strB bh708) rfl rfl rfl rfl (Nat.le_of_ble_eq_true rfl) (by first | exact hd3 | exact hd6 | exact hd7) (by decide) ?_
  rintro ⟨ts712, tb713, tf714⟩ th715
  try dsimp only at th715
  show R g mX11_text (k + 1 + 8) ((16 * 2 ^ k - 16) + 5) ((33000 * 2 ^ k - 33000) + 16868) 575 [(4, .ref u4), (3, .ref u3), (2, .ref u2), (1, .ref u1), (0, .ref a)] [.ref ts712] ((ts712, .inr (12, [.ref tb713, .int (0 : Int32), .int (0 : Int32), .int (0 : Int32)])) :: ((tb713, yA g L710.length tf714) :: ((q20, .inr (13, [.ref bv705, .int (0 : Int32), .int (0 : Int32), .int (nI L710.length)])) :: ((bv705, yA g bm706 bf707) :: t0)))) _
  refine r_goto (tgt := 647) dX11_text_575 (by decide) ?_
  rw [e0]
  refine r_seg (ws2 := ((ts712, .inr (12, [.ref tb713, .int (0 : Int32), .int (0 : Int32), .int (0 : Int32)])) :: ((tb713, yA g L710.length tf714) :: t))) [[(ts712, .inr (12, [.ref tb713, .int (0 : Int32), .int (0 : Int32), .int (0 : Int32)]))], [(tb713, yA g L710.length tf714)], [(q20, .inr (13, [.ref bv705, .int (0 : Int32), .int (0 : Int32), .int (nI L710.length)]))], [(bv705, yA g bm706 bf707)], [(u4, qA g 7 4 (va_up (va_up (va_up (va_up (fun _ => none) 0 (some (gK g 43))) 1 (some (gK g 44))) 2 (some (gK g 45))) 3 (some (gK g 46))))], [(u3, qA g 7 5 (va_up (va_up (va_up (va_up (va_up (fun _ => none) 0 (some (gK g 38))) 1 (some (gK g 39))) 2 (some (gK g 40))) 3 (some (gK g 41))) 4 (some (gK g 42))))], [(u2, qA g 7 6 (va_up (va_up (va_up (va_up (va_up (va_up (fun _ => none) 0 (some (gK g 32))) 1 (some (gK g 33))) 2 (some (gK g 34))) 3 (some (gK g 35))) 4 (some (gK g 36))) 5 (some (gK g 37))))], [(u1, qA g 7 6 (va_up (va_up (va_up (va_up (va_up (va_up (fun _ => none) 0 (some (gK g iE))) 1 (some (gK g 27))) 2 (some (gK g 28))) 3 (some (gK g 29))) 4 (some (gK g 30))) 5 (some (gK g 31))))], t] [0, 1, 8] rfl rfl rfl ?_
  subst eL711
  subst eL704
  subst eL695
  refine r_aret dX11_text_647 rfl rfl (Or.inr ⟨_, rfl⟩) ?_
  exact Dq.mk (Sum.inr (ts712, tb713, tf714)) rfl rfl th715
set_option maxRecDepth 20000 in
set_option maxHeartbeats 8000000 in
theorem tx_30 {g : GG} {ne nt k a n o u1 u2 u3 u4 : Nat} {t t0 : va_W} {x y : TT k} (IH : TextH g ne nt k) (e0 : t0 = ((u4, qA g 7 4 (va_up (va_up (va_up (va_up (fun _ => none) 0 (some (gK g 43))) 1 (some (gK g 44))) 2 (some (gK g 45))) 3 (some (gK g 46)))) :: ((u3, qA g 7 5 (va_up (va_up (va_up (va_up (va_up (fun _ => none) 0 (some (gK g 38))) 1 (some (gK g 39))) 2 (some (gK g 40))) 3 (some (gK g 41))) 4 (some (gK g 42)))) :: ((u2, qA g 7 6 (va_up (va_up (va_up (va_up (va_up (va_up (fun _ => none) 0 (some (gK g 32))) 1 (some (gK g 33))) 2 (some (gK g 34))) 3 (some (gK g 35))) 4 (some (gK g 36))) 5 (some (gK g 37)))) :: ((u1, qA g 7 6 (va_up (va_up (va_up (va_up (va_up (va_up (fun _ => none) 0 (some (gK g iE))) 1 (some (gK g 27))) 2 (some (gK g 28))) 3 (some (gK g 29))) 4 (some (gK g 30))) 5 (some (gK g 31)))) :: t))))) (hk5 : k ≤ 5) (hn : nt ≤ 10) (hne : ne ≤ 10) (ho : (a, .inr (11, [.int (30 : Int32), .int (nI n), .int (nI o), .ref (tA k x), .ref (tA k y)])) ∈ t) (hmx : TM g t k x) (hx : TE ne nt k x ∨ TB ne nt k x) (hmy : TM g t k y) (hy : TE ne nt k y ∨ TB ne nt k y) : R g mX11_text (k + 1 + 8) ((16 * 2 ^ k - 16) + (16 * 2 ^ k - 16) + 12) ((33000 * 2 ^ k - 33000) + (33000 * 2 ^ k - 33000) + 32900) 128 [(4, .ref u4), (3, .ref u3), (2, .ref u2), (1, .ref u1), (0, .ref a)] [] t0 (Dq (fun (z : SZ) => some (sv g z)) (fun z => sw g (((((((([] : List Int32) ++ kT 55) ++ (txt k x)) ++ kT 54) ++ kT 56) ++ kT 55) ++ (txt k y)) ++ kT 54).length z ++ t) (fun z => sP (((((((([] : List Int32) ++ kT 55) ++ (txt k x)) ++ kT 54) ++ kT 56) ++ kT 55) ++ (txt k y)) ++ kT 54) z)) := by
  have hd3 : 3 + 1 ≤ k + 1 + 8 := by omega
  have hd6 : 6 + 1 ≤ k + 1 + 8 := by omega
  have hd7 : 7 + 1 ≤ k + 1 + 8 := by omega
  have hp5 : 2 ^ k ≤ 32 := Nat.le_trans (Nat.pow_le_pow_right (by decide) hk5) (by decide)
  have hlk : 12 * 2 ^ k - 7 ≤ 377 := by omega
  have lx := Nat.le_trans (txt_len hne hn k x hx) hlk
  have ly := Nat.le_trans (txt_len hne hn k y hy) hlk
  have m0 : (u4, qA g 7 4 (va_up (va_up (va_up (va_up (fun _ => none) 0 (some (gK g 43))) 1 (some (gK g 44))) 2 (some (gK g 45))) 3 (some (gK g 46)))) ∈ t0 := by rw [e0]; exact List.mem_cons_self
  have m1 : (u3, qA g 7 5 (va_up (va_up (va_up (va_up (va_up (fun _ => none) 0 (some (gK g 38))) 1 (some (gK g 39))) 2 (some (gK g 40))) 3 (some (gK g 41))) 4 (some (gK g 42)))) ∈ t0 := by rw [e0]; exact (List.mem_cons_of_mem _ List.mem_cons_self)
  have m2 : (u2, qA g 7 6 (va_up (va_up (va_up (va_up (va_up (va_up (fun _ => none) 0 (some (gK g 32))) 1 (some (gK g 33))) 2 (some (gK g 34))) 3 (some (gK g 35))) 4 (some (gK g 36))) 5 (some (gK g 37)))) ∈ t0 := by rw [e0]; exact (List.mem_cons_of_mem _ (List.mem_cons_of_mem _ List.mem_cons_self))
  have m3 : (u1, qA g 7 6 (va_up (va_up (va_up (va_up (va_up (va_up (fun _ => none) 0 (some (gK g iE))) 1 (some (gK g 27))) 2 (some (gK g 28))) 3 (some (gK g 29))) 4 (some (gK g 30))) 5 (some (gK g 31)))) ∈ t0 := by rw [e0]; exact (List.mem_cons_of_mem _ (List.mem_cons_of_mem _ (List.mem_cons_of_mem _ List.mem_cons_self)))
  have mt : ∀ p ∈ t, p ∈ t0 := fun p hp => by rw [e0]; exact (List.mem_cons_of_mem _ (List.mem_cons_of_mem _ (List.mem_cons_of_mem _ (List.mem_cons_of_mem _ hp))))
  have hoK := mt _ ho
  refine r_aload_n 4 dX11_text_128 rfl ?_
  refine r_getm (v := .int (30 : Int32)) (ci := 11) (fs := [.int (30 : Int32), .int (nI n), .int (nI o), .ref (tA k x), .ref (tA k y)]) dX11_text_129 fl_X11_7 hoK rfl ?_
  refine r_if_ne (tgt := 158) dX11_text_132 (by decide) (fun _ => ?_) (fun hc => absurd hc (by decide))
  refine r_aload_n 4 dX11_text_158 rfl ?_
  refine r_getm (v := .int (30 : Int32)) (ci := 11) (fs := [.int (30 : Int32), .int (nI n), .int (nI o), .ref (tA k x), .ref (tA k y)]) dX11_text_159 fl_X11_7 hoK rfl ?_
  refine r_iconst (v := (4 : Int32)) dX11_text_162 (by decide) ?_
  refine r_icmp_ge (tgt := 173) dX11_text_163 (by decide) (fun _ => ?_) (fun hc => absurd (by decide) hc)
  refine r_aload_n 4 dX11_text_173 rfl ?_
  refine r_getm (v := .int (30 : Int32)) (ci := 11) (fs := [.int (30 : Int32), .int (nI n), .int (nI o), .ref (tA k x), .ref (tA k y)]) dX11_text_174 fl_X11_7 hoK rfl ?_
  refine r_bipush (v := (6 : Int32)) dX11_text_177 (by decide) ?_
  refine r_icmp_ge (tgt := 214) dX11_text_179 (by decide) (fun _ => ?_) (fun hc => absurd (by decide) hc)
  refine r_aload_n 4 dX11_text_214 rfl ?_
  refine r_getm (v := .int (30 : Int32)) (ci := 11) (fs := [.int (30 : Int32), .int (nI n), .int (nI o), .ref (tA k x), .ref (tA k y)]) dX11_text_215 fl_X11_7 hoK rfl ?_
  refine r_bipush (v := (6 : Int32)) dX11_text_218 (by decide) ?_
  refine r_icmp_ne (tgt := 254) dX11_text_220 (by decide) (fun _ => ?_) (fun hc => absurd hc (by decide))
  refine r_aload_n 4 dX11_text_254 rfl ?_
  refine r_getm (v := .int (30 : Int32)) (ci := 11) (fs := [.int (30 : Int32), .int (nI n), .int (nI o), .ref (tA k x), .ref (tA k y)]) dX11_text_255 fl_X11_7 hoK rfl ?_
  refine r_bipush (v := (11 : Int32)) dX11_text_258 (by decide) ?_
  refine r_icmp_ge (tgt := 326) dX11_text_260 (by decide) (fun _ => ?_) (fun hc => absurd (by decide) hc)
  refine r_aload_n 4 dX11_text_326 rfl ?_
  refine r_getm (v := .int (30 : Int32)) (ci := 11) (fs := [.int (30 : Int32), .int (nI n), .int (nI o), .ref (tA k x), .ref (tA k y)]) dX11_text_327 fl_X11_7 hoK rfl ?_
  refine r_bipush (v := (13 : Int32)) dX11_text_330 (by decide) ?_
  refine r_icmp_ge (tgt := 388) dX11_text_332 (by decide) (fun _ => ?_) (fun hc => absurd (by decide) hc)
  refine r_aload_n 4 dX11_text_388 rfl ?_
  refine r_getm (v := .int (30 : Int32)) (ci := 11) (fs := [.int (30 : Int32), .int (nI n), .int (nI o), .ref (tA k x), .ref (tA k y)]) dX11_text_389 fl_X11_7 hoK rfl ?_
  refine r_bipush (v := (25 : Int32)) dX11_text_392 (by decide) ?_
  refine r_icmp_ge (tgt := 440) dX11_text_394 (by decide) (fun _ => ?_) (fun hc => absurd (by decide) hc)
  refine r_aload_n 4 dX11_text_440 rfl ?_
  refine r_getm (v := .int (30 : Int32)) (ci := 11) (fs := [.int (30 : Int32), .int (nI n), .int (nI o), .ref (tA k x), .ref (tA k y)]) dX11_text_441 fl_X11_7 hoK rfl ?_
  refine r_bipush (v := (25 : Int32)) dX11_text_444 (by decide) ?_
  refine r_icmp_ne (tgt := 491) dX11_text_446 (by decide) (fun _ => ?_) (fun hc => absurd hc (by decide))
  refine r_aload_n 4 dX11_text_491 rfl ?_
  refine r_getm (v := .int (30 : Int32)) (ci := 11) (fs := [.int (30 : Int32), .int (nI n), .int (nI o), .ref (tA k x), .ref (tA k y)]) dX11_text_492 fl_X11_7 hoK rfl ?_
  refine r_bipush (v := (29 : Int32)) dX11_text_495 (by decide) ?_
  refine r_icmp_ge (tgt := 536) dX11_text_497 (by decide) (fun _ => ?_) (fun hc => absurd (by decide) hc)
  refine r_aload_n 4 dX11_text_536 rfl ?_
  refine r_getm (v := .int (30 : Int32)) (ci := 11) (fs := [.int (30 : Int32), .int (nI n), .int (nI o), .ref (tA k x), .ref (tA k y)]) dX11_text_537 fl_X11_7 hoK rfl ?_
  refine r_bipush (v := (29 : Int32)) dX11_text_540 (by decide) ?_
  refine r_icmp_ne (tgt := 578) dX11_text_542 (by decide) (fun _ => ?_) (fun hc => absurd hc (by decide))
  refine r_new (N := 4) (x := ((16 * 2 ^ k - 16) + (16 * 2 ^ k - 16) + 11)) (y := ((33000 * 2 ^ k - 33000) + (33000 * 2 ^ k - 33000) + 32896)) dX11_text_578 nl_X11_110 (fun q21 => ?_)
  refine r_dup dX11_text_581 rfl ?_
  refine r_room (x2 := ((16 * 2 ^ k - 16) + (16 * 2 ^ k - 16) + 10) + 1) (y2 := ((33000 * 2 ^ k - 33000) + (33000 * 2 ^ k - 33000) + 32880) + 16) (rq rfl) (rq rfl) ?_
  refine k_I (x := ((16 * 2 ^ k - 16) + (16 * 2 ^ k - 16) + 10)) (y := ((33000 * 2 ^ k - 33000) + (33000 * 2 ^ k - 33000) + 32880)) (rest := [.ref q21]) dX11_text_582 ki_X11_112 (cj_sb) rfl rfl (Nat.le_of_ble_eq_true rfl) (by first | exact hd3 | exact hd6 | exact hd7) (by decide) ?_
  rintro bv716 -
  show R g mX11_text (k + 1 + 8) ((16 * 2 ^ k - 16) + (16 * 2 ^ k - 16) + 10) ((33000 * 2 ^ k - 33000) + (33000 * 2 ^ k - 33000) + 32880) 585 [(4, .ref u4), (3, .ref u3), (2, .ref u2), (1, .ref u1), (0, .ref a)] [.ref q21] ((q21, .inr (13, [.ref bv716, .int (0 : Int32), .int (0 : Int32), .int (nI ([] : List Int32).length)])) :: ((bv716, yA g 16 (fun _ => 0)) :: t0)) _
  refine r_ldcS (i := 55) dX11_text_585 rfl ?_
  obtain ⟨L722, eL723⟩ : ∃ L9 : List Int32, L9 = ([] : List Int32) ++ kT 55 := ⟨_, rfl⟩
  have bn721 : L722.length ≤ 1 := by rw [eL723]; exact lnA (L := ([] : List Int32)) (L2 := kT 55) (n := 0) (n2 := 1) (Nat.le_refl 0) (Nat.le_of_eq kl_55)
  refine r_room (x2 := ((16 * 2 ^ k - 16) + (16 * 2 ^ k - 16) + 9) + 1) (y2 := ((33000 * 2 ^ k - 33000) + (33000 * 2 ^ k - 33000) + 28878) + 4002) (rq rfl) (rq rfl) ?_
  refine k_V (x := ((16 * 2 ^ k - 16) + (16 * 2 ^ k - 16) + 9)) (y := ((33000 * 2 ^ k - 33000) + (33000 * 2 ^ k - 33000) + 28878)) (rest := []) 0 dX11_text_587 kv_X11_113 (cj_apK (i := 55) (by decide) eL723 BL.nil (Nat.le_trans bn721 (by decide))) rfl rfl rfl rfl (Nat.le_of_ble_eq_true rfl) (by first | exact hd3 | exact hd6 | exact hd7) (by decide) ?_
  rintro ⟨bv717, bm718, bf719⟩ bh720
  try dsimp only at bh720
  show R g mX11_text (k + 1 + 8) ((16 * 2 ^ k - 16) + (16 * 2 ^ k - 16) + 9) ((33000 * 2 ^ k - 33000) + (33000 * 2 ^ k - 33000) + 28878) 590 [(4, .ref u4), (3, .ref u3), (2, .ref u2), (1, .ref u1), (0, .ref a)] [.ref q21] ((q21, .inr (13, [.ref bv717, .int (0 : Int32), .int (0 : Int32), .int (nI L722.length)])) :: ((bv717, yA g bm718 bf719) :: t0)) _
  refine r_aload_n 4 dX11_text_590 rfl ?_
  refine r_getm (v := .ref (tA k x)) (ci := 11) (fs := [.int (30 : Int32), .int (nI n), .int (nI o), .ref (tA k x), .ref (tA k y)]) dX11_text_591 fl_X11_40 (List.mem_cons_of_mem _ (List.mem_cons_of_mem _ hoK)) rfl ?_
  obtain ⟨fszz724, hfzz724⟩ := TM.cell k x hmx
  refine r_room (x2 := ((16 * 2 ^ k - 16) + 9) + (16 * 2 ^ k - 16)) (y2 := ((33000 * 2 ^ k - 33000) + 28878) + (33000 * 2 ^ k - 33000)) (Nat.le_of_eq (Nat.add_right_comm _ _ _)) (Nat.le_of_eq (Nat.add_right_comm _ _ _)) ?_
  refine k_Vm (x := ((16 * 2 ^ k - 16) + 9)) (y := ((33000 * 2 ^ k - 33000) + 28878)) (rest := [.ref q21]) dX11_text_594 kv_X11_128 (IH x _ (TM.mono (fun p hp => (List.mem_cons_of_mem _ (List.mem_cons_of_mem _ (mt p hp)))) k x hmx) hx) rfl rfl (List.mem_cons_of_mem _ (List.mem_cons_of_mem _ (mt _ hfzz724))) rfl (Nat.le_of_ble_eq_true rfl) (Nat.le_of_eq (Nat.add_right_comm _ _ _)) (by decide) ?_
  rintro zz724 hz725
  refine r_seg (ws2 := ((q21, .inr (13, [.ref bv717, .int (0 : Int32), .int (0 : Int32), .int (nI L722.length)])) :: ((bv717, yA g bm718 bf719) :: ((sw g (txt k x).length zz724) ++ t0)))) [sw g (txt k x).length zz724, [(q21, .inr (13, [.ref bv717, .int (0 : Int32), .int (0 : Int32), .int (nI L722.length)]))], [(bv717, yA g bm718 bf719)], t0] [1, 2, 0, 3] rfl rfl rfl ?_
  obtain ⟨L731, eL732⟩ : ∃ L9 : List Int32, L9 = L722 ++ txt k x := ⟨_, rfl⟩
  have bn730 : L731.length ≤ 378 := by rw [eL732]; exact lnA (L := L722) (L2 := txt k x) (n := 1) (n2 := 377) bn721 (lx)
  refine r_room (x2 := ((16 * 2 ^ k - 16) + 8) + 1) (y2 := ((33000 * 2 ^ k - 33000) + 24876) + 4002) (rq rfl) (rq rfl) ?_
  refine k_V (x := ((16 * 2 ^ k - 16) + 8)) (y := ((33000 * 2 ^ k - 33000) + 24876)) (rest := []) 0 dX11_text_597 kv_X11_113 (cj_apX (L2 := txt k x) (z := zz724) hz725 eL732 bh720 (Nat.le_trans bn730 (by decide))) rfl rfl rfl rfl (Nat.le_of_ble_eq_true rfl) (by first | exact hd3 | exact hd6 | exact hd7) (by decide) ?_
  rintro ⟨bv726, bm727, bf728⟩ bh729
  try dsimp only at bh729
  show R g mX11_text (k + 1 + 8) ((16 * 2 ^ k - 16) + 8) ((33000 * 2 ^ k - 33000) + 24876) 600 [(4, .ref u4), (3, .ref u3), (2, .ref u2), (1, .ref u1), (0, .ref a)] [.ref q21] ((q21, .inr (13, [.ref bv726, .int (0 : Int32), .int (0 : Int32), .int (nI L731.length)])) :: ((bv726, yA g bm727 bf728) :: ((sw g (txt k x).length zz724) ++ t0))) _
  refine r_seg (ws2 := ((q21, .inr (13, [.ref bv726, .int (0 : Int32), .int (0 : Int32), .int (nI L731.length)])) :: ((bv726, yA g bm727 bf728) :: t0))) [[(q21, .inr (13, [.ref bv726, .int (0 : Int32), .int (0 : Int32), .int (nI L731.length)]))], [(bv726, yA g bm727 bf728)], sw g (txt k x).length zz724, t0] [0, 1, 3] rfl rfl rfl ?_
  refine r_ldcS (i := 54) dX11_text_600 rfl ?_
  obtain ⟨L738, eL739⟩ : ∃ L9 : List Int32, L9 = L731 ++ kT 54 := ⟨_, rfl⟩
  have bn737 : L738.length ≤ 379 := by rw [eL739]; exact lnA (L := L731) (L2 := kT 54) (n := 378) (n2 := 1) bn730 (Nat.le_of_eq kl_54)
  refine r_room (x2 := ((16 * 2 ^ k - 16) + 7) + 1) (y2 := ((33000 * 2 ^ k - 33000) + 20874) + 4002) (rq rfl) (rq rfl) ?_
  refine k_V (x := ((16 * 2 ^ k - 16) + 7)) (y := ((33000 * 2 ^ k - 33000) + 20874)) (rest := []) 0 dX11_text_602 kv_X11_113 (cj_apK (i := 54) (by decide) eL739 bh729 (Nat.le_trans bn737 (by decide))) rfl rfl rfl rfl (Nat.le_of_ble_eq_true rfl) (by first | exact hd3 | exact hd6 | exact hd7) (by decide) ?_
  rintro ⟨bv733, bm734, bf735⟩ bh736
  try dsimp only at bh736
  show R g mX11_text (k + 1 + 8) ((16 * 2 ^ k - 16) + 7) ((33000 * 2 ^ k - 33000) + 20874) 605 [(4, .ref u4), (3, .ref u3), (2, .ref u2), (1, .ref u1), (0, .ref a)] [.ref q21] ((q21, .inr (13, [.ref bv733, .int (0 : Int32), .int (0 : Int32), .int (nI L738.length)])) :: ((bv733, yA g bm734 bf735) :: t0)) _
  refine r_aload_n 4 dX11_text_605 rfl ?_
  refine r_getm (v := .int (30 : Int32)) (ci := 11) (fs := [.int (30 : Int32), .int (nI n), .int (nI o), .ref (tA k x), .ref (tA k y)]) dX11_text_606 fl_X11_7 (List.mem_cons_of_mem _ (List.mem_cons_of_mem _ hoK)) rfl ?_
  refine r_bipush (v := (30 : Int32)) dX11_text_609 (by decide) ?_
  refine r_icmp_ne (tgt := 619) dX11_text_611 (by decide) (fun hc => absurd (by decide) hc) (fun _ => ?_)
  refine r_ldcS (i := 56) dX11_text_614 rfl ?_
  refine r_goto (tgt := 621) dX11_text_616 (by decide) ?_
  obtain ⟨L745, eL746⟩ : ∃ L9 : List Int32, L9 = L738 ++ kT 56 := ⟨_, rfl⟩
  have bn744 : L745.length ≤ 382 := by rw [eL746]; exact lnA (L := L738) (L2 := kT 56) (n := 379) (n2 := 3) bn737 (Nat.le_of_eq kl_56)
  refine r_room (x2 := ((16 * 2 ^ k - 16) + 6) + 1) (y2 := ((33000 * 2 ^ k - 33000) + 16872) + 4002) (rq rfl) (rq rfl) ?_
  refine k_V (x := ((16 * 2 ^ k - 16) + 6)) (y := ((33000 * 2 ^ k - 33000) + 16872)) (rest := []) 0 dX11_text_621 kv_X11_113 (cj_apK (i := 56) (by decide) eL746 bh736 (Nat.le_trans bn744 (by decide))) rfl rfl rfl rfl (Nat.le_of_ble_eq_true rfl) (by first | exact hd3 | exact hd6 | exact hd7) (by decide) ?_
  rintro ⟨bv740, bm741, bf742⟩ bh743
  try dsimp only at bh743
  show R g mX11_text (k + 1 + 8) ((16 * 2 ^ k - 16) + 6) ((33000 * 2 ^ k - 33000) + 16872) 624 [(4, .ref u4), (3, .ref u3), (2, .ref u2), (1, .ref u1), (0, .ref a)] [.ref q21] ((q21, .inr (13, [.ref bv740, .int (0 : Int32), .int (0 : Int32), .int (nI L745.length)])) :: ((bv740, yA g bm741 bf742) :: t0)) _
  refine r_ldcS (i := 55) dX11_text_624 rfl ?_
  obtain ⟨L752, eL753⟩ : ∃ L9 : List Int32, L9 = L745 ++ kT 55 := ⟨_, rfl⟩
  have bn751 : L752.length ≤ 383 := by rw [eL753]; exact lnA (L := L745) (L2 := kT 55) (n := 382) (n2 := 1) bn744 (Nat.le_of_eq kl_55)
  refine r_room (x2 := ((16 * 2 ^ k - 16) + 5) + 1) (y2 := ((33000 * 2 ^ k - 33000) + 12870) + 4002) (rq rfl) (rq rfl) ?_
  refine k_V (x := ((16 * 2 ^ k - 16) + 5)) (y := ((33000 * 2 ^ k - 33000) + 12870)) (rest := []) 0 dX11_text_626 kv_X11_113 (cj_apK (i := 55) (by decide) eL753 bh743 (Nat.le_trans bn751 (by decide))) rfl rfl rfl rfl (Nat.le_of_ble_eq_true rfl) (by first | exact hd3 | exact hd6 | exact hd7) (by decide) ?_
  rintro ⟨bv747, bm748, bf749⟩ bh750
  try dsimp only at bh750
  show R g mX11_text (k + 1 + 8) ((16 * 2 ^ k - 16) + 5) ((33000 * 2 ^ k - 33000) + 12870) 629 [(4, .ref u4), (3, .ref u3), (2, .ref u2), (1, .ref u1), (0, .ref a)] [.ref q21] ((q21, .inr (13, [.ref bv747, .int (0 : Int32), .int (0 : Int32), .int (nI L752.length)])) :: ((bv747, yA g bm748 bf749) :: t0)) _
  refine r_aload_n 4 dX11_text_629 rfl ?_
  refine r_getm (v := .ref (tA k y)) (ci := 11) (fs := [.int (30 : Int32), .int (nI n), .int (nI o), .ref (tA k x), .ref (tA k y)]) dX11_text_630 fl_X11_59 (List.mem_cons_of_mem _ (List.mem_cons_of_mem _ hoK)) rfl ?_
  obtain ⟨fszz754, hfzz754⟩ := TM.cell k y hmy
  refine r_room (x2 := 5 + (16 * 2 ^ k - 16)) (y2 := 12870 + (33000 * 2 ^ k - 33000)) (Nat.le_of_eq (Nat.add_comm _ _)) (Nat.le_of_eq (Nat.add_comm _ _)) ?_
  refine k_Vm (x := 5) (y := 12870) (rest := [.ref q21]) dX11_text_633 kv_X11_128 (IH y _ (TM.mono (fun p hp => (List.mem_cons_of_mem _ (List.mem_cons_of_mem _ (mt p hp)))) k y hmy) hy) rfl rfl (List.mem_cons_of_mem _ (List.mem_cons_of_mem _ (mt _ hfzz754))) rfl (Nat.le_of_ble_eq_true rfl) (Nat.le_of_eq (Nat.add_right_comm _ _ _)) (by decide) ?_
  rintro zz754 hz755
  refine r_seg (ws2 := ((q21, .inr (13, [.ref bv747, .int (0 : Int32), .int (0 : Int32), .int (nI L752.length)])) :: ((bv747, yA g bm748 bf749) :: ((sw g (txt k y).length zz754) ++ t0)))) [sw g (txt k y).length zz754, [(q21, .inr (13, [.ref bv747, .int (0 : Int32), .int (0 : Int32), .int (nI L752.length)]))], [(bv747, yA g bm748 bf749)], t0] [1, 2, 0, 3] rfl rfl rfl ?_
  obtain ⟨L761, eL762⟩ : ∃ L9 : List Int32, L9 = L752 ++ txt k y := ⟨_, rfl⟩
  have bn760 : L761.length ≤ 760 := by rw [eL762]; exact lnA (L := L752) (L2 := txt k y) (n := 383) (n2 := 377) bn751 (ly)
  refine k_V (x := 4) (y := 8868) (rest := []) 0 dX11_text_636 kv_X11_113 (cj_apX (L2 := txt k y) (z := zz754) hz755 eL762 bh750 (Nat.le_trans bn760 (by decide))) rfl rfl rfl rfl (Nat.le_of_ble_eq_true rfl) (by first | exact hd3 | exact hd6 | exact hd7) (by decide) ?_
  rintro ⟨bv756, bm757, bf758⟩ bh759
  try dsimp only at bh759
  show R g mX11_text (k + 1 + 8) 4 8868 639 [(4, .ref u4), (3, .ref u3), (2, .ref u2), (1, .ref u1), (0, .ref a)] [.ref q21] ((q21, .inr (13, [.ref bv756, .int (0 : Int32), .int (0 : Int32), .int (nI L761.length)])) :: ((bv756, yA g bm757 bf758) :: ((sw g (txt k y).length zz754) ++ t0))) _
  refine r_seg (ws2 := ((q21, .inr (13, [.ref bv756, .int (0 : Int32), .int (0 : Int32), .int (nI L761.length)])) :: ((bv756, yA g bm757 bf758) :: t0))) [[(q21, .inr (13, [.ref bv756, .int (0 : Int32), .int (0 : Int32), .int (nI L761.length)]))], [(bv756, yA g bm757 bf758)], sw g (txt k y).length zz754, t0] [0, 1, 3] rfl rfl rfl ?_
  refine r_ldcS (i := 54) dX11_text_639 rfl ?_
  obtain ⟨L768, eL769⟩ : ∃ L9 : List Int32, L9 = L761 ++ kT 54 := ⟨_, rfl⟩
  have bn767 : L768.length ≤ 761 := by rw [eL769]; exact lnA (L := L761) (L2 := kT 54) (n := 760) (n2 := 1) bn760 (Nat.le_of_eq kl_54)
  refine k_V (x := 3) (y := 4866) (rest := []) 0 dX11_text_641 kv_X11_113 (cj_apK (i := 54) (by decide) eL769 bh759 (Nat.le_trans bn767 (by decide))) rfl rfl rfl rfl (Nat.le_of_ble_eq_true rfl) (by first | exact hd3 | exact hd6 | exact hd7) (by decide) ?_
  rintro ⟨bv763, bm764, bf765⟩ bh766
  try dsimp only at bh766
  show R g mX11_text (k + 1 + 8) 3 4866 644 [(4, .ref u4), (3, .ref u3), (2, .ref u2), (1, .ref u1), (0, .ref a)] [.ref q21] ((q21, .inr (13, [.ref bv763, .int (0 : Int32), .int (0 : Int32), .int (nI L768.length)])) :: ((bv763, yA g bm764 bf765) :: t0)) _
  refine k_V (x := 1) (y := 860) (rest := []) 0 dX11_text_644 kv_X11_120 (cj_strB bh766) rfl rfl rfl rfl (Nat.le_of_ble_eq_true rfl) (by first | exact hd3 | exact hd6 | exact hd7) (by decide) ?_
  rintro ⟨ts770, tb771, tf772⟩ th773
  try dsimp only at th773
  show R g mX11_text (k + 1 + 8) 1 860 647 [(4, .ref u4), (3, .ref u3), (2, .ref u2), (1, .ref u1), (0, .ref a)] [.ref ts770] ((ts770, .inr (12, [.ref tb771, .int (0 : Int32), .int (0 : Int32), .int (0 : Int32)])) :: ((tb771, yA g L768.length tf772) :: ((q21, .inr (13, [.ref bv763, .int (0 : Int32), .int (0 : Int32), .int (nI L768.length)])) :: ((bv763, yA g bm764 bf765) :: t0)))) _
  rw [e0]
  refine r_seg (ws2 := ((ts770, .inr (12, [.ref tb771, .int (0 : Int32), .int (0 : Int32), .int (0 : Int32)])) :: ((tb771, yA g L768.length tf772) :: t))) [[(ts770, .inr (12, [.ref tb771, .int (0 : Int32), .int (0 : Int32), .int (0 : Int32)]))], [(tb771, yA g L768.length tf772)], [(q21, .inr (13, [.ref bv763, .int (0 : Int32), .int (0 : Int32), .int (nI L768.length)]))], [(bv763, yA g bm764 bf765)], [(u4, qA g 7 4 (va_up (va_up (va_up (va_up (fun _ => none) 0 (some (gK g 43))) 1 (some (gK g 44))) 2 (some (gK g 45))) 3 (some (gK g 46))))], [(u3, qA g 7 5 (va_up (va_up (va_up (va_up (va_up (fun _ => none) 0 (some (gK g 38))) 1 (some (gK g 39))) 2 (some (gK g 40))) 3 (some (gK g 41))) 4 (some (gK g 42))))], [(u2, qA g 7 6 (va_up (va_up (va_up (va_up (va_up (va_up (fun _ => none) 0 (some (gK g 32))) 1 (some (gK g 33))) 2 (some (gK g 34))) 3 (some (gK g 35))) 4 (some (gK g 36))) 5 (some (gK g 37))))], [(u1, qA g 7 6 (va_up (va_up (va_up (va_up (va_up (va_up (fun _ => none) 0 (some (gK g iE))) 1 (some (gK g 27))) 2 (some (gK g 28))) 3 (some (gK g 29))) 4 (some (gK g 30))) 5 (some (gK g 31))))], t] [0, 1, 8] rfl rfl rfl ?_
  subst eL769
  subst eL762
  subst eL753
  subst eL746
  subst eL739
  subst eL732
  subst eL723
  refine r_aret dX11_text_647 rfl rfl (Or.inr ⟨_, rfl⟩) ?_
  exact Dq.mk (Sum.inr (ts770, tb771, tf772)) rfl rfl th773
set_option maxRecDepth 20000 in
set_option maxHeartbeats 8000000 in
theorem tx_31 {g : GG} {ne nt k a n o u1 u2 u3 u4 : Nat} {t t0 : va_W} {x y : TT k} (IH : TextH g ne nt k) (e0 : t0 = ((u4, qA g 7 4 (va_up (va_up (va_up (va_up (fun _ => none) 0 (some (gK g 43))) 1 (some (gK g 44))) 2 (some (gK g 45))) 3 (some (gK g 46)))) :: ((u3, qA g 7 5 (va_up (va_up (va_up (va_up (va_up (fun _ => none) 0 (some (gK g 38))) 1 (some (gK g 39))) 2 (some (gK g 40))) 3 (some (gK g 41))) 4 (some (gK g 42)))) :: ((u2, qA g 7 6 (va_up (va_up (va_up (va_up (va_up (va_up (fun _ => none) 0 (some (gK g 32))) 1 (some (gK g 33))) 2 (some (gK g 34))) 3 (some (gK g 35))) 4 (some (gK g 36))) 5 (some (gK g 37)))) :: ((u1, qA g 7 6 (va_up (va_up (va_up (va_up (va_up (va_up (fun _ => none) 0 (some (gK g iE))) 1 (some (gK g 27))) 2 (some (gK g 28))) 3 (some (gK g 29))) 4 (some (gK g 30))) 5 (some (gK g 31)))) :: t))))) (hk5 : k ≤ 5) (hn : nt ≤ 10) (hne : ne ≤ 10) (ho : (a, .inr (11, [.int (31 : Int32), .int (nI n), .int (nI o), .ref (tA k x), .ref (tA k y)])) ∈ t) (hmx : TM g t k x) (hx : TE ne nt k x ∨ TB ne nt k x) (hmy : TM g t k y) (hy : TE ne nt k y ∨ TB ne nt k y) : R g mX11_text (k + 1 + 8) ((16 * 2 ^ k - 16) + (16 * 2 ^ k - 16) + 12) ((33000 * 2 ^ k - 33000) + (33000 * 2 ^ k - 33000) + 32900) 128 [(4, .ref u4), (3, .ref u3), (2, .ref u2), (1, .ref u1), (0, .ref a)] [] t0 (Dq (fun (z : SZ) => some (sv g z)) (fun z => sw g (((((((([] : List Int32) ++ kT 55) ++ (txt k x)) ++ kT 54) ++ kT 57) ++ kT 55) ++ (txt k y)) ++ kT 54).length z ++ t) (fun z => sP (((((((([] : List Int32) ++ kT 55) ++ (txt k x)) ++ kT 54) ++ kT 57) ++ kT 55) ++ (txt k y)) ++ kT 54) z)) := by
  have hd3 : 3 + 1 ≤ k + 1 + 8 := by omega
  have hd6 : 6 + 1 ≤ k + 1 + 8 := by omega
  have hd7 : 7 + 1 ≤ k + 1 + 8 := by omega
  have hp5 : 2 ^ k ≤ 32 := Nat.le_trans (Nat.pow_le_pow_right (by decide) hk5) (by decide)
  have hlk : 12 * 2 ^ k - 7 ≤ 377 := by omega
  have lx := Nat.le_trans (txt_len hne hn k x hx) hlk
  have ly := Nat.le_trans (txt_len hne hn k y hy) hlk
  have m0 : (u4, qA g 7 4 (va_up (va_up (va_up (va_up (fun _ => none) 0 (some (gK g 43))) 1 (some (gK g 44))) 2 (some (gK g 45))) 3 (some (gK g 46)))) ∈ t0 := by rw [e0]; exact List.mem_cons_self
  have m1 : (u3, qA g 7 5 (va_up (va_up (va_up (va_up (va_up (fun _ => none) 0 (some (gK g 38))) 1 (some (gK g 39))) 2 (some (gK g 40))) 3 (some (gK g 41))) 4 (some (gK g 42)))) ∈ t0 := by rw [e0]; exact (List.mem_cons_of_mem _ List.mem_cons_self)
  have m2 : (u2, qA g 7 6 (va_up (va_up (va_up (va_up (va_up (va_up (fun _ => none) 0 (some (gK g 32))) 1 (some (gK g 33))) 2 (some (gK g 34))) 3 (some (gK g 35))) 4 (some (gK g 36))) 5 (some (gK g 37)))) ∈ t0 := by rw [e0]; exact (List.mem_cons_of_mem _ (List.mem_cons_of_mem _ List.mem_cons_self))
  have m3 : (u1, qA g 7 6 (va_up (va_up (va_up (va_up (va_up (va_up (fun _ => none) 0 (some (gK g iE))) 1 (some (gK g 27))) 2 (some (gK g 28))) 3 (some (gK g 29))) 4 (some (gK g 30))) 5 (some (gK g 31)))) ∈ t0 := by rw [e0]; exact (List.mem_cons_of_mem _ (List.mem_cons_of_mem _ (List.mem_cons_of_mem _ List.mem_cons_self)))
  have mt : ∀ p ∈ t, p ∈ t0 := fun p hp => by rw [e0]; exact (List.mem_cons_of_mem _ (List.mem_cons_of_mem _ (List.mem_cons_of_mem _ (List.mem_cons_of_mem _ hp))))
  have hoK := mt _ ho
  refine r_aload_n 4 dX11_text_128 rfl ?_
  refine r_getm (v := .int (31 : Int32)) (ci := 11) (fs := [.int (31 : Int32), .int (nI n), .int (nI o), .ref (tA k x), .ref (tA k y)]) dX11_text_129 fl_X11_7 hoK rfl ?_
  refine r_if_ne (tgt := 158) dX11_text_132 (by decide) (fun _ => ?_) (fun hc => absurd hc (by decide))
  refine r_aload_n 4 dX11_text_158 rfl ?_
  refine r_getm (v := .int (31 : Int32)) (ci := 11) (fs := [.int (31 : Int32), .int (nI n), .int (nI o), .ref (tA k x), .ref (tA k y)]) dX11_text_159 fl_X11_7 hoK rfl ?_
  refine r_iconst (v := (4 : Int32)) dX11_text_162 (by decide) ?_
  refine r_icmp_ge (tgt := 173) dX11_text_163 (by decide) (fun _ => ?_) (fun hc => absurd (by decide) hc)
  refine r_aload_n 4 dX11_text_173 rfl ?_
  refine r_getm (v := .int (31 : Int32)) (ci := 11) (fs := [.int (31 : Int32), .int (nI n), .int (nI o), .ref (tA k x), .ref (tA k y)]) dX11_text_174 fl_X11_7 hoK rfl ?_
  refine r_bipush (v := (6 : Int32)) dX11_text_177 (by decide) ?_
  refine r_icmp_ge (tgt := 214) dX11_text_179 (by decide) (fun _ => ?_) (fun hc => absurd (by decide) hc)
  refine r_aload_n 4 dX11_text_214 rfl ?_
  refine r_getm (v := .int (31 : Int32)) (ci := 11) (fs := [.int (31 : Int32), .int (nI n), .int (nI o), .ref (tA k x), .ref (tA k y)]) dX11_text_215 fl_X11_7 hoK rfl ?_
  refine r_bipush (v := (6 : Int32)) dX11_text_218 (by decide) ?_
  refine r_icmp_ne (tgt := 254) dX11_text_220 (by decide) (fun _ => ?_) (fun hc => absurd hc (by decide))
  refine r_aload_n 4 dX11_text_254 rfl ?_
  refine r_getm (v := .int (31 : Int32)) (ci := 11) (fs := [.int (31 : Int32), .int (nI n), .int (nI o), .ref (tA k x), .ref (tA k y)]) dX11_text_255 fl_X11_7 hoK rfl ?_
  refine r_bipush (v := (11 : Int32)) dX11_text_258 (by decide) ?_
  refine r_icmp_ge (tgt := 326) dX11_text_260 (by decide) (fun _ => ?_) (fun hc => absurd (by decide) hc)
  refine r_aload_n 4 dX11_text_326 rfl ?_
  refine r_getm (v := .int (31 : Int32)) (ci := 11) (fs := [.int (31 : Int32), .int (nI n), .int (nI o), .ref (tA k x), .ref (tA k y)]) dX11_text_327 fl_X11_7 hoK rfl ?_
  refine r_bipush (v := (13 : Int32)) dX11_text_330 (by decide) ?_
  refine r_icmp_ge (tgt := 388) dX11_text_332 (by decide) (fun _ => ?_) (fun hc => absurd (by decide) hc)
  refine r_aload_n 4 dX11_text_388 rfl ?_
  refine r_getm (v := .int (31 : Int32)) (ci := 11) (fs := [.int (31 : Int32), .int (nI n), .int (nI o), .ref (tA k x), .ref (tA k y)]) dX11_text_389 fl_X11_7 hoK rfl ?_
  refine r_bipush (v := (25 : Int32)) dX11_text_392 (by decide) ?_
  refine r_icmp_ge (tgt := 440) dX11_text_394 (by decide) (fun _ => ?_) (fun hc => absurd (by decide) hc)
  refine r_aload_n 4 dX11_text_440 rfl ?_
  refine r_getm (v := .int (31 : Int32)) (ci := 11) (fs := [.int (31 : Int32), .int (nI n), .int (nI o), .ref (tA k x), .ref (tA k y)]) dX11_text_441 fl_X11_7 hoK rfl ?_
  refine r_bipush (v := (25 : Int32)) dX11_text_444 (by decide) ?_
  refine r_icmp_ne (tgt := 491) dX11_text_446 (by decide) (fun _ => ?_) (fun hc => absurd hc (by decide))
  refine r_aload_n 4 dX11_text_491 rfl ?_
  refine r_getm (v := .int (31 : Int32)) (ci := 11) (fs := [.int (31 : Int32), .int (nI n), .int (nI o), .ref (tA k x), .ref (tA k y)]) dX11_text_492 fl_X11_7 hoK rfl ?_
  refine r_bipush (v := (29 : Int32)) dX11_text_495 (by decide) ?_
  refine r_icmp_ge (tgt := 536) dX11_text_497 (by decide) (fun _ => ?_) (fun hc => absurd (by decide) hc)
  refine r_aload_n 4 dX11_text_536 rfl ?_
  refine r_getm (v := .int (31 : Int32)) (ci := 11) (fs := [.int (31 : Int32), .int (nI n), .int (nI o), .ref (tA k x), .ref (tA k y)]) dX11_text_537 fl_X11_7 hoK rfl ?_
  refine r_bipush (v := (29 : Int32)) dX11_text_540 (by decide) ?_
  refine r_icmp_ne (tgt := 578) dX11_text_542 (by decide) (fun _ => ?_) (fun hc => absurd hc (by decide))
  refine r_new (N := 4) (x := ((16 * 2 ^ k - 16) + (16 * 2 ^ k - 16) + 11)) (y := ((33000 * 2 ^ k - 33000) + (33000 * 2 ^ k - 33000) + 32896)) dX11_text_578 nl_X11_110 (fun q22 => ?_)
  refine r_dup dX11_text_581 rfl ?_
  refine r_room (x2 := ((16 * 2 ^ k - 16) + (16 * 2 ^ k - 16) + 10) + 1) (y2 := ((33000 * 2 ^ k - 33000) + (33000 * 2 ^ k - 33000) + 32880) + 16) (rq rfl) (rq rfl) ?_
  refine k_I (x := ((16 * 2 ^ k - 16) + (16 * 2 ^ k - 16) + 10)) (y := ((33000 * 2 ^ k - 33000) + (33000 * 2 ^ k - 33000) + 32880)) (rest := [.ref q22]) dX11_text_582 ki_X11_112 (cj_sb) rfl rfl (Nat.le_of_ble_eq_true rfl) (by first | exact hd3 | exact hd6 | exact hd7) (by decide) ?_
  rintro bv774 -
  show R g mX11_text (k + 1 + 8) ((16 * 2 ^ k - 16) + (16 * 2 ^ k - 16) + 10) ((33000 * 2 ^ k - 33000) + (33000 * 2 ^ k - 33000) + 32880) 585 [(4, .ref u4), (3, .ref u3), (2, .ref u2), (1, .ref u1), (0, .ref a)] [.ref q22] ((q22, .inr (13, [.ref bv774, .int (0 : Int32), .int (0 : Int32), .int (nI ([] : List Int32).length)])) :: ((bv774, yA g 16 (fun _ => 0)) :: t0)) _
  refine r_ldcS (i := 55) dX11_text_585 rfl ?_
  obtain ⟨L780, eL781⟩ : ∃ L9 : List Int32, L9 = ([] : List Int32) ++ kT 55 := ⟨_, rfl⟩
  have bn779 : L780.length ≤ 1 := by rw [eL781]; exact lnA (L := ([] : List Int32)) (L2 := kT 55) (n := 0) (n2 := 1) (Nat.le_refl 0) (Nat.le_of_eq kl_55)
  refine r_room (x2 := ((16 * 2 ^ k - 16) + (16 * 2 ^ k - 16) + 9) + 1) (y2 := ((33000 * 2 ^ k - 33000) + (33000 * 2 ^ k - 33000) + 28878) + 4002) (rq rfl) (rq rfl) ?_
  refine k_V (x := ((16 * 2 ^ k - 16) + (16 * 2 ^ k - 16) + 9)) (y := ((33000 * 2 ^ k - 33000) + (33000 * 2 ^ k - 33000) + 28878)) (rest := []) 0 dX11_text_587 kv_X11_113 (cj_apK (i := 55) (by decide) eL781 BL.nil (Nat.le_trans bn779 (by decide))) rfl rfl rfl rfl (Nat.le_of_ble_eq_true rfl) (by first | exact hd3 | exact hd6 | exact hd7) (by decide) ?_
  rintro ⟨bv775, bm776, bf777⟩ bh778
  try dsimp only at bh778
  show R g mX11_text (k + 1 + 8) ((16 * 2 ^ k - 16) + (16 * 2 ^ k - 16) + 9) ((33000 * 2 ^ k - 33000) + (33000 * 2 ^ k - 33000) + 28878) 590 [(4, .ref u4), (3, .ref u3), (2, .ref u2), (1, .ref u1), (0, .ref a)] [.ref q22] ((q22, .inr (13, [.ref bv775, .int (0 : Int32), .int (0 : Int32), .int (nI L780.length)])) :: ((bv775, yA g bm776 bf777) :: t0)) _
  refine r_aload_n 4 dX11_text_590 rfl ?_
  refine r_getm (v := .ref (tA k x)) (ci := 11) (fs := [.int (31 : Int32), .int (nI n), .int (nI o), .ref (tA k x), .ref (tA k y)]) dX11_text_591 fl_X11_40 (List.mem_cons_of_mem _ (List.mem_cons_of_mem _ hoK)) rfl ?_
  obtain ⟨fszz782, hfzz782⟩ := TM.cell k x hmx
  refine r_room (x2 := ((16 * 2 ^ k - 16) + 9) + (16 * 2 ^ k - 16)) (y2 := ((33000 * 2 ^ k - 33000) + 28878) + (33000 * 2 ^ k - 33000)) (Nat.le_of_eq (Nat.add_right_comm _ _ _)) (Nat.le_of_eq (Nat.add_right_comm _ _ _)) ?_
  refine k_Vm (x := ((16 * 2 ^ k - 16) + 9)) (y := ((33000 * 2 ^ k - 33000) + 28878)) (rest := [.ref q22]) dX11_text_594 kv_X11_128 (IH x _ (TM.mono (fun p hp => (List.mem_cons_of_mem _ (List.mem_cons_of_mem _ (mt p hp)))) k x hmx) hx) rfl rfl (List.mem_cons_of_mem _ (List.mem_cons_of_mem _ (mt _ hfzz782))) rfl (Nat.le_of_ble_eq_true rfl) (Nat.le_of_eq (Nat.add_right_comm _ _ _)) (by decide) ?_
  rintro zz782 hz783
  refine r_seg (ws2 := ((q22, .inr (13, [.ref bv775, .int (0 : Int32), .int (0 : Int32), .int (nI L780.length)])) :: ((bv775, yA g bm776 bf777) :: ((sw g (txt k x).length zz782) ++ t0)))) [sw g (txt k x).length zz782, [(q22, .inr (13, [.ref bv775, .int (0 : Int32), .int (0 : Int32), .int (nI L780.length)]))], [(bv775, yA g bm776 bf777)], t0] [1, 2, 0, 3] rfl rfl rfl ?_
  obtain ⟨L789, eL790⟩ : ∃ L9 : List Int32, L9 = L780 ++ txt k x := ⟨_, rfl⟩
  have bn788 : L789.length ≤ 378 := by rw [eL790]; exact lnA (L := L780) (L2 := txt k x) (n := 1) (n2 := 377) bn779 (lx)
  refine r_room (x2 := ((16 * 2 ^ k - 16) + 8) + 1) (y2 := ((33000 * 2 ^ k - 33000) + 24876) + 4002) (rq rfl) (rq rfl) ?_
  refine k_V (x := ((16 * 2 ^ k - 16) + 8)) (y := ((33000 * 2 ^ k - 33000) + 24876)) (rest := []) 0 dX11_text_597 kv_X11_113 (cj_apX (L2 := txt k x) (z := zz782) hz783 eL790 bh778 (Nat.le_trans bn788 (by decide))) rfl rfl rfl rfl (Nat.le_of_ble_eq_true rfl) (by first | exact hd3 | exact hd6 | exact hd7) (by decide) ?_
  rintro ⟨bv784, bm785, bf786⟩ bh787
  try dsimp only at bh787
  show R g mX11_text (k + 1 + 8) ((16 * 2 ^ k - 16) + 8) ((33000 * 2 ^ k - 33000) + 24876) 600 [(4, .ref u4), (3, .ref u3), (2, .ref u2), (1, .ref u1), (0, .ref a)] [.ref q22] ((q22, .inr (13, [.ref bv784, .int (0 : Int32), .int (0 : Int32), .int (nI L789.length)])) :: ((bv784, yA g bm785 bf786) :: ((sw g (txt k x).length zz782) ++ t0))) _
  refine r_seg (ws2 := ((q22, .inr (13, [.ref bv784, .int (0 : Int32), .int (0 : Int32), .int (nI L789.length)])) :: ((bv784, yA g bm785 bf786) :: t0))) [[(q22, .inr (13, [.ref bv784, .int (0 : Int32), .int (0 : Int32), .int (nI L789.length)]))], [(bv784, yA g bm785 bf786)], sw g (txt k x).length zz782, t0] [0, 1, 3] rfl rfl rfl ?_
  refine r_ldcS (i := 54) dX11_text_600 rfl ?_
  obtain ⟨L796, eL797⟩ : ∃ L9 : List Int32, L9 = L789 ++ kT 54 := ⟨_, rfl⟩
  have bn795 : L796.length ≤ 379 := by rw [eL797]; exact lnA (L := L789) (L2 := kT 54) (n := 378) (n2 := 1) bn788 (Nat.le_of_eq kl_54)
  refine r_room (x2 := ((16 * 2 ^ k - 16) + 7) + 1) (y2 := ((33000 * 2 ^ k - 33000) + 20874) + 4002) (rq rfl) (rq rfl) ?_
  refine k_V (x := ((16 * 2 ^ k - 16) + 7)) (y := ((33000 * 2 ^ k - 33000) + 20874)) (rest := []) 0 dX11_text_602 kv_X11_113 (cj_apK (i := 54) (by decide) eL797 bh787 (Nat.le_trans bn795 (by decide))) rfl rfl rfl rfl (Nat.le_of_ble_eq_true rfl) (by first | exact hd3 | exact hd6 | exact hd7) (by decide) ?_
  rintro ⟨bv791, bm792, bf793⟩ bh794
  try dsimp only at bh794
  show R g mX11_text (k + 1 + 8) ((16 * 2 ^ k - 16) + 7) ((33000 * 2 ^ k - 33000) + 20874) 605 [(4, .ref u4), (3, .ref u3), (2, .ref u2), (1, .ref u1), (0, .ref a)] [.ref q22] ((q22, .inr (13, [.ref bv791, .int (0 : Int32), .int (0 : Int32), .int (nI L796.length)])) :: ((bv791, yA g bm792 bf793) :: t0)) _
  refine r_aload_n 4 dX11_text_605 rfl ?_
  refine r_getm (v := .int (31 : Int32)) (ci := 11) (fs := [.int (31 : Int32), .int (nI n), .int (nI o), .ref (tA k x), .ref (tA k y)]) dX11_text_606 fl_X11_7 (List.mem_cons_of_mem _ (List.mem_cons_of_mem _ hoK)) rfl ?_
  refine r_bipush (v := (30 : Int32)) dX11_text_609 (by decide) ?_
  refine r_icmp_ne (tgt := 619) dX11_text_611 (by decide) (fun _ => ?_) (fun hc => absurd hc (by decide))
  refine r_ldcS (i := 57) dX11_text_619 rfl ?_
  obtain ⟨L803, eL804⟩ : ∃ L9 : List Int32, L9 = L796 ++ kT 57 := ⟨_, rfl⟩
  have bn802 : L803.length ≤ 381 := by rw [eL804]; exact lnA (L := L796) (L2 := kT 57) (n := 379) (n2 := 2) bn795 (Nat.le_of_eq kl_57)
  refine r_room (x2 := ((16 * 2 ^ k - 16) + 6) + 1) (y2 := ((33000 * 2 ^ k - 33000) + 16872) + 4002) (rq rfl) (rq rfl) ?_
  refine k_V (x := ((16 * 2 ^ k - 16) + 6)) (y := ((33000 * 2 ^ k - 33000) + 16872)) (rest := []) 0 dX11_text_621 kv_X11_113 (cj_apK (i := 57) (by decide) eL804 bh794 (Nat.le_trans bn802 (by decide))) rfl rfl rfl rfl (Nat.le_of_ble_eq_true rfl) (by first | exact hd3 | exact hd6 | exact hd7) (by decide) ?_
  rintro ⟨bv798, bm799, bf800⟩ bh801
  try dsimp only at bh801
  show R g mX11_text (k + 1 + 8) ((16 * 2 ^ k - 16) + 6) ((33000 * 2 ^ k - 33000) + 16872) 624 [(4, .ref u4), (3, .ref u3), (2, .ref u2), (1, .ref u1), (0, .ref a)] [.ref q22] ((q22, .inr (13, [.ref bv798, .int (0 : Int32), .int (0 : Int32), .int (nI L803.length)])) :: ((bv798, yA g bm799 bf800) :: t0)) _
  refine r_ldcS (i := 55) dX11_text_624 rfl ?_
  obtain ⟨L810, eL811⟩ : ∃ L9 : List Int32, L9 = L803 ++ kT 55 := ⟨_, rfl⟩
  have bn809 : L810.length ≤ 382 := by rw [eL811]; exact lnA (L := L803) (L2 := kT 55) (n := 381) (n2 := 1) bn802 (Nat.le_of_eq kl_55)
  refine r_room (x2 := ((16 * 2 ^ k - 16) + 5) + 1) (y2 := ((33000 * 2 ^ k - 33000) + 12870) + 4002) (rq rfl) (rq rfl) ?_
  refine k_V (x := ((16 * 2 ^ k - 16) + 5)) (y := ((33000 * 2 ^ k - 33000) + 12870)) (rest := []) 0 dX11_text_626 kv_X11_113 (cj_apK (i := 55) (by decide) eL811 bh801 (Nat.le_trans bn809 (by decide))) rfl rfl rfl rfl (Nat.le_of_ble_eq_true rfl) (by first | exact hd3 | exact hd6 | exact hd7) (by decide) ?_
  rintro ⟨bv805, bm806, bf807⟩ bh808
  try dsimp only at bh808
  show R g mX11_text (k + 1 + 8) ((16 * 2 ^ k - 16) + 5) ((33000 * 2 ^ k - 33000) + 12870) 629 [(4, .ref u4), (3, .ref u3), (2, .ref u2), (1, .ref u1), (0, .ref a)] [.ref q22] ((q22, .inr (13, [.ref bv805, .int (0 : Int32), .int (0 : Int32), .int (nI L810.length)])) :: ((bv805, yA g bm806 bf807) :: t0)) _
  refine r_aload_n 4 dX11_text_629 rfl ?_
  refine r_getm (v := .ref (tA k y)) (ci := 11) (fs := [.int (31 : Int32), .int (nI n), .int (nI o), .ref (tA k x), .ref (tA k y)]) dX11_text_630 fl_X11_59 (List.mem_cons_of_mem _ (List.mem_cons_of_mem _ hoK)) rfl ?_
  obtain ⟨fszz812, hfzz812⟩ := TM.cell k y hmy
  refine r_room (x2 := 5 + (16 * 2 ^ k - 16)) (y2 := 12870 + (33000 * 2 ^ k - 33000)) (Nat.le_of_eq (Nat.add_comm _ _)) (Nat.le_of_eq (Nat.add_comm _ _)) ?_
  refine k_Vm (x := 5) (y := 12870) (rest := [.ref q22]) dX11_text_633 kv_X11_128 (IH y _ (TM.mono (fun p hp => (List.mem_cons_of_mem _ (List.mem_cons_of_mem _ (mt p hp)))) k y hmy) hy) rfl rfl (List.mem_cons_of_mem _ (List.mem_cons_of_mem _ (mt _ hfzz812))) rfl (Nat.le_of_ble_eq_true rfl) (Nat.le_of_eq (Nat.add_right_comm _ _ _)) (by decide) ?_
  rintro zz812 hz813
  refine r_seg (ws2 := ((q22, .inr (13, [.ref bv805, .int (0 : Int32), .int (0 : Int32), .int (nI L810.length)])) :: ((bv805, yA g bm806 bf807) :: ((sw g (txt k y).length zz812) ++ t0)))) [sw g (txt k y).length zz812, [(q22, .inr (13, [.ref bv805, .int (0 : Int32), .int (0 : Int32), .int (nI L810.length)]))], [(bv805, yA g bm806 bf807)], t0] [1, 2, 0, 3] rfl rfl rfl ?_
  obtain ⟨L819, eL820⟩ : ∃ L9 : List Int32, L9 = L810 ++ txt k y := ⟨_, rfl⟩
  have bn818 : L819.length ≤ 759 := by rw [eL820]; exact lnA (L := L810) (L2 := txt k y) (n := 382) (n2 := 377) bn809 (ly)
  refine k_V (x := 4) (y := 8868) (rest := []) 0 dX11_text_636 kv_X11_113 (cj_apX (L2 := txt k y) (z := zz812) hz813 eL820 bh808 (Nat.le_trans bn818 (by decide))) rfl rfl rfl rfl (Nat.le_of_ble_eq_true rfl) (by first | exact hd3 | exact hd6 | exact hd7) (by decide) ?_
  rintro ⟨bv814, bm815, bf816⟩ bh817
  try dsimp only at bh817
  show R g mX11_text (k + 1 + 8) 4 8868 639 [(4, .ref u4), (3, .ref u3), (2, .ref u2), (1, .ref u1), (0, .ref a)] [.ref q22] ((q22, .inr (13, [.ref bv814, .int (0 : Int32), .int (0 : Int32), .int (nI L819.length)])) :: ((bv814, yA g bm815 bf816) :: ((sw g (txt k y).length zz812) ++ t0))) _
  refine r_seg (ws2 := ((q22, .inr (13, [.ref bv814, .int (0 : Int32), .int (0 : Int32), .int (nI L819.length)])) :: ((bv814, yA g bm815 bf816) :: t0))) [[(q22, .inr (13, [.ref bv814, .int (0 : Int32), .int (0 : Int32), .int (nI L819.length)]))], [(bv814, yA g bm815 bf816)], sw g (txt k y).length zz812, t0] [0, 1, 3] rfl rfl rfl ?_
  refine r_ldcS (i := 54) dX11_text_639 rfl ?_
  obtain ⟨L826, eL827⟩ : ∃ L9 : List Int32, L9 = L819 ++ kT 54 := ⟨_, rfl⟩
  have bn825 : L826.length ≤ 760 := by rw [eL827]; exact lnA (L := L819) (L2 := kT 54) (n := 759) (n2 := 1) bn818 (Nat.le_of_eq kl_54)
  refine k_V (x := 3) (y := 4866) (rest := []) 0 dX11_text_641 kv_X11_113 (cj_apK (i := 54) (by decide) eL827 bh817 (Nat.le_trans bn825 (by decide))) rfl rfl rfl rfl (Nat.le_of_ble_eq_true rfl) (by first | exact hd3 | exact hd6 | exact hd7) (by decide) ?_
  rintro ⟨bv821, bm822, bf823⟩ bh824
  try dsimp only at bh824
  show R g mX11_text (k + 1 + 8) 3 4866 644 [(4, .ref u4), (3, .ref u3), (2, .ref u2), (1, .ref u1), (0, .ref a)] [.ref q22] ((q22, .inr (13, [.ref bv821, .int (0 : Int32), .int (0 : Int32), .int (nI L826.length)])) :: ((bv821, yA g bm822 bf823) :: t0)) _
  refine k_V (x := 1) (y := 860) (rest := []) 0 dX11_text_644 kv_X11_120 (cj_strB bh824) rfl rfl rfl rfl (Nat.le_of_ble_eq_true rfl) (by first | exact hd3 | exact hd6 | exact hd7) (by decide) ?_
  rintro ⟨ts828, tb829, tf830⟩ th831
  try dsimp only at th831
  show R g mX11_text (k + 1 + 8) 1 860 647 [(4, .ref u4), (3, .ref u3), (2, .ref u2), (1, .ref u1), (0, .ref a)] [.ref ts828] ((ts828, .inr (12, [.ref tb829, .int (0 : Int32), .int (0 : Int32), .int (0 : Int32)])) :: ((tb829, yA g L826.length tf830) :: ((q22, .inr (13, [.ref bv821, .int (0 : Int32), .int (0 : Int32), .int (nI L826.length)])) :: ((bv821, yA g bm822 bf823) :: t0)))) _
  rw [e0]
  refine r_seg (ws2 := ((ts828, .inr (12, [.ref tb829, .int (0 : Int32), .int (0 : Int32), .int (0 : Int32)])) :: ((tb829, yA g L826.length tf830) :: t))) [[(ts828, .inr (12, [.ref tb829, .int (0 : Int32), .int (0 : Int32), .int (0 : Int32)]))], [(tb829, yA g L826.length tf830)], [(q22, .inr (13, [.ref bv821, .int (0 : Int32), .int (0 : Int32), .int (nI L826.length)]))], [(bv821, yA g bm822 bf823)], [(u4, qA g 7 4 (va_up (va_up (va_up (va_up (fun _ => none) 0 (some (gK g 43))) 1 (some (gK g 44))) 2 (some (gK g 45))) 3 (some (gK g 46))))], [(u3, qA g 7 5 (va_up (va_up (va_up (va_up (va_up (fun _ => none) 0 (some (gK g 38))) 1 (some (gK g 39))) 2 (some (gK g 40))) 3 (some (gK g 41))) 4 (some (gK g 42))))], [(u2, qA g 7 6 (va_up (va_up (va_up (va_up (va_up (va_up (fun _ => none) 0 (some (gK g 32))) 1 (some (gK g 33))) 2 (some (gK g 34))) 3 (some (gK g 35))) 4 (some (gK g 36))) 5 (some (gK g 37))))], [(u1, qA g 7 6 (va_up (va_up (va_up (va_up (va_up (va_up (fun _ => none) 0 (some (gK g iE))) 1 (some (gK g 27))) 2 (some (gK g 28))) 3 (some (gK g 29))) 4 (some (gK g 30))) 5 (some (gK g 31))))], t] [0, 1, 8] rfl rfl rfl ?_
  subst eL827
  subst eL820
  subst eL811
  subst eL804
  subst eL797
  subst eL790
  subst eL781
  refine r_aret dX11_text_647 rfl rfl (Or.inr ⟨_, rfl⟩) ?_
  exact Dq.mk (Sum.inr (ts828, tb829, tf830)) rfl rfl th831
set_option maxRecDepth 20000 in
set_option maxHeartbeats 8000000 in
theorem cl_text {g : GG} {ne nt : Nat} (hn : nt ≤ 10) (hne : ne ≤ 10) : ∀ k, k ≤ 6 → TextH g ne nt k
  | 0, _ => fun T => nomatch T
  | k + 1, hk6 => fun ((a, kd, n, o), ta, tb) t hT hk => by
    refine Ct.ofR (by decide +kernel) rfl (Nat.le_of_ble_eq_true rfl) ?_
    obtain ⟨ho, hma, hmb⟩ := hT
    have hp : 2 ^ (k + 1) = 2 ^ k + 2 ^ k := by rw [Nat.pow_succ]; omega
    have hp1 : 0 < 2 ^ k := Nat.two_pow_pos k
    have hk5 : k ≤ 5 := by omega
    have IH := cl_text (g := g) hn hne k (by omega)
    show R g mX11_text (k + 1 + 8) (16 * 2 ^ (k + 1) - 16) (33000 * 2 ^ (k + 1) - 33000) 0 [(0, .ref a)] [] t _
    refine r_room (x2 := ((16 * 2 ^ k - 16) + (16 * 2 ^ k - 16) + 16)) (y2 := ((33000 * 2 ^ k - 33000) + (33000 * 2 ^ k - 33000) + 32921)) (by omega) (by omega) ?_
    refine r_bipush (v := (6 : Int32)) dX11_text_0 (by decide) ?_
    refine r_newS (x := ((16 * 2 ^ k - 16) + (16 * 2 ^ k - 16) + 15)) (y := ((33000 * 2 ^ k - 33000) + (33000 * 2 ^ k - 33000) + 32915)) (N := 6) dX11_text_2 kk_1585 (by decide) (by decide) (by decide) (fun q23 => ?_)
    refine r_dup dX11_text_5 rfl ?_
    refine r_iconst (v := (0 : Int32)) dX11_text_6 (by decide) ?_
    refine r_ldcE dX11_text_7 rfl ?_
    refine r_astS (j := iE) (ws2 := ((q23, qA g 7 6 (va_up (fun _ => none) 0 (some (gK g iE)))) :: t)) 0 (by decide) dX11_text_9 rfl (by decide) (by rfl) ?_
    refine r_dup dX11_text_10 rfl ?_
    refine r_iconst (v := (1 : Int32)) dX11_text_11 (by decide) ?_
    refine r_ldcS (i := 27) dX11_text_12 rfl ?_
    refine r_astS (ws2 := ((q23, qA g 7 6 (va_up (va_up (fun _ => none) 0 (some (gK g iE))) 1 (some (gK g 27)))) :: t)) 0 (by decide) dX11_text_14 rfl (by decide) (by rfl) ?_
    refine r_dup dX11_text_15 rfl ?_
    refine r_iconst (v := (2 : Int32)) dX11_text_16 (by decide) ?_
    refine r_ldcS (i := 28) dX11_text_17 rfl ?_
    refine r_astS (ws2 := ((q23, qA g 7 6 (va_up (va_up (va_up (fun _ => none) 0 (some (gK g iE))) 1 (some (gK g 27))) 2 (some (gK g 28)))) :: t)) 0 (by decide) dX11_text_19 rfl (by decide) (by rfl) ?_
    refine r_dup dX11_text_20 rfl ?_
    refine r_iconst (v := (3 : Int32)) dX11_text_21 (by decide) ?_
    refine r_ldcS (i := 29) dX11_text_22 rfl ?_
    refine r_astS (ws2 := ((q23, qA g 7 6 (va_up (va_up (va_up (va_up (fun _ => none) 0 (some (gK g iE))) 1 (some (gK g 27))) 2 (some (gK g 28))) 3 (some (gK g 29)))) :: t)) 0 (by decide) dX11_text_24 rfl (by decide) (by rfl) ?_
    refine r_dup dX11_text_25 rfl ?_
    refine r_iconst (v := (4 : Int32)) dX11_text_26 (by decide) ?_
    refine r_ldcS (i := 30) dX11_text_27 rfl ?_
    refine r_astS (ws2 := ((q23, qA g 7 6 (va_up (va_up (va_up (va_up (va_up (fun _ => none) 0 (some (gK g iE))) 1 (some (gK g 27))) 2 (some (gK g 28))) 3 (some (gK g 29))) 4 (some (gK g 30)))) :: t)) 0 (by decide) dX11_text_29 rfl (by decide) (by rfl) ?_
    refine r_dup dX11_text_30 rfl ?_
    refine r_iconst (v := (5 : Int32)) dX11_text_31 (by decide) ?_
    refine r_ldcS (i := 31) dX11_text_32 rfl ?_
    refine r_astS (ws2 := ((q23, qA g 7 6 (va_up (va_up (va_up (va_up (va_up (va_up (fun _ => none) 0 (some (gK g iE))) 1 (some (gK g 27))) 2 (some (gK g 28))) 3 (some (gK g 29))) 4 (some (gK g 30))) 5 (some (gK g 31)))) :: t)) 0 (by decide) dX11_text_34 rfl (by decide) (by rfl) ?_
    refine r_astore_n [(1, .ref q23), (0, .ref a)] dX11_text_35 (by decide) rfl ?_
    refine r_bipush (v := (6 : Int32)) dX11_text_36 (by decide) ?_
    refine r_newS (x := ((16 * 2 ^ k - 16) + (16 * 2 ^ k - 16) + 14)) (y := ((33000 * 2 ^ k - 33000) + (33000 * 2 ^ k - 33000) + 32909)) (N := 6) dX11_text_38 kk_1585 (by decide) (by decide) (by decide) (fun q24 => ?_)
    refine r_dup dX11_text_41 rfl ?_
    refine r_iconst (v := (0 : Int32)) dX11_text_42 (by decide) ?_
    refine r_ldcS (i := 32) dX11_text_43 rfl ?_
    refine r_astS (ws2 := ((q24, qA g 7 6 (va_up (fun _ => none) 0 (some (gK g 32)))) :: ((q23, qA g 7 6 (va_up (va_up (va_up (va_up (va_up (va_up (fun _ => none) 0 (some (gK g iE))) 1 (some (gK g 27))) 2 (some (gK g 28))) 3 (some (gK g 29))) 4 (some (gK g 30))) 5 (some (gK g 31)))) :: t))) 0 (by decide) dX11_text_45 rfl (by decide) (by rfl) ?_
    refine r_dup dX11_text_46 rfl ?_
    refine r_iconst (v := (1 : Int32)) dX11_text_47 (by decide) ?_
    refine r_ldcS (i := 33) dX11_text_48 rfl ?_
    refine r_astS (ws2 := ((q24, qA g 7 6 (va_up (va_up (fun _ => none) 0 (some (gK g 32))) 1 (some (gK g 33)))) :: ((q23, qA g 7 6 (va_up (va_up (va_up (va_up (va_up (va_up (fun _ => none) 0 (some (gK g iE))) 1 (some (gK g 27))) 2 (some (gK g 28))) 3 (some (gK g 29))) 4 (some (gK g 30))) 5 (some (gK g 31)))) :: t))) 0 (by decide) dX11_text_50 rfl (by decide) (by rfl) ?_
    refine r_dup dX11_text_51 rfl ?_
    refine r_iconst (v := (2 : Int32)) dX11_text_52 (by decide) ?_
    refine r_ldcS (i := 34) dX11_text_53 rfl ?_
    refine r_astS (ws2 := ((q24, qA g 7 6 (va_up (va_up (va_up (fun _ => none) 0 (some (gK g 32))) 1 (some (gK g 33))) 2 (some (gK g 34)))) :: ((q23, qA g 7 6 (va_up (va_up (va_up (va_up (va_up (va_up (fun _ => none) 0 (some (gK g iE))) 1 (some (gK g 27))) 2 (some (gK g 28))) 3 (some (gK g 29))) 4 (some (gK g 30))) 5 (some (gK g 31)))) :: t))) 0 (by decide) dX11_text_55 rfl (by decide) (by rfl) ?_
    refine r_dup dX11_text_56 rfl ?_
    refine r_iconst (v := (3 : Int32)) dX11_text_57 (by decide) ?_
    refine r_ldcS (i := 35) dX11_text_58 rfl ?_
    refine r_astS (ws2 := ((q24, qA g 7 6 (va_up (va_up (va_up (va_up (fun _ => none) 0 (some (gK g 32))) 1 (some (gK g 33))) 2 (some (gK g 34))) 3 (some (gK g 35)))) :: ((q23, qA g 7 6 (va_up (va_up (va_up (va_up (va_up (va_up (fun _ => none) 0 (some (gK g iE))) 1 (some (gK g 27))) 2 (some (gK g 28))) 3 (some (gK g 29))) 4 (some (gK g 30))) 5 (some (gK g 31)))) :: t))) 0 (by decide) dX11_text_60 rfl (by decide) (by rfl) ?_
    refine r_dup dX11_text_61 rfl ?_
    refine r_iconst (v := (4 : Int32)) dX11_text_62 (by decide) ?_
    refine r_ldcS (i := 36) dX11_text_63 rfl ?_
    refine r_astS (ws2 := ((q24, qA g 7 6 (va_up (va_up (va_up (va_up (va_up (fun _ => none) 0 (some (gK g 32))) 1 (some (gK g 33))) 2 (some (gK g 34))) 3 (some (gK g 35))) 4 (some (gK g 36)))) :: ((q23, qA g 7 6 (va_up (va_up (va_up (va_up (va_up (va_up (fun _ => none) 0 (some (gK g iE))) 1 (some (gK g 27))) 2 (some (gK g 28))) 3 (some (gK g 29))) 4 (some (gK g 30))) 5 (some (gK g 31)))) :: t))) 0 (by decide) dX11_text_65 rfl (by decide) (by rfl) ?_
    refine r_dup dX11_text_66 rfl ?_
    refine r_iconst (v := (5 : Int32)) dX11_text_67 (by decide) ?_
    refine r_ldcS (i := 37) dX11_text_68 rfl ?_
    refine r_astS (ws2 := ((q24, qA g 7 6 (va_up (va_up (va_up (va_up (va_up (va_up (fun _ => none) 0 (some (gK g 32))) 1 (some (gK g 33))) 2 (some (gK g 34))) 3 (some (gK g 35))) 4 (some (gK g 36))) 5 (some (gK g 37)))) :: ((q23, qA g 7 6 (va_up (va_up (va_up (va_up (va_up (va_up (fun _ => none) 0 (some (gK g iE))) 1 (some (gK g 27))) 2 (some (gK g 28))) 3 (some (gK g 29))) 4 (some (gK g 30))) 5 (some (gK g 31)))) :: t))) 0 (by decide) dX11_text_70 rfl (by decide) (by rfl) ?_
    refine r_astore_n [(2, .ref q24), (1, .ref q23), (0, .ref a)] dX11_text_71 (by decide) rfl ?_
    refine r_iconst (v := (5 : Int32)) dX11_text_72 (by decide) ?_
    refine r_newS (x := ((16 * 2 ^ k - 16) + (16 * 2 ^ k - 16) + 13)) (y := ((33000 * 2 ^ k - 33000) + (33000 * 2 ^ k - 33000) + 32904)) (N := 5) dX11_text_73 kk_1585 (by decide) (by decide) (by decide) (fun q25 => ?_)
    refine r_dup dX11_text_76 rfl ?_
    refine r_iconst (v := (0 : Int32)) dX11_text_77 (by decide) ?_
    refine r_ldcS (i := 38) dX11_text_78 rfl ?_
    refine r_astS (ws2 := ((q25, qA g 7 5 (va_up (fun _ => none) 0 (some (gK g 38)))) :: ((q24, qA g 7 6 (va_up (va_up (va_up (va_up (va_up (va_up (fun _ => none) 0 (some (gK g 32))) 1 (some (gK g 33))) 2 (some (gK g 34))) 3 (some (gK g 35))) 4 (some (gK g 36))) 5 (some (gK g 37)))) :: ((q23, qA g 7 6 (va_up (va_up (va_up (va_up (va_up (va_up (fun _ => none) 0 (some (gK g iE))) 1 (some (gK g 27))) 2 (some (gK g 28))) 3 (some (gK g 29))) 4 (some (gK g 30))) 5 (some (gK g 31)))) :: t)))) 0 (by decide) dX11_text_80 rfl (by decide) (by rfl) ?_
    refine r_dup dX11_text_81 rfl ?_
    refine r_iconst (v := (1 : Int32)) dX11_text_82 (by decide) ?_
    refine r_ldcS (i := 39) dX11_text_83 rfl ?_
    refine r_astS (ws2 := ((q25, qA g 7 5 (va_up (va_up (fun _ => none) 0 (some (gK g 38))) 1 (some (gK g 39)))) :: ((q24, qA g 7 6 (va_up (va_up (va_up (va_up (va_up (va_up (fun _ => none) 0 (some (gK g 32))) 1 (some (gK g 33))) 2 (some (gK g 34))) 3 (some (gK g 35))) 4 (some (gK g 36))) 5 (some (gK g 37)))) :: ((q23, qA g 7 6 (va_up (va_up (va_up (va_up (va_up (va_up (fun _ => none) 0 (some (gK g iE))) 1 (some (gK g 27))) 2 (some (gK g 28))) 3 (some (gK g 29))) 4 (some (gK g 30))) 5 (some (gK g 31)))) :: t)))) 0 (by decide) dX11_text_85 rfl (by decide) (by rfl) ?_
    refine r_dup dX11_text_86 rfl ?_
    refine r_iconst (v := (2 : Int32)) dX11_text_87 (by decide) ?_
    refine r_ldcS (i := 40) dX11_text_88 rfl ?_
    refine r_astS (ws2 := ((q25, qA g 7 5 (va_up (va_up (va_up (fun _ => none) 0 (some (gK g 38))) 1 (some (gK g 39))) 2 (some (gK g 40)))) :: ((q24, qA g 7 6 (va_up (va_up (va_up (va_up (va_up (va_up (fun _ => none) 0 (some (gK g 32))) 1 (some (gK g 33))) 2 (some (gK g 34))) 3 (some (gK g 35))) 4 (some (gK g 36))) 5 (some (gK g 37)))) :: ((q23, qA g 7 6 (va_up (va_up (va_up (va_up (va_up (va_up (fun _ => none) 0 (some (gK g iE))) 1 (some (gK g 27))) 2 (some (gK g 28))) 3 (some (gK g 29))) 4 (some (gK g 30))) 5 (some (gK g 31)))) :: t)))) 0 (by decide) dX11_text_90 rfl (by decide) (by rfl) ?_
    refine r_dup dX11_text_91 rfl ?_
    refine r_iconst (v := (3 : Int32)) dX11_text_92 (by decide) ?_
    refine r_ldcS (i := 41) dX11_text_93 rfl ?_
    refine r_astS (ws2 := ((q25, qA g 7 5 (va_up (va_up (va_up (va_up (fun _ => none) 0 (some (gK g 38))) 1 (some (gK g 39))) 2 (some (gK g 40))) 3 (some (gK g 41)))) :: ((q24, qA g 7 6 (va_up (va_up (va_up (va_up (va_up (va_up (fun _ => none) 0 (some (gK g 32))) 1 (some (gK g 33))) 2 (some (gK g 34))) 3 (some (gK g 35))) 4 (some (gK g 36))) 5 (some (gK g 37)))) :: ((q23, qA g 7 6 (va_up (va_up (va_up (va_up (va_up (va_up (fun _ => none) 0 (some (gK g iE))) 1 (some (gK g 27))) 2 (some (gK g 28))) 3 (some (gK g 29))) 4 (some (gK g 30))) 5 (some (gK g 31)))) :: t)))) 0 (by decide) dX11_text_95 rfl (by decide) (by rfl) ?_
    refine r_dup dX11_text_96 rfl ?_
    refine r_iconst (v := (4 : Int32)) dX11_text_97 (by decide) ?_
    refine r_ldcS (i := 42) dX11_text_98 rfl ?_
    refine r_astS (ws2 := ((q25, qA g 7 5 (va_up (va_up (va_up (va_up (va_up (fun _ => none) 0 (some (gK g 38))) 1 (some (gK g 39))) 2 (some (gK g 40))) 3 (some (gK g 41))) 4 (some (gK g 42)))) :: ((q24, qA g 7 6 (va_up (va_up (va_up (va_up (va_up (va_up (fun _ => none) 0 (some (gK g 32))) 1 (some (gK g 33))) 2 (some (gK g 34))) 3 (some (gK g 35))) 4 (some (gK g 36))) 5 (some (gK g 37)))) :: ((q23, qA g 7 6 (va_up (va_up (va_up (va_up (va_up (va_up (fun _ => none) 0 (some (gK g iE))) 1 (some (gK g 27))) 2 (some (gK g 28))) 3 (some (gK g 29))) 4 (some (gK g 30))) 5 (some (gK g 31)))) :: t)))) 0 (by decide) dX11_text_100 rfl (by decide) (by rfl) ?_
    refine r_astore_n [(3, .ref q25), (2, .ref q24), (1, .ref q23), (0, .ref a)] dX11_text_101 (by decide) rfl ?_
    refine r_iconst (v := (4 : Int32)) dX11_text_102 (by decide) ?_
    refine r_newS (x := ((16 * 2 ^ k - 16) + (16 * 2 ^ k - 16) + 12)) (y := ((33000 * 2 ^ k - 33000) + (33000 * 2 ^ k - 33000) + 32900)) (N := 4) dX11_text_103 kk_1585 (by decide) (by decide) (by decide) (fun q26 => ?_)
    refine r_dup dX11_text_106 rfl ?_
    refine r_iconst (v := (0 : Int32)) dX11_text_107 (by decide) ?_
    refine r_ldcS (i := 43) dX11_text_108 rfl ?_
    refine r_astS (ws2 := ((q26, qA g 7 4 (va_up (fun _ => none) 0 (some (gK g 43)))) :: ((q25, qA g 7 5 (va_up (va_up (va_up (va_up (va_up (fun _ => none) 0 (some (gK g 38))) 1 (some (gK g 39))) 2 (some (gK g 40))) 3 (some (gK g 41))) 4 (some (gK g 42)))) :: ((q24, qA g 7 6 (va_up (va_up (va_up (va_up (va_up (va_up (fun _ => none) 0 (some (gK g 32))) 1 (some (gK g 33))) 2 (some (gK g 34))) 3 (some (gK g 35))) 4 (some (gK g 36))) 5 (some (gK g 37)))) :: ((q23, qA g 7 6 (va_up (va_up (va_up (va_up (va_up (va_up (fun _ => none) 0 (some (gK g iE))) 1 (some (gK g 27))) 2 (some (gK g 28))) 3 (some (gK g 29))) 4 (some (gK g 30))) 5 (some (gK g 31)))) :: t))))) 0 (by decide) dX11_text_110 rfl (by decide) (by rfl) ?_
    refine r_dup dX11_text_111 rfl ?_
    refine r_iconst (v := (1 : Int32)) dX11_text_112 (by decide) ?_
    refine r_ldcS (i := 44) dX11_text_113 rfl ?_
    refine r_astS (ws2 := ((q26, qA g 7 4 (va_up (va_up (fun _ => none) 0 (some (gK g 43))) 1 (some (gK g 44)))) :: ((q25, qA g 7 5 (va_up (va_up (va_up (va_up (va_up (fun _ => none) 0 (some (gK g 38))) 1 (some (gK g 39))) 2 (some (gK g 40))) 3 (some (gK g 41))) 4 (some (gK g 42)))) :: ((q24, qA g 7 6 (va_up (va_up (va_up (va_up (va_up (va_up (fun _ => none) 0 (some (gK g 32))) 1 (some (gK g 33))) 2 (some (gK g 34))) 3 (some (gK g 35))) 4 (some (gK g 36))) 5 (some (gK g 37)))) :: ((q23, qA g 7 6 (va_up (va_up (va_up (va_up (va_up (va_up (fun _ => none) 0 (some (gK g iE))) 1 (some (gK g 27))) 2 (some (gK g 28))) 3 (some (gK g 29))) 4 (some (gK g 30))) 5 (some (gK g 31)))) :: t))))) 0 (by decide) dX11_text_115 rfl (by decide) (by rfl) ?_
    refine r_dup dX11_text_116 rfl ?_
    refine r_iconst (v := (2 : Int32)) dX11_text_117 (by decide) ?_
    refine r_ldcS (i := 45) dX11_text_118 rfl ?_
    refine r_astS (ws2 := ((q26, qA g 7 4 (va_up (va_up (va_up (fun _ => none) 0 (some (gK g 43))) 1 (some (gK g 44))) 2 (some (gK g 45)))) :: ((q25, qA g 7 5 (va_up (va_up (va_up (va_up (va_up (fun _ => none) 0 (some (gK g 38))) 1 (some (gK g 39))) 2 (some (gK g 40))) 3 (some (gK g 41))) 4 (some (gK g 42)))) :: ((q24, qA g 7 6 (va_up (va_up (va_up (va_up (va_up (va_up (fun _ => none) 0 (some (gK g 32))) 1 (some (gK g 33))) 2 (some (gK g 34))) 3 (some (gK g 35))) 4 (some (gK g 36))) 5 (some (gK g 37)))) :: ((q23, qA g 7 6 (va_up (va_up (va_up (va_up (va_up (va_up (fun _ => none) 0 (some (gK g iE))) 1 (some (gK g 27))) 2 (some (gK g 28))) 3 (some (gK g 29))) 4 (some (gK g 30))) 5 (some (gK g 31)))) :: t))))) 0 (by decide) dX11_text_120 rfl (by decide) (by rfl) ?_
    refine r_dup dX11_text_121 rfl ?_
    refine r_iconst (v := (3 : Int32)) dX11_text_122 (by decide) ?_
    refine r_ldcS (i := 46) dX11_text_123 rfl ?_
    refine r_astS (ws2 := ((q26, qA g 7 4 (va_up (va_up (va_up (va_up (fun _ => none) 0 (some (gK g 43))) 1 (some (gK g 44))) 2 (some (gK g 45))) 3 (some (gK g 46)))) :: ((q25, qA g 7 5 (va_up (va_up (va_up (va_up (va_up (fun _ => none) 0 (some (gK g 38))) 1 (some (gK g 39))) 2 (some (gK g 40))) 3 (some (gK g 41))) 4 (some (gK g 42)))) :: ((q24, qA g 7 6 (va_up (va_up (va_up (va_up (va_up (va_up (fun _ => none) 0 (some (gK g 32))) 1 (some (gK g 33))) 2 (some (gK g 34))) 3 (some (gK g 35))) 4 (some (gK g 36))) 5 (some (gK g 37)))) :: ((q23, qA g 7 6 (va_up (va_up (va_up (va_up (va_up (va_up (fun _ => none) 0 (some (gK g iE))) 1 (some (gK g 27))) 2 (some (gK g 28))) 3 (some (gK g 29))) 4 (some (gK g 30))) 5 (some (gK g 31)))) :: t))))) 0 (by decide) dX11_text_125 rfl (by decide) (by rfl) ?_
    refine r_astore [(4, .ref q26), (3, .ref q25), (2, .ref q24), (1, .ref q23), (0, .ref a)] dX11_text_126 (by decide) rfl ?_
    have kids := tr_kids hk
    rcases kids with ⟨rfl, hb⟩ | rfl | rfl | rfl | ⟨rfl, hb⟩ | ⟨rfl, hb⟩ | ⟨hk1, x, rfl, hx⟩ | ⟨hk2, x, y, rfl, rfl, hx, hy⟩ | ⟨rfl, hb, hb2⟩ | ⟨rfl, hb⟩ | ⟨rfl, hb⟩ | ⟨rfl, hb⟩
    · exact tx_0 IH rfl hk5 hn hne ho hb
    · exact tx_1 IH rfl hk5 hn hne ho
    · exact tx_2 IH rfl hk5 hn hne ho
    · exact tx_3 IH rfl hk5 hn hne ho
    · exact tx_4 IH rfl hk5 hn hne ho (Nat.lt_of_lt_of_le hb hn)
    · exact tx_5 IH rfl hk5 hn hne ho (Nat.lt_of_lt_of_le hb hne)
    · rcases hk1 with rfl | rfl
      · exact tx_6 IH rfl hk5 hn hne ho (hma x rfl) hx
      · exact tx_29 IH rfl hk5 hn hne ho (hma x rfl) hx
    · rcases hk2 with rfl | rfl | rfl | rfl | rfl | rfl | rfl | rfl | rfl | rfl | rfl | rfl | rfl
      · exact tx_7 IH rfl hk5 hn hne ho (hma x rfl) hx (hmb y rfl) hy
      · exact tx_8 IH rfl hk5 hn hne ho (hma x rfl) hx (hmb y rfl) hy
      · exact tx_9 IH rfl hk5 hn hne ho (hma x rfl) hx (hmb y rfl) hy
      · exact tx_10 IH rfl hk5 hn hne ho (hma x rfl) hx (hmb y rfl) hy
      · exact tx_11 IH rfl hk5 hn hne ho (hma x rfl) hx (hmb y rfl) hy
      · exact tx_12 IH rfl hk5 hn hne ho (hma x rfl) hx (hmb y rfl) hy
      · exact tx_20 IH rfl hk5 hn hne ho (hma x rfl) hx (hmb y rfl) hy
      · exact tx_21 IH rfl hk5 hn hne ho (hma x rfl) hx (hmb y rfl) hy
      · exact tx_22 IH rfl hk5 hn hne ho (hma x rfl) hx (hmb y rfl) hy
      · exact tx_23 IH rfl hk5 hn hne ho (hma x rfl) hx (hmb y rfl) hy
      · exact tx_24 IH rfl hk5 hn hne ho (hma x rfl) hx (hmb y rfl) hy
      · exact tx_30 IH rfl hk5 hn hne ho (hma x rfl) hx (hmb y rfl) hy
      · exact tx_31 IH rfl hk5 hn hne ho (hma x rfl) hx (hmb y rfl) hy
    · exact tx_25 IH rfl hk5 hn hne ho (Nat.lt_of_lt_of_le hb hn) (Nat.lt_of_lt_of_le hb2 hn)
    · exact tx_26 IH rfl hk5 hn hne ho (Nat.lt_of_lt_of_le hb hn)
    · exact tx_27 IH rfl hk5 hn hne ho (Nat.lt_of_lt_of_le hb hn)
    · exact tx_28 IH rfl hk5 hn hne ho (Nat.lt_of_lt_of_le hb hne)
