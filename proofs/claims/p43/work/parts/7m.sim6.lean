theorem txt_len {ne nt : Nat} (hne : ne ≤ 10) (hnt : nt ≤ 10) : ∀ k T, (TE ne nt k T ∨ TB ne nt k T) → (txt k T).length ≤ 12 * 2 ^ k - 7
  | 0, T, _ => nomatch T
  | k + 1, ((a, kd, n, o), ta, tb), hk => by
    have hp : 2 ^ (k + 1) = 2 ^ k + 2 ^ k := by rw [Nat.pow_succ]; omega
    have hp1 : 0 < 2 ^ k := Nat.two_pow_pos k
    have kids := tr_kids hk
    rcases kids with ⟨rfl, hb⟩ | rfl | rfl | rfl | ⟨rfl, hb⟩ | ⟨rfl, hb⟩ | ⟨hk1, x, rfl, hx⟩ | ⟨hk2, x, y, rfl, rfl, hx, hy⟩ | ⟨rfl, hb, hb2⟩ | ⟨rfl, hb⟩ | ⟨rfl, hb⟩ | ⟨rfl, hb⟩
    · exact Nat.le_trans (show ((([] : List Int32) ++ kT 20) ++ dgL n).length ≤ _ from (lnA (lnA (Nat.le_refl 0) ((by decide : (kT 20).length ≤ 0))) (dgL_6 hb))) (by omega)
    · exact Nat.le_trans (by decide : (kT 27).length ≤ 12) (by omega)
    · exact Nat.le_trans (by decide : (kT 28).length ≤ 12) (by omega)
    · exact Nat.le_trans (by decide : (kT 29).length ≤ 12) (by omega)
    · exact Nat.le_trans (show (((([] : List Int32) ++ kT 30) ++ dgL n) ++ kT 47).length ≤ _ from (lnA (lnA (lnA (Nat.le_refl 0) ((by decide : (kT 30).length ≤ 11))) (dgL_t1 (v := n) (by omega))) ((by decide : (kT 47).length ≤ 1)))) (by omega)
    · exact Nat.le_trans (show (((([] : List Int32) ++ kT 31) ++ dgL n) ++ kT 47).length ≤ _ from (lnA (lnA (lnA (Nat.le_refl 0) ((by decide : (kT 31).length ≤ 11))) (dgL_t1 (v := n) (by omega))) ((by decide : (kT 47).length ≤ 1)))) (by omega)
    · rcases hk1 with rfl | rfl
      · exact Nat.le_trans (show (((([] : List Int32) ++ kT 48) ++ (txt k x)) ++ kT 49).length ≤ _ from (lnA (lnA (lnA (Nat.le_refl 0) ((by decide : (kT 48).length ≤ 3))) (txt_len hne hnt k x hx)) ((by decide : (kT 49).length ≤ 1)))) (by omega)
      · exact Nat.le_trans (show (((([] : List Int32) ++ kT 53) ++ (txt k x)) ++ kT 54).length ≤ _ from (lnA (lnA (lnA (Nat.le_refl 0) ((by decide : (kT 53).length ≤ 4))) (txt_len hne hnt k x hx)) ((by decide : (kT 54).length ≤ 1)))) (by omega)
    · rcases hk2 with rfl | rfl | rfl | rfl | rfl | rfl | rfl | rfl | rfl | rfl | rfl | rfl | rfl
      · exact Nat.le_trans (show (((((((([] : List Int32) ++ kT 50) ++ (txt k x)) ++ kT 49) ++ kT 32) ++ kT 50) ++ (txt k y)) ++ kT 49).length ≤ _ from (lnA (lnA (lnA (lnA (lnA (lnA (lnA (Nat.le_refl 0) ((by decide : (kT 50).length ≤ 1))) (txt_len hne hnt k x hx)) ((by decide : (kT 49).length ≤ 1))) ((by decide : (kT 32).length ≤ 1))) ((by decide : (kT 50).length ≤ 1))) (txt_len hne hnt k y hy)) ((by decide : (kT 49).length ≤ 1)))) (by omega)
      · exact Nat.le_trans (show (((((((([] : List Int32) ++ kT 50) ++ (txt k x)) ++ kT 49) ++ kT 33) ++ kT 50) ++ (txt k y)) ++ kT 49).length ≤ _ from (lnA (lnA (lnA (lnA (lnA (lnA (lnA (Nat.le_refl 0) ((by decide : (kT 50).length ≤ 1))) (txt_len hne hnt k x hx)) ((by decide : (kT 49).length ≤ 1))) ((by decide : (kT 33).length ≤ 1))) ((by decide : (kT 50).length ≤ 1))) (txt_len hne hnt k y hy)) ((by decide : (kT 49).length ≤ 1)))) (by omega)
      · exact Nat.le_trans (show (((((((([] : List Int32) ++ kT 50) ++ (txt k x)) ++ kT 49) ++ kT 34) ++ kT 50) ++ (txt k y)) ++ kT 49).length ≤ _ from (lnA (lnA (lnA (lnA (lnA (lnA (lnA (Nat.le_refl 0) ((by decide : (kT 50).length ≤ 1))) (txt_len hne hnt k x hx)) ((by decide : (kT 49).length ≤ 1))) ((by decide : (kT 34).length ≤ 1))) ((by decide : (kT 50).length ≤ 1))) (txt_len hne hnt k y hy)) ((by decide : (kT 49).length ≤ 1)))) (by omega)
      · exact Nat.le_trans (show (((((((([] : List Int32) ++ kT 50) ++ (txt k x)) ++ kT 49) ++ kT 35) ++ kT 50) ++ (txt k y)) ++ kT 49).length ≤ _ from (lnA (lnA (lnA (lnA (lnA (lnA (lnA (Nat.le_refl 0) ((by decide : (kT 50).length ≤ 1))) (txt_len hne hnt k x hx)) ((by decide : (kT 49).length ≤ 1))) ((by decide : (kT 35).length ≤ 1))) ((by decide : (kT 50).length ≤ 1))) (txt_len hne hnt k y hy)) ((by decide : (kT 49).length ≤ 1)))) (by omega)
      · exact Nat.le_trans (show (((((([] : List Int32) ++ kT 36) ++ (txt k x)) ++ kT 51) ++ (txt k y)) ++ kT 49).length ≤ _ from (lnA (lnA (lnA (lnA (lnA (Nat.le_refl 0) ((by decide : (kT 36).length ≤ 4))) (txt_len hne hnt k x hx)) ((by decide : (kT 51).length ≤ 1))) (txt_len hne hnt k y hy)) ((by decide : (kT 49).length ≤ 1)))) (by omega)
      · exact Nat.le_trans (show (((((([] : List Int32) ++ kT 37) ++ (txt k x)) ++ kT 51) ++ (txt k y)) ++ kT 49).length ≤ _ from (lnA (lnA (lnA (lnA (lnA (Nat.le_refl 0) ((by decide : (kT 37).length ≤ 4))) (txt_len hne hnt k x hx)) ((by decide : (kT 51).length ≤ 1))) (txt_len hne hnt k y hy)) ((by decide : (kT 49).length ≤ 1)))) (by omega)
      · exact Nat.le_trans (show (((([] : List Int32) ++ (txt k x)) ++ kT 38) ++ (txt k y)).length ≤ _ from (lnA (lnA (lnA (Nat.le_refl 0) (txt_len hne hnt k x hx)) ((by decide : (kT 38).length ≤ 1))) (txt_len hne hnt k y hy))) (by omega)
      · exact Nat.le_trans (show (((([] : List Int32) ++ (txt k x)) ++ kT 39) ++ (txt k y)).length ≤ _ from (lnA (lnA (lnA (Nat.le_refl 0) (txt_len hne hnt k x hx)) ((by decide : (kT 39).length ≤ 1))) (txt_len hne hnt k y hy))) (by omega)
      · exact Nat.le_trans (show (((([] : List Int32) ++ (txt k x)) ++ kT 40) ++ (txt k y)).length ≤ _ from (lnA (lnA (lnA (Nat.le_refl 0) (txt_len hne hnt k x hx)) ((by decide : (kT 40).length ≤ 1))) (txt_len hne hnt k y hy))) (by omega)
      · exact Nat.le_trans (show (((([] : List Int32) ++ (txt k x)) ++ kT 41) ++ (txt k y)).length ≤ _ from (lnA (lnA (lnA (Nat.le_refl 0) (txt_len hne hnt k x hx)) ((by decide : (kT 41).length ≤ 2))) (txt_len hne hnt k y hy))) (by omega)
      · exact Nat.le_trans (show (((([] : List Int32) ++ (txt k x)) ++ kT 42) ++ (txt k y)).length ≤ _ from (lnA (lnA (lnA (Nat.le_refl 0) (txt_len hne hnt k x hx)) ((by decide : (kT 42).length ≤ 2))) (txt_len hne hnt k y hy))) (by omega)
      · exact Nat.le_trans (show (((((((([] : List Int32) ++ kT 55) ++ (txt k x)) ++ kT 54) ++ kT 56) ++ kT 55) ++ (txt k y)) ++ kT 54).length ≤ _ from (lnA (lnA (lnA (lnA (lnA (lnA (lnA (Nat.le_refl 0) ((by decide : (kT 55).length ≤ 1))) (txt_len hne hnt k x hx)) ((by decide : (kT 54).length ≤ 1))) ((by decide : (kT 56).length ≤ 3))) ((by decide : (kT 55).length ≤ 1))) (txt_len hne hnt k y hy)) ((by decide : (kT 54).length ≤ 1)))) (by omega)
      · exact Nat.le_trans (show (((((((([] : List Int32) ++ kT 55) ++ (txt k x)) ++ kT 54) ++ kT 57) ++ kT 55) ++ (txt k y)) ++ kT 54).length ≤ _ from (lnA (lnA (lnA (lnA (lnA (lnA (lnA (Nat.le_refl 0) ((by decide : (kT 55).length ≤ 1))) (txt_len hne hnt k x hx)) ((by decide : (kT 54).length ≤ 1))) ((by decide : (kT 57).length ≤ 2))) ((by decide : (kT 55).length ≤ 1))) (txt_len hne hnt k y hy)) ((by decide : (kT 54).length ≤ 1)))) (by omega)
    · exact Nat.le_trans (show (((((([] : List Int32) ++ kT 43) ++ dgL n) ++ kT 52) ++ dgL o) ++ kT 47).length ≤ _ from (lnA (lnA (lnA (lnA (lnA (Nat.le_refl 0) ((by decide : (kT 43).length ≤ 12))) (dgL_t1 (v := n) (by omega))) ((by decide : (kT 52).length ≤ 2))) (dgL_t1 (v := o) (by omega))) ((by decide : (kT 47).length ≤ 1)))) (by omega)
    · exact Nat.le_trans (show (((([] : List Int32) ++ kT 44) ++ dgL n) ++ kT 47).length ≤ _ from (lnA (lnA (lnA (Nat.le_refl 0) ((by decide : (kT 44).length ≤ 6))) (dgL_t1 (v := n) (by omega))) ((by decide : (kT 47).length ≤ 1)))) (by omega)
    · exact Nat.le_trans (show (((([] : List Int32) ++ kT 45) ++ dgL n) ++ kT 47).length ≤ _ from (lnA (lnA (lnA (Nat.le_refl 0) ((by decide : (kT 45).length ≤ 9))) (dgL_t1 (v := n) (by omega))) ((by decide : (kT 47).length ≤ 1)))) (by omega)
    · exact Nat.le_trans (show (((([] : List Int32) ++ kT 46) ++ dgL n) ++ kT 47).length ≤ _ from (lnA (lnA (lnA (Nat.le_refl 0) ((by decide : (kT 46).length ≤ 8))) (dgL_t1 (v := n) (by omega))) ((by decide : (kT 47).length ≤ 1)))) (by omega)
set_option maxRecDepth 20000 in
set_option maxHeartbeats 8000000 in
theorem cl_text {g : GG} {ne nt : Nat} (hn : nt ≤ 6) (hne : ne ≤ 8) : ∀ k (T : TT k) (t : va_W), k ≤ 6 → TM g t k T → (TE ne nt k T ∨ TB ne nt k T) → Ct g mX11_text (k + 8) (16 * 2 ^ k - 16) (33000 * 2 ^ k - 33000) [.ref (tA k T)] t (Dq (fun (z : SZ) => some (sv g z)) (fun z => sw g (txt k T).length z ++ t) (fun z => sP (txt k T) z))
  | 0, T, _, _, _, _ => nomatch T
  | k + 1, ((a, kd, n, o), ta, tb), t, hk6, hT, hk => by
    refine Ct.ofR (by decide +kernel) rfl (Nat.le_of_ble_eq_true rfl) ?_
    obtain ⟨ho, hma, hmb⟩ := hT
    have hp : 2 ^ (k + 1) = 2 ^ k + 2 ^ k := by rw [Nat.pow_succ]; omega
    have hp1 : 0 < 2 ^ k := Nat.two_pow_pos k
    have hp6 : 2 ^ k ≤ 32 := Nat.le_trans (Nat.pow_le_pow_right (by decide) (by omega : k ≤ 5)) (by decide)
    show R g mX11_text (k + 1 + 8) (16 * 2 ^ (k + 1) - 16) (33000 * 2 ^ (k + 1) - 33000) 0 [(0, .ref a)] [] t _
    refine r_room (x2 := ((16 * 2 ^ k - 16) + (16 * 2 ^ k - 16) + 16)) (y2 := ((33000 * 2 ^ k - 33000) + (33000 * 2 ^ k - 33000) + 33000)) (by omega) (by omega) ?_
    refine r_bipush (v := (6 : Int32)) dX11_text_0 (by decide) ?_
    refine r_newS (x := ((16 * 2 ^ k - 16) + (16 * 2 ^ k - 16) + 15)) (y := ((33000 * 2 ^ k - 33000) + (33000 * 2 ^ k - 33000) + 32994)) (N := 6) dX11_text_2 kk_1585 (by decide) (by decide) (by decide) (fun q1 => ?_)
    refine r_dup dX11_text_5 rfl ?_
    refine r_iconst (v := (0 : Int32)) dX11_text_6 (by decide) ?_
    refine r_ldcE dX11_text_7 rfl ?_
    refine r_astS (j := iE) (ws2 := ((q1, qA g 7 6 (va_up (fun _ => none) 0 (some (gK g iE)))) :: t)) 0 (by decide) dX11_text_9 rfl (by decide) (by rfl) ?_
    refine r_dup dX11_text_10 rfl ?_
    refine r_iconst (v := (1 : Int32)) dX11_text_11 (by decide) ?_
    refine r_ldcS (i := 27) dX11_text_12 rfl ?_
    refine r_astS (ws2 := ((q1, qA g 7 6 (va_up (va_up (fun _ => none) 0 (some (gK g iE))) 1 (some (gK g 27)))) :: t)) 0 (by decide) dX11_text_14 rfl (by decide) (by rfl) ?_
    refine r_dup dX11_text_15 rfl ?_
    refine r_iconst (v := (2 : Int32)) dX11_text_16 (by decide) ?_
    refine r_ldcS (i := 28) dX11_text_17 rfl ?_
    refine r_astS (ws2 := ((q1, qA g 7 6 (va_up (va_up (va_up (fun _ => none) 0 (some (gK g iE))) 1 (some (gK g 27))) 2 (some (gK g 28)))) :: t)) 0 (by decide) dX11_text_19 rfl (by decide) (by rfl) ?_
    refine r_dup dX11_text_20 rfl ?_
    refine r_iconst (v := (3 : Int32)) dX11_text_21 (by decide) ?_
    refine r_ldcS (i := 29) dX11_text_22 rfl ?_
    refine r_astS (ws2 := ((q1, qA g 7 6 (va_up (va_up (va_up (va_up (fun _ => none) 0 (some (gK g iE))) 1 (some (gK g 27))) 2 (some (gK g 28))) 3 (some (gK g 29)))) :: t)) 0 (by decide) dX11_text_24 rfl (by decide) (by rfl) ?_
    refine r_dup dX11_text_25 rfl ?_
    refine r_iconst (v := (4 : Int32)) dX11_text_26 (by decide) ?_
    refine r_ldcS (i := 30) dX11_text_27 rfl ?_
    refine r_astS (ws2 := ((q1, qA g 7 6 (va_up (va_up (va_up (va_up (va_up (fun _ => none) 0 (some (gK g iE))) 1 (some (gK g 27))) 2 (some (gK g 28))) 3 (some (gK g 29))) 4 (some (gK g 30)))) :: t)) 0 (by decide) dX11_text_29 rfl (by decide) (by rfl) ?_
    refine r_dup dX11_text_30 rfl ?_
    refine r_iconst (v := (5 : Int32)) dX11_text_31 (by decide) ?_
    refine r_ldcS (i := 31) dX11_text_32 rfl ?_
    refine r_astS (ws2 := ((q1, qA g 7 6 (va_up (va_up (va_up (va_up (va_up (va_up (fun _ => none) 0 (some (gK g iE))) 1 (some (gK g 27))) 2 (some (gK g 28))) 3 (some (gK g 29))) 4 (some (gK g 30))) 5 (some (gK g 31)))) :: t)) 0 (by decide) dX11_text_34 rfl (by decide) (by rfl) ?_
    refine r_astore_n [(1, .ref q1), (0, .ref a)] dX11_text_35 (by decide) rfl ?_
    refine r_bipush (v := (6 : Int32)) dX11_text_36 (by decide) ?_
    refine r_newS (x := ((16 * 2 ^ k - 16) + (16 * 2 ^ k - 16) + 14)) (y := ((33000 * 2 ^ k - 33000) + (33000 * 2 ^ k - 33000) + 32988)) (N := 6) dX11_text_38 kk_1585 (by decide) (by decide) (by decide) (fun q2 => ?_)
    refine r_dup dX11_text_41 rfl ?_
    refine r_iconst (v := (0 : Int32)) dX11_text_42 (by decide) ?_
    refine r_ldcS (i := 32) dX11_text_43 rfl ?_
    refine r_astS (ws2 := ((q2, qA g 7 6 (va_up (fun _ => none) 0 (some (gK g 32)))) :: ((q1, qA g 7 6 (va_up (va_up (va_up (va_up (va_up (va_up (fun _ => none) 0 (some (gK g iE))) 1 (some (gK g 27))) 2 (some (gK g 28))) 3 (some (gK g 29))) 4 (some (gK g 30))) 5 (some (gK g 31)))) :: t))) 0 (by decide) dX11_text_45 rfl (by decide) (by rfl) ?_
    refine r_dup dX11_text_46 rfl ?_
    refine r_iconst (v := (1 : Int32)) dX11_text_47 (by decide) ?_
    refine r_ldcS (i := 33) dX11_text_48 rfl ?_
    refine r_astS (ws2 := ((q2, qA g 7 6 (va_up (va_up (fun _ => none) 0 (some (gK g 32))) 1 (some (gK g 33)))) :: ((q1, qA g 7 6 (va_up (va_up (va_up (va_up (va_up (va_up (fun _ => none) 0 (some (gK g iE))) 1 (some (gK g 27))) 2 (some (gK g 28))) 3 (some (gK g 29))) 4 (some (gK g 30))) 5 (some (gK g 31)))) :: t))) 0 (by decide) dX11_text_50 rfl (by decide) (by rfl) ?_
    refine r_dup dX11_text_51 rfl ?_
    refine r_iconst (v := (2 : Int32)) dX11_text_52 (by decide) ?_
    refine r_ldcS (i := 34) dX11_text_53 rfl ?_
    refine r_astS (ws2 := ((q2, qA g 7 6 (va_up (va_up (va_up (fun _ => none) 0 (some (gK g 32))) 1 (some (gK g 33))) 2 (some (gK g 34)))) :: ((q1, qA g 7 6 (va_up (va_up (va_up (va_up (va_up (va_up (fun _ => none) 0 (some (gK g iE))) 1 (some (gK g 27))) 2 (some (gK g 28))) 3 (some (gK g 29))) 4 (some (gK g 30))) 5 (some (gK g 31)))) :: t))) 0 (by decide) dX11_text_55 rfl (by decide) (by rfl) ?_
    refine r_dup dX11_text_56 rfl ?_
    refine r_iconst (v := (3 : Int32)) dX11_text_57 (by decide) ?_
    refine r_ldcS (i := 35) dX11_text_58 rfl ?_
    refine r_astS (ws2 := ((q2, qA g 7 6 (va_up (va_up (va_up (va_up (fun _ => none) 0 (some (gK g 32))) 1 (some (gK g 33))) 2 (some (gK g 34))) 3 (some (gK g 35)))) :: ((q1, qA g 7 6 (va_up (va_up (va_up (va_up (va_up (va_up (fun _ => none) 0 (some (gK g iE))) 1 (some (gK g 27))) 2 (some (gK g 28))) 3 (some (gK g 29))) 4 (some (gK g 30))) 5 (some (gK g 31)))) :: t))) 0 (by decide) dX11_text_60 rfl (by decide) (by rfl) ?_
    refine r_dup dX11_text_61 rfl ?_
    refine r_iconst (v := (4 : Int32)) dX11_text_62 (by decide) ?_
    refine r_ldcS (i := 36) dX11_text_63 rfl ?_
    refine r_astS (ws2 := ((q2, qA g 7 6 (va_up (va_up (va_up (va_up (va_up (fun _ => none) 0 (some (gK g 32))) 1 (some (gK g 33))) 2 (some (gK g 34))) 3 (some (gK g 35))) 4 (some (gK g 36)))) :: ((q1, qA g 7 6 (va_up (va_up (va_up (va_up (va_up (va_up (fun _ => none) 0 (some (gK g iE))) 1 (some (gK g 27))) 2 (some (gK g 28))) 3 (some (gK g 29))) 4 (some (gK g 30))) 5 (some (gK g 31)))) :: t))) 0 (by decide) dX11_text_65 rfl (by decide) (by rfl) ?_
    refine r_dup dX11_text_66 rfl ?_
    refine r_iconst (v := (5 : Int32)) dX11_text_67 (by decide) ?_
    refine r_ldcS (i := 37) dX11_text_68 rfl ?_
    refine r_astS (ws2 := ((q2, qA g 7 6 (va_up (va_up (va_up (va_up (va_up (va_up (fun _ => none) 0 (some (gK g 32))) 1 (some (gK g 33))) 2 (some (gK g 34))) 3 (some (gK g 35))) 4 (some (gK g 36))) 5 (some (gK g 37)))) :: ((q1, qA g 7 6 (va_up (va_up (va_up (va_up (va_up (va_up (fun _ => none) 0 (some (gK g iE))) 1 (some (gK g 27))) 2 (some (gK g 28))) 3 (some (gK g 29))) 4 (some (gK g 30))) 5 (some (gK g 31)))) :: t))) 0 (by decide) dX11_text_70 rfl (by decide) (by rfl) ?_
    refine r_astore_n [(2, .ref q2), (1, .ref q1), (0, .ref a)] dX11_text_71 (by decide) rfl ?_
    refine r_iconst (v := (5 : Int32)) dX11_text_72 (by decide) ?_
    refine r_newS (x := ((16 * 2 ^ k - 16) + (16 * 2 ^ k - 16) + 13)) (y := ((33000 * 2 ^ k - 33000) + (33000 * 2 ^ k - 33000) + 32983)) (N := 5) dX11_text_73 kk_1585 (by decide) (by decide) (by decide) (fun q3 => ?_)
    refine r_dup dX11_text_76 rfl ?_
    refine r_iconst (v := (0 : Int32)) dX11_text_77 (by decide) ?_
    refine r_ldcS (i := 38) dX11_text_78 rfl ?_
    refine r_astS (ws2 := ((q3, qA g 7 5 (va_up (fun _ => none) 0 (some (gK g 38)))) :: ((q2, qA g 7 6 (va_up (va_up (va_up (va_up (va_up (va_up (fun _ => none) 0 (some (gK g 32))) 1 (some (gK g 33))) 2 (some (gK g 34))) 3 (some (gK g 35))) 4 (some (gK g 36))) 5 (some (gK g 37)))) :: ((q1, qA g 7 6 (va_up (va_up (va_up (va_up (va_up (va_up (fun _ => none) 0 (some (gK g iE))) 1 (some (gK g 27))) 2 (some (gK g 28))) 3 (some (gK g 29))) 4 (some (gK g 30))) 5 (some (gK g 31)))) :: t)))) 0 (by decide) dX11_text_80 rfl (by decide) (by rfl) ?_
    refine r_dup dX11_text_81 rfl ?_
    refine r_iconst (v := (1 : Int32)) dX11_text_82 (by decide) ?_
    refine r_ldcS (i := 39) dX11_text_83 rfl ?_
    refine r_astS (ws2 := ((q3, qA g 7 5 (va_up (va_up (fun _ => none) 0 (some (gK g 38))) 1 (some (gK g 39)))) :: ((q2, qA g 7 6 (va_up (va_up (va_up (va_up (va_up (va_up (fun _ => none) 0 (some (gK g 32))) 1 (some (gK g 33))) 2 (some (gK g 34))) 3 (some (gK g 35))) 4 (some (gK g 36))) 5 (some (gK g 37)))) :: ((q1, qA g 7 6 (va_up (va_up (va_up (va_up (va_up (va_up (fun _ => none) 0 (some (gK g iE))) 1 (some (gK g 27))) 2 (some (gK g 28))) 3 (some (gK g 29))) 4 (some (gK g 30))) 5 (some (gK g 31)))) :: t)))) 0 (by decide) dX11_text_85 rfl (by decide) (by rfl) ?_
    refine r_dup dX11_text_86 rfl ?_
    refine r_iconst (v := (2 : Int32)) dX11_text_87 (by decide) ?_
    refine r_ldcS (i := 40) dX11_text_88 rfl ?_
    refine r_astS (ws2 := ((q3, qA g 7 5 (va_up (va_up (va_up (fun _ => none) 0 (some (gK g 38))) 1 (some (gK g 39))) 2 (some (gK g 40)))) :: ((q2, qA g 7 6 (va_up (va_up (va_up (va_up (va_up (va_up (fun _ => none) 0 (some (gK g 32))) 1 (some (gK g 33))) 2 (some (gK g 34))) 3 (some (gK g 35))) 4 (some (gK g 36))) 5 (some (gK g 37)))) :: ((q1, qA g 7 6 (va_up (va_up (va_up (va_up (va_up (va_up (fun _ => none) 0 (some (gK g iE))) 1 (some (gK g 27))) 2 (some (gK g 28))) 3 (some (gK g 29))) 4 (some (gK g 30))) 5 (some (gK g 31)))) :: t)))) 0 (by decide) dX11_text_90 rfl (by decide) (by rfl) ?_
    refine r_dup dX11_text_91 rfl ?_
    refine r_iconst (v := (3 : Int32)) dX11_text_92 (by decide) ?_
    refine r_ldcS (i := 41) dX11_text_93 rfl ?_
    refine r_astS (ws2 := ((q3, qA g 7 5 (va_up (va_up (va_up (va_up (fun _ => none) 0 (some (gK g 38))) 1 (some (gK g 39))) 2 (some (gK g 40))) 3 (some (gK g 41)))) :: ((q2, qA g 7 6 (va_up (va_up (va_up (va_up (va_up (va_up (fun _ => none) 0 (some (gK g 32))) 1 (some (gK g 33))) 2 (some (gK g 34))) 3 (some (gK g 35))) 4 (some (gK g 36))) 5 (some (gK g 37)))) :: ((q1, qA g 7 6 (va_up (va_up (va_up (va_up (va_up (va_up (fun _ => none) 0 (some (gK g iE))) 1 (some (gK g 27))) 2 (some (gK g 28))) 3 (some (gK g 29))) 4 (some (gK g 30))) 5 (some (gK g 31)))) :: t)))) 0 (by decide) dX11_text_95 rfl (by decide) (by rfl) ?_
    refine r_dup dX11_text_96 rfl ?_
    refine r_iconst (v := (4 : Int32)) dX11_text_97 (by decide) ?_
    refine r_ldcS (i := 42) dX11_text_98 rfl ?_
    refine r_astS (ws2 := ((q3, qA g 7 5 (va_up (va_up (va_up (va_up (va_up (fun _ => none) 0 (some (gK g 38))) 1 (some (gK g 39))) 2 (some (gK g 40))) 3 (some (gK g 41))) 4 (some (gK g 42)))) :: ((q2, qA g 7 6 (va_up (va_up (va_up (va_up (va_up (va_up (fun _ => none) 0 (some (gK g 32))) 1 (some (gK g 33))) 2 (some (gK g 34))) 3 (some (gK g 35))) 4 (some (gK g 36))) 5 (some (gK g 37)))) :: ((q1, qA g 7 6 (va_up (va_up (va_up (va_up (va_up (va_up (fun _ => none) 0 (some (gK g iE))) 1 (some (gK g 27))) 2 (some (gK g 28))) 3 (some (gK g 29))) 4 (some (gK g 30))) 5 (some (gK g 31)))) :: t)))) 0 (by decide) dX11_text_100 rfl (by decide) (by rfl) ?_
    refine r_astore_n [(3, .ref q3), (2, .ref q2), (1, .ref q1), (0, .ref a)] dX11_text_101 (by decide) rfl ?_
    refine r_iconst (v := (4 : Int32)) dX11_text_102 (by decide) ?_
    refine r_newS (x := ((16 * 2 ^ k - 16) + (16 * 2 ^ k - 16) + 12)) (y := ((33000 * 2 ^ k - 33000) + (33000 * 2 ^ k - 33000) + 32979)) (N := 4) dX11_text_103 kk_1585 (by decide) (by decide) (by decide) (fun q4 => ?_)
    refine r_dup dX11_text_106 rfl ?_
    refine r_iconst (v := (0 : Int32)) dX11_text_107 (by decide) ?_
    refine r_ldcS (i := 43) dX11_text_108 rfl ?_
    refine r_astS (ws2 := ((q4, qA g 7 4 (va_up (fun _ => none) 0 (some (gK g 43)))) :: ((q3, qA g 7 5 (va_up (va_up (va_up (va_up (va_up (fun _ => none) 0 (some (gK g 38))) 1 (some (gK g 39))) 2 (some (gK g 40))) 3 (some (gK g 41))) 4 (some (gK g 42)))) :: ((q2, qA g 7 6 (va_up (va_up (va_up (va_up (va_up (va_up (fun _ => none) 0 (some (gK g 32))) 1 (some (gK g 33))) 2 (some (gK g 34))) 3 (some (gK g 35))) 4 (some (gK g 36))) 5 (some (gK g 37)))) :: ((q1, qA g 7 6 (va_up (va_up (va_up (va_up (va_up (va_up (fun _ => none) 0 (some (gK g iE))) 1 (some (gK g 27))) 2 (some (gK g 28))) 3 (some (gK g 29))) 4 (some (gK g 30))) 5 (some (gK g 31)))) :: t))))) 0 (by decide) dX11_text_110 rfl (by decide) (by rfl) ?_
    refine r_dup dX11_text_111 rfl ?_
    refine r_iconst (v := (1 : Int32)) dX11_text_112 (by decide) ?_
    refine r_ldcS (i := 44) dX11_text_113 rfl ?_
    refine r_astS (ws2 := ((q4, qA g 7 4 (va_up (va_up (fun _ => none) 0 (some (gK g 43))) 1 (some (gK g 44)))) :: ((q3, qA g 7 5 (va_up (va_up (va_up (va_up (va_up (fun _ => none) 0 (some (gK g 38))) 1 (some (gK g 39))) 2 (some (gK g 40))) 3 (some (gK g 41))) 4 (some (gK g 42)))) :: ((q2, qA g 7 6 (va_up (va_up (va_up (va_up (va_up (va_up (fun _ => none) 0 (some (gK g 32))) 1 (some (gK g 33))) 2 (some (gK g 34))) 3 (some (gK g 35))) 4 (some (gK g 36))) 5 (some (gK g 37)))) :: ((q1, qA g 7 6 (va_up (va_up (va_up (va_up (va_up (va_up (fun _ => none) 0 (some (gK g iE))) 1 (some (gK g 27))) 2 (some (gK g 28))) 3 (some (gK g 29))) 4 (some (gK g 30))) 5 (some (gK g 31)))) :: t))))) 0 (by decide) dX11_text_115 rfl (by decide) (by rfl) ?_
    refine r_dup dX11_text_116 rfl ?_
    refine r_iconst (v := (2 : Int32)) dX11_text_117 (by decide) ?_
    refine r_ldcS (i := 45) dX11_text_118 rfl ?_
    refine r_astS (ws2 := ((q4, qA g 7 4 (va_up (va_up (va_up (fun _ => none) 0 (some (gK g 43))) 1 (some (gK g 44))) 2 (some (gK g 45)))) :: ((q3, qA g 7 5 (va_up (va_up (va_up (va_up (va_up (fun _ => none) 0 (some (gK g 38))) 1 (some (gK g 39))) 2 (some (gK g 40))) 3 (some (gK g 41))) 4 (some (gK g 42)))) :: ((q2, qA g 7 6 (va_up (va_up (va_up (va_up (va_up (va_up (fun _ => none) 0 (some (gK g 32))) 1 (some (gK g 33))) 2 (some (gK g 34))) 3 (some (gK g 35))) 4 (some (gK g 36))) 5 (some (gK g 37)))) :: ((q1, qA g 7 6 (va_up (va_up (va_up (va_up (va_up (va_up (fun _ => none) 0 (some (gK g iE))) 1 (some (gK g 27))) 2 (some (gK g 28))) 3 (some (gK g 29))) 4 (some (gK g 30))) 5 (some (gK g 31)))) :: t))))) 0 (by decide) dX11_text_120 rfl (by decide) (by rfl) ?_
    refine r_dup dX11_text_121 rfl ?_
    refine r_iconst (v := (3 : Int32)) dX11_text_122 (by decide) ?_
    refine r_ldcS (i := 46) dX11_text_123 rfl ?_
    refine r_astS (ws2 := ((q4, qA g 7 4 (va_up (va_up (va_up (va_up (fun _ => none) 0 (some (gK g 43))) 1 (some (gK g 44))) 2 (some (gK g 45))) 3 (some (gK g 46)))) :: ((q3, qA g 7 5 (va_up (va_up (va_up (va_up (va_up (fun _ => none) 0 (some (gK g 38))) 1 (some (gK g 39))) 2 (some (gK g 40))) 3 (some (gK g 41))) 4 (some (gK g 42)))) :: ((q2, qA g 7 6 (va_up (va_up (va_up (va_up (va_up (va_up (fun _ => none) 0 (some (gK g 32))) 1 (some (gK g 33))) 2 (some (gK g 34))) 3 (some (gK g 35))) 4 (some (gK g 36))) 5 (some (gK g 37)))) :: ((q1, qA g 7 6 (va_up (va_up (va_up (va_up (va_up (va_up (fun _ => none) 0 (some (gK g iE))) 1 (some (gK g 27))) 2 (some (gK g 28))) 3 (some (gK g 29))) 4 (some (gK g 30))) 5 (some (gK g 31)))) :: t))))) 0 (by decide) dX11_text_125 rfl (by decide) (by rfl) ?_
    refine r_astore [(4, .ref q4), (3, .ref q3), (2, .ref q2), (1, .ref q1), (0, .ref a)] dX11_text_126 (by decide) rfl ?_
    obtain ⟨t0, e0⟩ : ∃ t0 : va_W, t0 = ((q4, qA g 7 4 (va_up (va_up (va_up (va_up (fun _ => none) 0 (some (gK g 43))) 1 (some (gK g 44))) 2 (some (gK g 45))) 3 (some (gK g 46)))) :: ((q3, qA g 7 5 (va_up (va_up (va_up (va_up (va_up (fun _ => none) 0 (some (gK g 38))) 1 (some (gK g 39))) 2 (some (gK g 40))) 3 (some (gK g 41))) 4 (some (gK g 42)))) :: ((q2, qA g 7 6 (va_up (va_up (va_up (va_up (va_up (va_up (fun _ => none) 0 (some (gK g 32))) 1 (some (gK g 33))) 2 (some (gK g 34))) 3 (some (gK g 35))) 4 (some (gK g 36))) 5 (some (gK g 37)))) :: ((q1, qA g 7 6 (va_up (va_up (va_up (va_up (va_up (va_up (fun _ => none) 0 (some (gK g iE))) 1 (some (gK g 27))) 2 (some (gK g 28))) 3 (some (gK g 29))) 4 (some (gK g 30))) 5 (some (gK g 31)))) :: t)))) := ⟨_, rfl⟩
    rw [← e0]
    have m0 : (q4, qA g 7 4 (va_up (va_up (va_up (va_up (fun _ => none) 0 (some (gK g 43))) 1 (some (gK g 44))) 2 (some (gK g 45))) 3 (some (gK g 46)))) ∈ t0 := by rw [e0]; exact List.mem_cons_self
    have m1 : (q3, qA g 7 5 (va_up (va_up (va_up (va_up (va_up (fun _ => none) 0 (some (gK g 38))) 1 (some (gK g 39))) 2 (some (gK g 40))) 3 (some (gK g 41))) 4 (some (gK g 42)))) ∈ t0 := by rw [e0]; exact (List.mem_cons_of_mem _ List.mem_cons_self)
    have m2 : (q2, qA g 7 6 (va_up (va_up (va_up (va_up (va_up (va_up (fun _ => none) 0 (some (gK g 32))) 1 (some (gK g 33))) 2 (some (gK g 34))) 3 (some (gK g 35))) 4 (some (gK g 36))) 5 (some (gK g 37)))) ∈ t0 := by rw [e0]; exact (List.mem_cons_of_mem _ (List.mem_cons_of_mem _ List.mem_cons_self))
    have m3 : (q1, qA g 7 6 (va_up (va_up (va_up (va_up (va_up (va_up (fun _ => none) 0 (some (gK g iE))) 1 (some (gK g 27))) 2 (some (gK g 28))) 3 (some (gK g 29))) 4 (some (gK g 30))) 5 (some (gK g 31)))) ∈ t0 := by rw [e0]; exact (List.mem_cons_of_mem _ (List.mem_cons_of_mem _ (List.mem_cons_of_mem _ List.mem_cons_self)))
    have mt : ∀ p ∈ t, p ∈ t0 := fun p hp => by rw [e0]; exact (List.mem_cons_of_mem _ (List.mem_cons_of_mem _ (List.mem_cons_of_mem _ (List.mem_cons_of_mem _ hp))))
    have kids := tr_kids hk
    rcases kids with ⟨rfl, hb⟩ | rfl | rfl | rfl | ⟨rfl, hb⟩ | ⟨rfl, hb⟩ | ⟨hk1, x, rfl, hx⟩ | ⟨hk2, x, y, rfl, rfl, hx, hy⟩ | ⟨rfl, hb, hb2⟩ | ⟨rfl, hb⟩ | ⟨rfl, hb⟩ | ⟨rfl, hb⟩
    · have hoK : (a, .inr (11, [.int (0 : Int32), .int (nI n), .int (nI o), (tv k ta), (tv k tb)])) ∈ t0 := mt _ ho
      have hE : txt (k + 1) ((a, 0, n, o), ta, tb) = ((([] : List Int32) ++ kT 20) ++ dgL n) := rfl
      rw [hE]
      show R g mX11_text (k + 1 + 8) ((16 * 2 ^ k - 16) + (16 * 2 ^ k - 16) + 12) ((33000 * 2 ^ k - 33000) + (33000 * 2 ^ k - 33000) + 32979) 128 [(4, .ref q4), (3, .ref q3), (2, .ref q2), (1, .ref q1), (0, .ref a)] [] t0 _
      refine r_aload_n 4 dX11_text_128 rfl ?_
      refine r_getm (v := .int (0 : Int32)) (ci := 11) (fs := [.int (0 : Int32), .int (nI n), .int (nI o), (tv k ta), (tv k tb)]) dX11_text_129 fl_X11_7 hoK rfl ?_
      refine r_if_ne (tgt := 158) dX11_text_132 (by decide) (fun hc => absurd (by decide) hc) (fun _ => ?_)
      refine r_new (N := 4) (x := ((16 * 2 ^ k - 16) + (16 * 2 ^ k - 16) + 11)) (y := ((33000 * 2 ^ k - 33000) + (33000 * 2 ^ k - 33000) + 32975)) dX11_text_135 nl_X11_110 (fun q5 => ?_)
      refine r_dup dX11_text_138 rfl ?_
      refine k_I (x := ((16 * 2 ^ k - 16) + (16 * 2 ^ k - 16) + 10)) (y := ((33000 * 2 ^ k - 33000) + (33000 * 2 ^ k - 33000) + 32959)) (rest := [.ref q5]) dX11_text_139 ki_X11_112 (cj_sb) rfl rfl (Nat.le_of_ble_eq_true rfl) (by omega) (by decide) ?_
      rintro bv1 -
      show R g mX11_text (k + 1 + 8) ((16 * 2 ^ k - 16) + (16 * 2 ^ k - 16) + 10) ((33000 * 2 ^ k - 33000) + (33000 * 2 ^ k - 33000) + 32959) 142 [(4, .ref q4), (3, .ref q3), (2, .ref q2), (1, .ref q1), (0, .ref a)] [.ref q5] ((q5, .inr (13, [.ref bv1, .int (0 : Int32), .int (0 : Int32), .int (nI ([] : List Int32).length)])) :: ((bv1, yA g 16 (fun _ => 0)) :: t0)) _
      refine r_ldcE dX11_text_142 rfl ?_
      refine r_top (w := .ref (gK g 20)) (rfl) ?_
      have bn6 : (([] : List Int32) ++ kT 20).length ≤ 0 := lnA (L := ([] : List Int32)) (L2 := kT 20) (n := 0) (n2 := 0) (Nat.le_refl 0) (by decide)
      refine k_V (x := ((16 * 2 ^ k - 16) + (16 * 2 ^ k - 16) + 9)) (y := ((33000 * 2 ^ k - 33000) + (33000 * 2 ^ k - 33000) + 28957)) (rest := []) 0 dX11_text_144 kv_X11_113 (cj_apK (i := 20) (by decide) BL.nil (Nat.le_trans bn6 (by omega))) rfl rfl rfl rfl (Nat.le_of_ble_eq_true rfl) (by omega) (by decide) ?_
      rintro ⟨bv2, bm3, bf4⟩ bh5
      try dsimp only at bh5
      show R g mX11_text (k + 1 + 8) ((16 * 2 ^ k - 16) + (16 * 2 ^ k - 16) + 9) ((33000 * 2 ^ k - 33000) + (33000 * 2 ^ k - 33000) + 28957) 147 [(4, .ref q4), (3, .ref q3), (2, .ref q2), (1, .ref q1), (0, .ref a)] [.ref q5] ((q5, .inr (13, [.ref bv2, .int (0 : Int32), .int (0 : Int32), .int (nI (([] : List Int32) ++ kT 20).length)])) :: ((bv2, yA g bm3 bf4) :: t0)) _
      refine r_aload_n 4 dX11_text_147 rfl ?_
      refine r_getm (v := .int (nI n)) (ci := 11) (fs := [.int (0 : Int32), .int (nI n), .int (nI o), (tv k ta), (tv k tb)]) dX11_text_148 fl_X11_13 (List.mem_cons_of_mem _ (List.mem_cons_of_mem _ hoK)) rfl ?_
      have bn11 : ((([] : List Int32) ++ kT 20) ++ dgL n).length ≤ 6 := lnA (L := (([] : List Int32) ++ kT 20)) (L2 := dgL n) (n := 0) (n2 := 6) bn6 (dgL_6 hb)
      refine k_V (x := ((16 * 2 ^ k - 16) + (16 * 2 ^ k - 16) + 8)) (y := ((33000 * 2 ^ k - 33000) + (33000 * 2 ^ k - 33000) + 24955)) (rest := []) 0 dX11_text_151 kv_X11_117 (cj_apI (x9 := n) (by omega) bh5 (Nat.le_trans bn11 (by omega))) rfl rfl rfl rfl (Nat.le_of_ble_eq_true rfl) (by omega) (by decide) ?_
      rintro ⟨bv7, bm8, bf9⟩ bh10
      try dsimp only at bh10
      show R g mX11_text (k + 1 + 8) ((16 * 2 ^ k - 16) + (16 * 2 ^ k - 16) + 8) ((33000 * 2 ^ k - 33000) + (33000 * 2 ^ k - 33000) + 24955) 154 [(4, .ref q4), (3, .ref q3), (2, .ref q2), (1, .ref q1), (0, .ref a)] [.ref q5] ((q5, .inr (13, [.ref bv7, .int (0 : Int32), .int (0 : Int32), .int (nI ((([] : List Int32) ++ kT 20) ++ dgL n).length)])) :: ((bv7, yA g bm8 bf9) :: t0)) _
      refine k_V (x := ((16 * 2 ^ k - 16) + (16 * 2 ^ k - 16) + 6)) (y := ((33000 * 2 ^ k - 33000) + (33000 * 2 ^ k - 33000) + 20949)) (rest := []) 0 dX11_text_154 kv_X11_120 (cj_strB bh10) rfl rfl rfl rfl (Nat.le_of_ble_eq_true rfl) (by omega) (by decide) ?_
      rintro ⟨ts12, tb13, tf14⟩ th15
      try dsimp only at th15
      show R g mX11_text (k + 1 + 8) ((16 * 2 ^ k - 16) + (16 * 2 ^ k - 16) + 6) ((33000 * 2 ^ k - 33000) + (33000 * 2 ^ k - 33000) + 20949) 157 [(4, .ref q4), (3, .ref q3), (2, .ref q2), (1, .ref q1), (0, .ref a)] [.ref ts12] ((ts12, .inr (12, [.ref tb13, .int (0 : Int32), .int (0 : Int32), .int (0 : Int32)])) :: ((tb13, yA g ((([] : List Int32) ++ kT 20) ++ dgL n).length tf14) :: ((q5, .inr (13, [.ref bv7, .int (0 : Int32), .int (0 : Int32), .int (nI ((([] : List Int32) ++ kT 20) ++ dgL n).length)])) :: ((bv7, yA g bm8 bf9) :: t0)))) _
      rw [e0]
      refine r_seg (ws2 := ((ts12, .inr (12, [.ref tb13, .int (0 : Int32), .int (0 : Int32), .int (0 : Int32)])) :: ((tb13, yA g ((([] : List Int32) ++ kT 20) ++ dgL n).length tf14) :: t))) [[(ts12, .inr (12, [.ref tb13, .int (0 : Int32), .int (0 : Int32), .int (0 : Int32)]))], [(tb13, yA g ((([] : List Int32) ++ kT 20) ++ dgL n).length tf14)], [(q5, .inr (13, [.ref bv7, .int (0 : Int32), .int (0 : Int32), .int (nI ((([] : List Int32) ++ kT 20) ++ dgL n).length)]))], [(bv7, yA g bm8 bf9)], [(q4, qA g 7 4 (va_up (va_up (va_up (va_up (fun _ => none) 0 (some (gK g 43))) 1 (some (gK g 44))) 2 (some (gK g 45))) 3 (some (gK g 46))))], [(q3, qA g 7 5 (va_up (va_up (va_up (va_up (va_up (fun _ => none) 0 (some (gK g 38))) 1 (some (gK g 39))) 2 (some (gK g 40))) 3 (some (gK g 41))) 4 (some (gK g 42))))], [(q2, qA g 7 6 (va_up (va_up (va_up (va_up (va_up (va_up (fun _ => none) 0 (some (gK g 32))) 1 (some (gK g 33))) 2 (some (gK g 34))) 3 (some (gK g 35))) 4 (some (gK g 36))) 5 (some (gK g 37))))], [(q1, qA g 7 6 (va_up (va_up (va_up (va_up (va_up (va_up (fun _ => none) 0 (some (gK g iE))) 1 (some (gK g 27))) 2 (some (gK g 28))) 3 (some (gK g 29))) 4 (some (gK g 30))) 5 (some (gK g 31))))], t] [0, 1, 8] rfl rfl rfl ?_
      refine r_aret dX11_text_157 rfl rfl (Or.inr ⟨_, rfl⟩) ?_
      exact Dq.mk (Sum.inr (ts12, tb13, tf14)) rfl rfl th15
    · have hoK : (a, .inr (11, [.int (1 : Int32), .int (nI n), .int (nI o), (tv k ta), (tv k tb)])) ∈ t0 := mt _ ho
      have hE : txt (k + 1) ((a, 1, n, o), ta, tb) = kT 27 := rfl
      rw [hE]
      show R g mX11_text (k + 1 + 8) ((16 * 2 ^ k - 16) + (16 * 2 ^ k - 16) + 12) ((33000 * 2 ^ k - 33000) + (33000 * 2 ^ k - 33000) + 32979) 128 [(4, .ref q4), (3, .ref q3), (2, .ref q2), (1, .ref q1), (0, .ref a)] [] t0 _
      refine r_aload_n 4 dX11_text_128 rfl ?_
      refine r_getm (v := .int (1 : Int32)) (ci := 11) (fs := [.int (1 : Int32), .int (nI n), .int (nI o), (tv k ta), (tv k tb)]) dX11_text_129 fl_X11_7 hoK rfl ?_
      refine r_if_ne (tgt := 158) dX11_text_132 (by decide) (fun _ => ?_) (fun hc => absurd hc (by decide))
      refine r_aload_n 4 dX11_text_158 rfl ?_
      refine r_getm (v := .int (1 : Int32)) (ci := 11) (fs := [.int (1 : Int32), .int (nI n), .int (nI o), (tv k ta), (tv k tb)]) dX11_text_159 fl_X11_7 hoK rfl ?_
      refine r_iconst (v := (4 : Int32)) dX11_text_162 (by decide) ?_
      refine r_icmp_ge (tgt := 173) dX11_text_163 (by decide) (fun hc => absurd hc (by decide)) (fun _ => ?_)
      refine r_aload_n 3 dX11_text_166 rfl ?_
      refine r_aload_n 4 dX11_text_167 rfl ?_
      refine r_getm (v := .int (1 : Int32)) (ci := 11) (fs := [.int (1 : Int32), .int (nI n), .int (nI o), (tv k ta), (tv k tb)]) dX11_text_168 fl_X11_7 hoK rfl ?_
      refine r_aaldm (t := 7) (n := 6) (f := (va_up (va_up (va_up (va_up (va_up (va_up (fun _ => none) 0 (some (gK g iE))) 1 (some (gK g 27))) 2 (some (gK g 28))) 3 (some (gK g 29))) 4 (some (gK g 30))) 5 (some (gK g 31)))) (v := .ref (gK g 27)) dX11_text_171 rfl rfl m3 (by decide) (by rfl) ?_
      rw [e0]
      refine r_seg (ws2 := t) [[(q4, qA g 7 4 (va_up (va_up (va_up (va_up (fun _ => none) 0 (some (gK g 43))) 1 (some (gK g 44))) 2 (some (gK g 45))) 3 (some (gK g 46))))], [(q3, qA g 7 5 (va_up (va_up (va_up (va_up (va_up (fun _ => none) 0 (some (gK g 38))) 1 (some (gK g 39))) 2 (some (gK g 40))) 3 (some (gK g 41))) 4 (some (gK g 42))))], [(q2, qA g 7 6 (va_up (va_up (va_up (va_up (va_up (va_up (fun _ => none) 0 (some (gK g 32))) 1 (some (gK g 33))) 2 (some (gK g 34))) 3 (some (gK g 35))) 4 (some (gK g 36))) 5 (some (gK g 37))))], [(q1, qA g 7 6 (va_up (va_up (va_up (va_up (va_up (va_up (fun _ => none) 0 (some (gK g iE))) 1 (some (gK g 27))) 2 (some (gK g 28))) 3 (some (gK g 29))) 4 (some (gK g 30))) 5 (some (gK g 31))))], t] [4] rfl rfl rfl ?_
      refine r_aret dX11_text_172 rfl rfl (Or.inr ⟨_, rfl⟩) ?_
      exact Dq.mk (Sum.inl 27) rfl rfl ⟨by decide, rfl⟩
    · have hoK : (a, .inr (11, [.int (2 : Int32), .int (nI n), .int (nI o), (tv k ta), (tv k tb)])) ∈ t0 := mt _ ho
      have hE : txt (k + 1) ((a, 2, n, o), ta, tb) = kT 28 := rfl
      rw [hE]
      show R g mX11_text (k + 1 + 8) ((16 * 2 ^ k - 16) + (16 * 2 ^ k - 16) + 12) ((33000 * 2 ^ k - 33000) + (33000 * 2 ^ k - 33000) + 32979) 128 [(4, .ref q4), (3, .ref q3), (2, .ref q2), (1, .ref q1), (0, .ref a)] [] t0 _
      refine r_aload_n 4 dX11_text_128 rfl ?_
      refine r_getm (v := .int (2 : Int32)) (ci := 11) (fs := [.int (2 : Int32), .int (nI n), .int (nI o), (tv k ta), (tv k tb)]) dX11_text_129 fl_X11_7 hoK rfl ?_
      refine r_if_ne (tgt := 158) dX11_text_132 (by decide) (fun _ => ?_) (fun hc => absurd hc (by decide))
      refine r_aload_n 4 dX11_text_158 rfl ?_
      refine r_getm (v := .int (2 : Int32)) (ci := 11) (fs := [.int (2 : Int32), .int (nI n), .int (nI o), (tv k ta), (tv k tb)]) dX11_text_159 fl_X11_7 hoK rfl ?_
      refine r_iconst (v := (4 : Int32)) dX11_text_162 (by decide) ?_
      refine r_icmp_ge (tgt := 173) dX11_text_163 (by decide) (fun hc => absurd hc (by decide)) (fun _ => ?_)
      refine r_aload_n 3 dX11_text_166 rfl ?_
      refine r_aload_n 4 dX11_text_167 rfl ?_
      refine r_getm (v := .int (2 : Int32)) (ci := 11) (fs := [.int (2 : Int32), .int (nI n), .int (nI o), (tv k ta), (tv k tb)]) dX11_text_168 fl_X11_7 hoK rfl ?_
      refine r_aaldm (t := 7) (n := 6) (f := (va_up (va_up (va_up (va_up (va_up (va_up (fun _ => none) 0 (some (gK g iE))) 1 (some (gK g 27))) 2 (some (gK g 28))) 3 (some (gK g 29))) 4 (some (gK g 30))) 5 (some (gK g 31)))) (v := .ref (gK g 28)) dX11_text_171 rfl rfl m3 (by decide) (by rfl) ?_
      rw [e0]
      refine r_seg (ws2 := t) [[(q4, qA g 7 4 (va_up (va_up (va_up (va_up (fun _ => none) 0 (some (gK g 43))) 1 (some (gK g 44))) 2 (some (gK g 45))) 3 (some (gK g 46))))], [(q3, qA g 7 5 (va_up (va_up (va_up (va_up (va_up (fun _ => none) 0 (some (gK g 38))) 1 (some (gK g 39))) 2 (some (gK g 40))) 3 (some (gK g 41))) 4 (some (gK g 42))))], [(q2, qA g 7 6 (va_up (va_up (va_up (va_up (va_up (va_up (fun _ => none) 0 (some (gK g 32))) 1 (some (gK g 33))) 2 (some (gK g 34))) 3 (some (gK g 35))) 4 (some (gK g 36))) 5 (some (gK g 37))))], [(q1, qA g 7 6 (va_up (va_up (va_up (va_up (va_up (va_up (fun _ => none) 0 (some (gK g iE))) 1 (some (gK g 27))) 2 (some (gK g 28))) 3 (some (gK g 29))) 4 (some (gK g 30))) 5 (some (gK g 31))))], t] [4] rfl rfl rfl ?_
      refine r_aret dX11_text_172 rfl rfl (Or.inr ⟨_, rfl⟩) ?_
      exact Dq.mk (Sum.inl 28) rfl rfl ⟨by decide, rfl⟩
    · have hoK : (a, .inr (11, [.int (3 : Int32), .int (nI n), .int (nI o), (tv k ta), (tv k tb)])) ∈ t0 := mt _ ho
      have hE : txt (k + 1) ((a, 3, n, o), ta, tb) = kT 29 := rfl
      rw [hE]
      show R g mX11_text (k + 1 + 8) ((16 * 2 ^ k - 16) + (16 * 2 ^ k - 16) + 12) ((33000 * 2 ^ k - 33000) + (33000 * 2 ^ k - 33000) + 32979) 128 [(4, .ref q4), (3, .ref q3), (2, .ref q2), (1, .ref q1), (0, .ref a)] [] t0 _
      refine r_aload_n 4 dX11_text_128 rfl ?_
      refine r_getm (v := .int (3 : Int32)) (ci := 11) (fs := [.int (3 : Int32), .int (nI n), .int (nI o), (tv k ta), (tv k tb)]) dX11_text_129 fl_X11_7 hoK rfl ?_
      refine r_if_ne (tgt := 158) dX11_text_132 (by decide) (fun _ => ?_) (fun hc => absurd hc (by decide))
      refine r_aload_n 4 dX11_text_158 rfl ?_
      refine r_getm (v := .int (3 : Int32)) (ci := 11) (fs := [.int (3 : Int32), .int (nI n), .int (nI o), (tv k ta), (tv k tb)]) dX11_text_159 fl_X11_7 hoK rfl ?_
      refine r_iconst (v := (4 : Int32)) dX11_text_162 (by decide) ?_
      refine r_icmp_ge (tgt := 173) dX11_text_163 (by decide) (fun hc => absurd hc (by decide)) (fun _ => ?_)
      refine r_aload_n 3 dX11_text_166 rfl ?_
      refine r_aload_n 4 dX11_text_167 rfl ?_
      refine r_getm (v := .int (3 : Int32)) (ci := 11) (fs := [.int (3 : Int32), .int (nI n), .int (nI o), (tv k ta), (tv k tb)]) dX11_text_168 fl_X11_7 hoK rfl ?_
      refine r_aaldm (t := 7) (n := 6) (f := (va_up (va_up (va_up (va_up (va_up (va_up (fun _ => none) 0 (some (gK g iE))) 1 (some (gK g 27))) 2 (some (gK g 28))) 3 (some (gK g 29))) 4 (some (gK g 30))) 5 (some (gK g 31)))) (v := .ref (gK g 29)) dX11_text_171 rfl rfl m3 (by decide) (by rfl) ?_
      rw [e0]
      refine r_seg (ws2 := t) [[(q4, qA g 7 4 (va_up (va_up (va_up (va_up (fun _ => none) 0 (some (gK g 43))) 1 (some (gK g 44))) 2 (some (gK g 45))) 3 (some (gK g 46))))], [(q3, qA g 7 5 (va_up (va_up (va_up (va_up (va_up (fun _ => none) 0 (some (gK g 38))) 1 (some (gK g 39))) 2 (some (gK g 40))) 3 (some (gK g 41))) 4 (some (gK g 42))))], [(q2, qA g 7 6 (va_up (va_up (va_up (va_up (va_up (va_up (fun _ => none) 0 (some (gK g 32))) 1 (some (gK g 33))) 2 (some (gK g 34))) 3 (some (gK g 35))) 4 (some (gK g 36))) 5 (some (gK g 37))))], [(q1, qA g 7 6 (va_up (va_up (va_up (va_up (va_up (va_up (fun _ => none) 0 (some (gK g iE))) 1 (some (gK g 27))) 2 (some (gK g 28))) 3 (some (gK g 29))) 4 (some (gK g 30))) 5 (some (gK g 31))))], t] [4] rfl rfl rfl ?_
      refine r_aret dX11_text_172 rfl rfl (Or.inr ⟨_, rfl⟩) ?_
      exact Dq.mk (Sum.inl 29) rfl rfl ⟨by decide, rfl⟩
    · have hoK : (a, .inr (11, [.int (4 : Int32), .int (nI n), .int (nI o), (tv k ta), (tv k tb)])) ∈ t0 := mt _ ho
      have hE : txt (k + 1) ((a, 4, n, o), ta, tb) = (((([] : List Int32) ++ kT 30) ++ dgL n) ++ kT 47) := rfl
      rw [hE]
      show R g mX11_text (k + 1 + 8) ((16 * 2 ^ k - 16) + (16 * 2 ^ k - 16) + 12) ((33000 * 2 ^ k - 33000) + (33000 * 2 ^ k - 33000) + 32979) 128 [(4, .ref q4), (3, .ref q3), (2, .ref q2), (1, .ref q1), (0, .ref a)] [] t0 _
      refine r_aload_n 4 dX11_text_128 rfl ?_
      refine r_getm (v := .int (4 : Int32)) (ci := 11) (fs := [.int (4 : Int32), .int (nI n), .int (nI o), (tv k ta), (tv k tb)]) dX11_text_129 fl_X11_7 hoK rfl ?_
      refine r_if_ne (tgt := 158) dX11_text_132 (by decide) (fun _ => ?_) (fun hc => absurd hc (by decide))
      refine r_aload_n 4 dX11_text_158 rfl ?_
      refine r_getm (v := .int (4 : Int32)) (ci := 11) (fs := [.int (4 : Int32), .int (nI n), .int (nI o), (tv k ta), (tv k tb)]) dX11_text_159 fl_X11_7 hoK rfl ?_
      refine r_iconst (v := (4 : Int32)) dX11_text_162 (by decide) ?_
      refine r_icmp_ge (tgt := 173) dX11_text_163 (by decide) (fun _ => ?_) (fun hc => absurd (by decide) hc)
      refine r_aload_n 4 dX11_text_173 rfl ?_
      refine r_getm (v := .int (4 : Int32)) (ci := 11) (fs := [.int (4 : Int32), .int (nI n), .int (nI o), (tv k ta), (tv k tb)]) dX11_text_174 fl_X11_7 hoK rfl ?_
      refine r_bipush (v := (6 : Int32)) dX11_text_177 (by decide) ?_
      refine r_icmp_ge (tgt := 214) dX11_text_179 (by decide) (fun hc => absurd hc (by decide)) (fun _ => ?_)
      refine r_new (N := 4) (x := ((16 * 2 ^ k - 16) + (16 * 2 ^ k - 16) + 11)) (y := ((33000 * 2 ^ k - 33000) + (33000 * 2 ^ k - 33000) + 32975)) dX11_text_182 nl_X11_110 (fun q6 => ?_)
      refine r_dup dX11_text_185 rfl ?_
      refine k_I (x := ((16 * 2 ^ k - 16) + (16 * 2 ^ k - 16) + 10)) (y := ((33000 * 2 ^ k - 33000) + (33000 * 2 ^ k - 33000) + 32959)) (rest := [.ref q6]) dX11_text_186 ki_X11_112 (cj_sb) rfl rfl (Nat.le_of_ble_eq_true rfl) (by omega) (by decide) ?_
      rintro bv16 -
      show R g mX11_text (k + 1 + 8) ((16 * 2 ^ k - 16) + (16 * 2 ^ k - 16) + 10) ((33000 * 2 ^ k - 33000) + (33000 * 2 ^ k - 33000) + 32959) 189 [(4, .ref q4), (3, .ref q3), (2, .ref q2), (1, .ref q1), (0, .ref a)] [.ref q6] ((q6, .inr (13, [.ref bv16, .int (0 : Int32), .int (0 : Int32), .int (nI ([] : List Int32).length)])) :: ((bv16, yA g 16 (fun _ => 0)) :: t0)) _
      refine r_aload_n 3 dX11_text_189 rfl ?_
      refine r_aload_n 4 dX11_text_190 rfl ?_
      refine r_getm (v := .int (4 : Int32)) (ci := 11) (fs := [.int (4 : Int32), .int (nI n), .int (nI o), (tv k ta), (tv k tb)]) dX11_text_191 fl_X11_7 (List.mem_cons_of_mem _ (List.mem_cons_of_mem _ hoK)) rfl ?_
      refine r_aaldm (t := 7) (n := 6) (f := (va_up (va_up (va_up (va_up (va_up (va_up (fun _ => none) 0 (some (gK g iE))) 1 (some (gK g 27))) 2 (some (gK g 28))) 3 (some (gK g 29))) 4 (some (gK g 30))) 5 (some (gK g 31)))) (v := .ref (gK g 30)) dX11_text_194 rfl rfl (List.mem_cons_of_mem _ (List.mem_cons_of_mem _ m3)) (by decide) (by rfl) ?_
      have bn21 : (([] : List Int32) ++ kT 30).length ≤ 11 := lnA (L := ([] : List Int32)) (L2 := kT 30) (n := 0) (n2 := 11) (Nat.le_refl 0) (by decide)
      refine k_V (x := ((16 * 2 ^ k - 16) + (16 * 2 ^ k - 16) + 9)) (y := ((33000 * 2 ^ k - 33000) + (33000 * 2 ^ k - 33000) + 28957)) (rest := []) 0 dX11_text_195 kv_X11_113 (cj_apK (i := 30) (by decide) BL.nil (Nat.le_trans bn21 (by omega))) rfl rfl rfl rfl (Nat.le_of_ble_eq_true rfl) (by omega) (by decide) ?_
      rintro ⟨bv17, bm18, bf19⟩ bh20
      try dsimp only at bh20
      show R g mX11_text (k + 1 + 8) ((16 * 2 ^ k - 16) + (16 * 2 ^ k - 16) + 9) ((33000 * 2 ^ k - 33000) + (33000 * 2 ^ k - 33000) + 28957) 198 [(4, .ref q4), (3, .ref q3), (2, .ref q2), (1, .ref q1), (0, .ref a)] [.ref q6] ((q6, .inr (13, [.ref bv17, .int (0 : Int32), .int (0 : Int32), .int (nI (([] : List Int32) ++ kT 30).length)])) :: ((bv17, yA g bm18 bf19) :: t0)) _
      refine r_aload_n 4 dX11_text_198 rfl ?_
      refine r_getm (v := .int (nI n)) (ci := 11) (fs := [.int (4 : Int32), .int (nI n), .int (nI o), (tv k ta), (tv k tb)]) dX11_text_199 fl_X11_13 (List.mem_cons_of_mem _ (List.mem_cons_of_mem _ hoK)) rfl ?_
      have bn26 : ((([] : List Int32) ++ kT 30) ++ dgL n).length ≤ 12 := lnA (L := (([] : List Int32) ++ kT 30)) (L2 := dgL n) (n := 11) (n2 := 1) bn21 (dgL_t1 (v := n) (by omega))
      refine k_V (x := ((16 * 2 ^ k - 16) + (16 * 2 ^ k - 16) + 8)) (y := ((33000 * 2 ^ k - 33000) + (33000 * 2 ^ k - 33000) + 24955)) (rest := []) 0 dX11_text_202 kv_X11_117 (cj_apI (x9 := n) (by omega) bh20 (Nat.le_trans bn26 (by omega))) rfl rfl rfl rfl (Nat.le_of_ble_eq_true rfl) (by omega) (by decide) ?_
      rintro ⟨bv22, bm23, bf24⟩ bh25
      try dsimp only at bh25
      show R g mX11_text (k + 1 + 8) ((16 * 2 ^ k - 16) + (16 * 2 ^ k - 16) + 8) ((33000 * 2 ^ k - 33000) + (33000 * 2 ^ k - 33000) + 24955) 205 [(4, .ref q4), (3, .ref q3), (2, .ref q2), (1, .ref q1), (0, .ref a)] [.ref q6] ((q6, .inr (13, [.ref bv22, .int (0 : Int32), .int (0 : Int32), .int (nI ((([] : List Int32) ++ kT 30) ++ dgL n).length)])) :: ((bv22, yA g bm23 bf24) :: t0)) _
      refine r_ldcS (i := 47) dX11_text_205 rfl ?_
      have bn31 : (((([] : List Int32) ++ kT 30) ++ dgL n) ++ kT 47).length ≤ 13 := lnA (L := ((([] : List Int32) ++ kT 30) ++ dgL n)) (L2 := kT 47) (n := 12) (n2 := 1) bn26 (by decide)
      refine k_V (x := ((16 * 2 ^ k - 16) + (16 * 2 ^ k - 16) + 7)) (y := ((33000 * 2 ^ k - 33000) + (33000 * 2 ^ k - 33000) + 20953)) (rest := []) 0 dX11_text_207 kv_X11_113 (cj_apK (i := 47) (by decide) bh25 (Nat.le_trans bn31 (by omega))) rfl rfl rfl rfl (Nat.le_of_ble_eq_true rfl) (by omega) (by decide) ?_
      rintro ⟨bv27, bm28, bf29⟩ bh30
      try dsimp only at bh30
      show R g mX11_text (k + 1 + 8) ((16 * 2 ^ k - 16) + (16 * 2 ^ k - 16) + 7) ((33000 * 2 ^ k - 33000) + (33000 * 2 ^ k - 33000) + 20953) 210 [(4, .ref q4), (3, .ref q3), (2, .ref q2), (1, .ref q1), (0, .ref a)] [.ref q6] ((q6, .inr (13, [.ref bv27, .int (0 : Int32), .int (0 : Int32), .int (nI (((([] : List Int32) ++ kT 30) ++ dgL n) ++ kT 47).length)])) :: ((bv27, yA g bm28 bf29) :: t0)) _
      refine k_V (x := ((16 * 2 ^ k - 16) + (16 * 2 ^ k - 16) + 5)) (y := ((33000 * 2 ^ k - 33000) + (33000 * 2 ^ k - 33000) + 16947)) (rest := []) 0 dX11_text_210 kv_X11_120 (cj_strB bh30) rfl rfl rfl rfl (Nat.le_of_ble_eq_true rfl) (by omega) (by decide) ?_
      rintro ⟨ts32, tb33, tf34⟩ th35
      try dsimp only at th35
      show R g mX11_text (k + 1 + 8) ((16 * 2 ^ k - 16) + (16 * 2 ^ k - 16) + 5) ((33000 * 2 ^ k - 33000) + (33000 * 2 ^ k - 33000) + 16947) 213 [(4, .ref q4), (3, .ref q3), (2, .ref q2), (1, .ref q1), (0, .ref a)] [.ref ts32] ((ts32, .inr (12, [.ref tb33, .int (0 : Int32), .int (0 : Int32), .int (0 : Int32)])) :: ((tb33, yA g (((([] : List Int32) ++ kT 30) ++ dgL n) ++ kT 47).length tf34) :: ((q6, .inr (13, [.ref bv27, .int (0 : Int32), .int (0 : Int32), .int (nI (((([] : List Int32) ++ kT 30) ++ dgL n) ++ kT 47).length)])) :: ((bv27, yA g bm28 bf29) :: t0)))) _
      rw [e0]
      refine r_seg (ws2 := ((ts32, .inr (12, [.ref tb33, .int (0 : Int32), .int (0 : Int32), .int (0 : Int32)])) :: ((tb33, yA g (((([] : List Int32) ++ kT 30) ++ dgL n) ++ kT 47).length tf34) :: t))) [[(ts32, .inr (12, [.ref tb33, .int (0 : Int32), .int (0 : Int32), .int (0 : Int32)]))], [(tb33, yA g (((([] : List Int32) ++ kT 30) ++ dgL n) ++ kT 47).length tf34)], [(q6, .inr (13, [.ref bv27, .int (0 : Int32), .int (0 : Int32), .int (nI (((([] : List Int32) ++ kT 30) ++ dgL n) ++ kT 47).length)]))], [(bv27, yA g bm28 bf29)], [(q4, qA g 7 4 (va_up (va_up (va_up (va_up (fun _ => none) 0 (some (gK g 43))) 1 (some (gK g 44))) 2 (some (gK g 45))) 3 (some (gK g 46))))], [(q3, qA g 7 5 (va_up (va_up (va_up (va_up (va_up (fun _ => none) 0 (some (gK g 38))) 1 (some (gK g 39))) 2 (some (gK g 40))) 3 (some (gK g 41))) 4 (some (gK g 42))))], [(q2, qA g 7 6 (va_up (va_up (va_up (va_up (va_up (va_up (fun _ => none) 0 (some (gK g 32))) 1 (some (gK g 33))) 2 (some (gK g 34))) 3 (some (gK g 35))) 4 (some (gK g 36))) 5 (some (gK g 37))))], [(q1, qA g 7 6 (va_up (va_up (va_up (va_up (va_up (va_up (fun _ => none) 0 (some (gK g iE))) 1 (some (gK g 27))) 2 (some (gK g 28))) 3 (some (gK g 29))) 4 (some (gK g 30))) 5 (some (gK g 31))))], t] [0, 1, 8] rfl rfl rfl ?_
      refine r_aret dX11_text_213 rfl rfl (Or.inr ⟨_, rfl⟩) ?_
      exact Dq.mk (Sum.inr (ts32, tb33, tf34)) rfl rfl th35
    · have hoK : (a, .inr (11, [.int (5 : Int32), .int (nI n), .int (nI o), (tv k ta), (tv k tb)])) ∈ t0 := mt _ ho
      have hE : txt (k + 1) ((a, 5, n, o), ta, tb) = (((([] : List Int32) ++ kT 31) ++ dgL n) ++ kT 47) := rfl
      rw [hE]
      show R g mX11_text (k + 1 + 8) ((16 * 2 ^ k - 16) + (16 * 2 ^ k - 16) + 12) ((33000 * 2 ^ k - 33000) + (33000 * 2 ^ k - 33000) + 32979) 128 [(4, .ref q4), (3, .ref q3), (2, .ref q2), (1, .ref q1), (0, .ref a)] [] t0 _
      refine r_aload_n 4 dX11_text_128 rfl ?_
      refine r_getm (v := .int (5 : Int32)) (ci := 11) (fs := [.int (5 : Int32), .int (nI n), .int (nI o), (tv k ta), (tv k tb)]) dX11_text_129 fl_X11_7 hoK rfl ?_
      refine r_if_ne (tgt := 158) dX11_text_132 (by decide) (fun _ => ?_) (fun hc => absurd hc (by decide))
      refine r_aload_n 4 dX11_text_158 rfl ?_
      refine r_getm (v := .int (5 : Int32)) (ci := 11) (fs := [.int (5 : Int32), .int (nI n), .int (nI o), (tv k ta), (tv k tb)]) dX11_text_159 fl_X11_7 hoK rfl ?_
      refine r_iconst (v := (4 : Int32)) dX11_text_162 (by decide) ?_
      refine r_icmp_ge (tgt := 173) dX11_text_163 (by decide) (fun _ => ?_) (fun hc => absurd (by decide) hc)
      refine r_aload_n 4 dX11_text_173 rfl ?_
      refine r_getm (v := .int (5 : Int32)) (ci := 11) (fs := [.int (5 : Int32), .int (nI n), .int (nI o), (tv k ta), (tv k tb)]) dX11_text_174 fl_X11_7 hoK rfl ?_
      refine r_bipush (v := (6 : Int32)) dX11_text_177 (by decide) ?_
      refine r_icmp_ge (tgt := 214) dX11_text_179 (by decide) (fun hc => absurd hc (by decide)) (fun _ => ?_)
      refine r_new (N := 4) (x := ((16 * 2 ^ k - 16) + (16 * 2 ^ k - 16) + 11)) (y := ((33000 * 2 ^ k - 33000) + (33000 * 2 ^ k - 33000) + 32975)) dX11_text_182 nl_X11_110 (fun q7 => ?_)
      refine r_dup dX11_text_185 rfl ?_
      refine k_I (x := ((16 * 2 ^ k - 16) + (16 * 2 ^ k - 16) + 10)) (y := ((33000 * 2 ^ k - 33000) + (33000 * 2 ^ k - 33000) + 32959)) (rest := [.ref q7]) dX11_text_186 ki_X11_112 (cj_sb) rfl rfl (Nat.le_of_ble_eq_true rfl) (by omega) (by decide) ?_
      rintro bv36 -
      show R g mX11_text (k + 1 + 8) ((16 * 2 ^ k - 16) + (16 * 2 ^ k - 16) + 10) ((33000 * 2 ^ k - 33000) + (33000 * 2 ^ k - 33000) + 32959) 189 [(4, .ref q4), (3, .ref q3), (2, .ref q2), (1, .ref q1), (0, .ref a)] [.ref q7] ((q7, .inr (13, [.ref bv36, .int (0 : Int32), .int (0 : Int32), .int (nI ([] : List Int32).length)])) :: ((bv36, yA g 16 (fun _ => 0)) :: t0)) _
      refine r_aload_n 3 dX11_text_189 rfl ?_
      refine r_aload_n 4 dX11_text_190 rfl ?_
      refine r_getm (v := .int (5 : Int32)) (ci := 11) (fs := [.int (5 : Int32), .int (nI n), .int (nI o), (tv k ta), (tv k tb)]) dX11_text_191 fl_X11_7 (List.mem_cons_of_mem _ (List.mem_cons_of_mem _ hoK)) rfl ?_
      refine r_aaldm (t := 7) (n := 6) (f := (va_up (va_up (va_up (va_up (va_up (va_up (fun _ => none) 0 (some (gK g iE))) 1 (some (gK g 27))) 2 (some (gK g 28))) 3 (some (gK g 29))) 4 (some (gK g 30))) 5 (some (gK g 31)))) (v := .ref (gK g 31)) dX11_text_194 rfl rfl (List.mem_cons_of_mem _ (List.mem_cons_of_mem _ m3)) (by decide) (by rfl) ?_
      have bn41 : (([] : List Int32) ++ kT 31).length ≤ 11 := lnA (L := ([] : List Int32)) (L2 := kT 31) (n := 0) (n2 := 11) (Nat.le_refl 0) (by decide)
      refine k_V (x := ((16 * 2 ^ k - 16) + (16 * 2 ^ k - 16) + 9)) (y := ((33000 * 2 ^ k - 33000) + (33000 * 2 ^ k - 33000) + 28957)) (rest := []) 0 dX11_text_195 kv_X11_113 (cj_apK (i := 31) (by decide) BL.nil (Nat.le_trans bn41 (by omega))) rfl rfl rfl rfl (Nat.le_of_ble_eq_true rfl) (by omega) (by decide) ?_
      rintro ⟨bv37, bm38, bf39⟩ bh40
      try dsimp only at bh40
      show R g mX11_text (k + 1 + 8) ((16 * 2 ^ k - 16) + (16 * 2 ^ k - 16) + 9) ((33000 * 2 ^ k - 33000) + (33000 * 2 ^ k - 33000) + 28957) 198 [(4, .ref q4), (3, .ref q3), (2, .ref q2), (1, .ref q1), (0, .ref a)] [.ref q7] ((q7, .inr (13, [.ref bv37, .int (0 : Int32), .int (0 : Int32), .int (nI (([] : List Int32) ++ kT 31).length)])) :: ((bv37, yA g bm38 bf39) :: t0)) _
      refine r_aload_n 4 dX11_text_198 rfl ?_
      refine r_getm (v := .int (nI n)) (ci := 11) (fs := [.int (5 : Int32), .int (nI n), .int (nI o), (tv k ta), (tv k tb)]) dX11_text_199 fl_X11_13 (List.mem_cons_of_mem _ (List.mem_cons_of_mem _ hoK)) rfl ?_
      have bn46 : ((([] : List Int32) ++ kT 31) ++ dgL n).length ≤ 12 := lnA (L := (([] : List Int32) ++ kT 31)) (L2 := dgL n) (n := 11) (n2 := 1) bn41 (dgL_t1 (v := n) (by omega))
      refine k_V (x := ((16 * 2 ^ k - 16) + (16 * 2 ^ k - 16) + 8)) (y := ((33000 * 2 ^ k - 33000) + (33000 * 2 ^ k - 33000) + 24955)) (rest := []) 0 dX11_text_202 kv_X11_117 (cj_apI (x9 := n) (by omega) bh40 (Nat.le_trans bn46 (by omega))) rfl rfl rfl rfl (Nat.le_of_ble_eq_true rfl) (by omega) (by decide) ?_
      rintro ⟨bv42, bm43, bf44⟩ bh45
      try dsimp only at bh45
      show R g mX11_text (k + 1 + 8) ((16 * 2 ^ k - 16) + (16 * 2 ^ k - 16) + 8) ((33000 * 2 ^ k - 33000) + (33000 * 2 ^ k - 33000) + 24955) 205 [(4, .ref q4), (3, .ref q3), (2, .ref q2), (1, .ref q1), (0, .ref a)] [.ref q7] ((q7, .inr (13, [.ref bv42, .int (0 : Int32), .int (0 : Int32), .int (nI ((([] : List Int32) ++ kT 31) ++ dgL n).length)])) :: ((bv42, yA g bm43 bf44) :: t0)) _
      refine r_ldcS (i := 47) dX11_text_205 rfl ?_
      have bn51 : (((([] : List Int32) ++ kT 31) ++ dgL n) ++ kT 47).length ≤ 13 := lnA (L := ((([] : List Int32) ++ kT 31) ++ dgL n)) (L2 := kT 47) (n := 12) (n2 := 1) bn46 (by decide)
      refine k_V (x := ((16 * 2 ^ k - 16) + (16 * 2 ^ k - 16) + 7)) (y := ((33000 * 2 ^ k - 33000) + (33000 * 2 ^ k - 33000) + 20953)) (rest := []) 0 dX11_text_207 kv_X11_113 (cj_apK (i := 47) (by decide) bh45 (Nat.le_trans bn51 (by omega))) rfl rfl rfl rfl (Nat.le_of_ble_eq_true rfl) (by omega) (by decide) ?_
      rintro ⟨bv47, bm48, bf49⟩ bh50
      try dsimp only at bh50
      show R g mX11_text (k + 1 + 8) ((16 * 2 ^ k - 16) + (16 * 2 ^ k - 16) + 7) ((33000 * 2 ^ k - 33000) + (33000 * 2 ^ k - 33000) + 20953) 210 [(4, .ref q4), (3, .ref q3), (2, .ref q2), (1, .ref q1), (0, .ref a)] [.ref q7] ((q7, .inr (13, [.ref bv47, .int (0 : Int32), .int (0 : Int32), .int (nI (((([] : List Int32) ++ kT 31) ++ dgL n) ++ kT 47).length)])) :: ((bv47, yA g bm48 bf49) :: t0)) _
      refine k_V (x := ((16 * 2 ^ k - 16) + (16 * 2 ^ k - 16) + 5)) (y := ((33000 * 2 ^ k - 33000) + (33000 * 2 ^ k - 33000) + 16947)) (rest := []) 0 dX11_text_210 kv_X11_120 (cj_strB bh50) rfl rfl rfl rfl (Nat.le_of_ble_eq_true rfl) (by omega) (by decide) ?_
      rintro ⟨ts52, tb53, tf54⟩ th55
      try dsimp only at th55
      show R g mX11_text (k + 1 + 8) ((16 * 2 ^ k - 16) + (16 * 2 ^ k - 16) + 5) ((33000 * 2 ^ k - 33000) + (33000 * 2 ^ k - 33000) + 16947) 213 [(4, .ref q4), (3, .ref q3), (2, .ref q2), (1, .ref q1), (0, .ref a)] [.ref ts52] ((ts52, .inr (12, [.ref tb53, .int (0 : Int32), .int (0 : Int32), .int (0 : Int32)])) :: ((tb53, yA g (((([] : List Int32) ++ kT 31) ++ dgL n) ++ kT 47).length tf54) :: ((q7, .inr (13, [.ref bv47, .int (0 : Int32), .int (0 : Int32), .int (nI (((([] : List Int32) ++ kT 31) ++ dgL n) ++ kT 47).length)])) :: ((bv47, yA g bm48 bf49) :: t0)))) _
      rw [e0]
      refine r_seg (ws2 := ((ts52, .inr (12, [.ref tb53, .int (0 : Int32), .int (0 : Int32), .int (0 : Int32)])) :: ((tb53, yA g (((([] : List Int32) ++ kT 31) ++ dgL n) ++ kT 47).length tf54) :: t))) [[(ts52, .inr (12, [.ref tb53, .int (0 : Int32), .int (0 : Int32), .int (0 : Int32)]))], [(tb53, yA g (((([] : List Int32) ++ kT 31) ++ dgL n) ++ kT 47).length tf54)], [(q7, .inr (13, [.ref bv47, .int (0 : Int32), .int (0 : Int32), .int (nI (((([] : List Int32) ++ kT 31) ++ dgL n) ++ kT 47).length)]))], [(bv47, yA g bm48 bf49)], [(q4, qA g 7 4 (va_up (va_up (va_up (va_up (fun _ => none) 0 (some (gK g 43))) 1 (some (gK g 44))) 2 (some (gK g 45))) 3 (some (gK g 46))))], [(q3, qA g 7 5 (va_up (va_up (va_up (va_up (va_up (fun _ => none) 0 (some (gK g 38))) 1 (some (gK g 39))) 2 (some (gK g 40))) 3 (some (gK g 41))) 4 (some (gK g 42))))], [(q2, qA g 7 6 (va_up (va_up (va_up (va_up (va_up (va_up (fun _ => none) 0 (some (gK g 32))) 1 (some (gK g 33))) 2 (some (gK g 34))) 3 (some (gK g 35))) 4 (some (gK g 36))) 5 (some (gK g 37))))], [(q1, qA g 7 6 (va_up (va_up (va_up (va_up (va_up (va_up (fun _ => none) 0 (some (gK g iE))) 1 (some (gK g 27))) 2 (some (gK g 28))) 3 (some (gK g 29))) 4 (some (gK g 30))) 5 (some (gK g 31))))], t] [0, 1, 8] rfl rfl rfl ?_
      refine r_aret dX11_text_213 rfl rfl (Or.inr ⟨_, rfl⟩) ?_
      exact Dq.mk (Sum.inr (ts52, tb53, tf54)) rfl rfl th55
    · rcases hk1 with rfl | rfl
      · have hoK : (a, .inr (11, [.int (6 : Int32), .int (nI n), .int (nI o), .ref (tA k x), (tv k tb)])) ∈ t0 := mt _ ho
        have hE : txt (k + 1) ((a, 6, n, o), some x, tb) = (((([] : List Int32) ++ kT 48) ++ (txt k x)) ++ kT 49) := rfl
        rw [hE]
        show R g mX11_text (k + 1 + 8) ((16 * 2 ^ k - 16) + (16 * 2 ^ k - 16) + 12) ((33000 * 2 ^ k - 33000) + (33000 * 2 ^ k - 33000) + 32979) 128 [(4, .ref q4), (3, .ref q3), (2, .ref q2), (1, .ref q1), (0, .ref a)] [] t0 _
        refine r_aload_n 4 dX11_text_128 rfl ?_
        refine r_getm (v := .int (6 : Int32)) (ci := 11) (fs := [.int (6 : Int32), .int (nI n), .int (nI o), .ref (tA k x), (tv k tb)]) dX11_text_129 fl_X11_7 hoK rfl ?_
        refine r_if_ne (tgt := 158) dX11_text_132 (by decide) (fun _ => ?_) (fun hc => absurd hc (by decide))
        refine r_aload_n 4 dX11_text_158 rfl ?_
        refine r_getm (v := .int (6 : Int32)) (ci := 11) (fs := [.int (6 : Int32), .int (nI n), .int (nI o), .ref (tA k x), (tv k tb)]) dX11_text_159 fl_X11_7 hoK rfl ?_
        refine r_iconst (v := (4 : Int32)) dX11_text_162 (by decide) ?_
        refine r_icmp_ge (tgt := 173) dX11_text_163 (by decide) (fun _ => ?_) (fun hc => absurd (by decide) hc)
        refine r_aload_n 4 dX11_text_173 rfl ?_
        refine r_getm (v := .int (6 : Int32)) (ci := 11) (fs := [.int (6 : Int32), .int (nI n), .int (nI o), .ref (tA k x), (tv k tb)]) dX11_text_174 fl_X11_7 hoK rfl ?_
        refine r_bipush (v := (6 : Int32)) dX11_text_177 (by decide) ?_
        refine r_icmp_ge (tgt := 214) dX11_text_179 (by decide) (fun _ => ?_) (fun hc => absurd (by decide) hc)
        refine r_aload_n 4 dX11_text_214 rfl ?_
        refine r_getm (v := .int (6 : Int32)) (ci := 11) (fs := [.int (6 : Int32), .int (nI n), .int (nI o), .ref (tA k x), (tv k tb)]) dX11_text_215 fl_X11_7 hoK rfl ?_
        refine r_bipush (v := (6 : Int32)) dX11_text_218 (by decide) ?_
        refine r_icmp_ne (tgt := 254) dX11_text_220 (by decide) (fun hc => absurd (by decide) hc) (fun _ => ?_)
        refine r_new (N := 4) (x := ((16 * 2 ^ k - 16) + (16 * 2 ^ k - 16) + 11)) (y := ((33000 * 2 ^ k - 33000) + (33000 * 2 ^ k - 33000) + 32975)) dX11_text_223 nl_X11_110 (fun q8 => ?_)
        refine r_dup dX11_text_226 rfl ?_
        refine k_I (x := ((16 * 2 ^ k - 16) + (16 * 2 ^ k - 16) + 10)) (y := ((33000 * 2 ^ k - 33000) + (33000 * 2 ^ k - 33000) + 32959)) (rest := [.ref q8]) dX11_text_227 ki_X11_112 (cj_sb) rfl rfl (Nat.le_of_ble_eq_true rfl) (by omega) (by decide) ?_
        rintro bv56 -
        show R g mX11_text (k + 1 + 8) ((16 * 2 ^ k - 16) + (16 * 2 ^ k - 16) + 10) ((33000 * 2 ^ k - 33000) + (33000 * 2 ^ k - 33000) + 32959) 230 [(4, .ref q4), (3, .ref q3), (2, .ref q2), (1, .ref q1), (0, .ref a)] [.ref q8] ((q8, .inr (13, [.ref bv56, .int (0 : Int32), .int (0 : Int32), .int (nI ([] : List Int32).length)])) :: ((bv56, yA g 16 (fun _ => 0)) :: t0)) _
        refine r_ldcS (i := 48) dX11_text_230 rfl ?_
        have bn61 : (([] : List Int32) ++ kT 48).length ≤ 3 := lnA (L := ([] : List Int32)) (L2 := kT 48) (n := 0) (n2 := 3) (Nat.le_refl 0) (by decide)
        refine k_V (x := ((16 * 2 ^ k - 16) + (16 * 2 ^ k - 16) + 9)) (y := ((33000 * 2 ^ k - 33000) + (33000 * 2 ^ k - 33000) + 28957)) (rest := []) 0 dX11_text_232 kv_X11_113 (cj_apK (i := 48) (by decide) BL.nil (Nat.le_trans bn61 (by omega))) rfl rfl rfl rfl (Nat.le_of_ble_eq_true rfl) (by omega) (by decide) ?_
        rintro ⟨bv57, bm58, bf59⟩ bh60
        try dsimp only at bh60
        show R g mX11_text (k + 1 + 8) ((16 * 2 ^ k - 16) + (16 * 2 ^ k - 16) + 9) ((33000 * 2 ^ k - 33000) + (33000 * 2 ^ k - 33000) + 28957) 235 [(4, .ref q4), (3, .ref q3), (2, .ref q2), (1, .ref q1), (0, .ref a)] [.ref q8] ((q8, .inr (13, [.ref bv57, .int (0 : Int32), .int (0 : Int32), .int (nI (([] : List Int32) ++ kT 48).length)])) :: ((bv57, yA g bm58 bf59) :: t0)) _
        refine r_aload_n 4 dX11_text_235 rfl ?_
        refine r_getm (v := .ref (tA k x)) (ci := 11) (fs := [.int (6 : Int32), .int (nI n), .int (nI o), .ref (tA k x), (tv k tb)]) dX11_text_236 fl_X11_40 (List.mem_cons_of_mem _ (List.mem_cons_of_mem _ hoK)) rfl ?_
        obtain ⟨fszz62, hfzz62⟩ := TM.cell k x (hma x rfl)
        refine r_room (x2 := ((16 * 2 ^ k - 16) + 9) + (16 * 2 ^ k - 16)) (y2 := ((33000 * 2 ^ k - 33000) + 28957) + (33000 * 2 ^ k - 33000)) (by omega) (by omega) ?_
        refine k_Vm (x := ((16 * 2 ^ k - 16) + 9)) (y := ((33000 * 2 ^ k - 33000) + 28957)) (rest := [.ref q8]) dX11_text_239 kv_X11_128 (cl_text hn hne k x _ (by omega) (TM.mono (fun p hp => (List.mem_cons_of_mem _ (List.mem_cons_of_mem _ (mt p hp)))) k x (hma x rfl)) hx) rfl rfl (List.mem_cons_of_mem _ (List.mem_cons_of_mem _ (mt _ hfzz62))) rfl (Nat.le_of_ble_eq_true rfl) (by omega) (by decide) ?_
        rintro zz62 hz63
        refine r_seg (ws2 := ((q8, .inr (13, [.ref bv57, .int (0 : Int32), .int (0 : Int32), .int (nI (([] : List Int32) ++ kT 48).length)])) :: ((bv57, yA g bm58 bf59) :: ((sw g (txt k x).length zz62) ++ t0)))) [sw g (txt k x).length zz62, [(q8, .inr (13, [.ref bv57, .int (0 : Int32), .int (0 : Int32), .int (nI (([] : List Int32) ++ kT 48).length)]))], [(bv57, yA g bm58 bf59)], t0] [1, 2, 0, 3] rfl rfl rfl ?_
        have bn68 : ((([] : List Int32) ++ kT 48) ++ txt k x).length ≤ (3 + (12 * 2 ^ k - 7)) := lnA (L := (([] : List Int32) ++ kT 48)) (L2 := txt k x) (n := 3) (n2 := (12 * 2 ^ k - 7)) bn61 (txt_len (by omega) (by omega) k x hx)
        refine k_V (x := ((16 * 2 ^ k - 16) + 8)) (y := ((33000 * 2 ^ k - 33000) + 24955)) (rest := []) 0 dX11_text_242 kv_X11_113 (cj_apX (L2 := txt k x) (z := zz62) hz63 bh60 (Nat.le_trans bn68 (by omega))) rfl rfl rfl rfl (Nat.le_of_ble_eq_true rfl) (by omega) (by decide) ?_
        rintro ⟨bv64, bm65, bf66⟩ bh67
        try dsimp only at bh67
        show R g mX11_text (k + 1 + 8) ((16 * 2 ^ k - 16) + 8) ((33000 * 2 ^ k - 33000) + 24955) 245 [(4, .ref q4), (3, .ref q3), (2, .ref q2), (1, .ref q1), (0, .ref a)] [.ref q8] ((q8, .inr (13, [.ref bv64, .int (0 : Int32), .int (0 : Int32), .int (nI ((([] : List Int32) ++ kT 48) ++ txt k x).length)])) :: ((bv64, yA g bm65 bf66) :: ((sw g (txt k x).length zz62) ++ t0))) _
        refine r_seg (ws2 := ((q8, .inr (13, [.ref bv64, .int (0 : Int32), .int (0 : Int32), .int (nI ((([] : List Int32) ++ kT 48) ++ txt k x).length)])) :: ((bv64, yA g bm65 bf66) :: t0))) [[(q8, .inr (13, [.ref bv64, .int (0 : Int32), .int (0 : Int32), .int (nI ((([] : List Int32) ++ kT 48) ++ txt k x).length)]))], [(bv64, yA g bm65 bf66)], sw g (txt k x).length zz62, t0] [0, 1, 3] rfl rfl rfl ?_
        refine r_ldcS (i := 49) dX11_text_245 rfl ?_
        have bn73 : (((([] : List Int32) ++ kT 48) ++ txt k x) ++ kT 49).length ≤ ((3 + (12 * 2 ^ k - 7)) + 1) := lnA (L := ((([] : List Int32) ++ kT 48) ++ txt k x)) (L2 := kT 49) (n := (3 + (12 * 2 ^ k - 7))) (n2 := 1) bn68 (by decide)
        refine k_V (x := ((16 * 2 ^ k - 16) + 7)) (y := ((33000 * 2 ^ k - 33000) + 20953)) (rest := []) 0 dX11_text_247 kv_X11_113 (cj_apK (i := 49) (by decide) bh67 (Nat.le_trans bn73 (by omega))) rfl rfl rfl rfl (Nat.le_of_ble_eq_true rfl) (by omega) (by decide) ?_
        rintro ⟨bv69, bm70, bf71⟩ bh72
        try dsimp only at bh72
        show R g mX11_text (k + 1 + 8) ((16 * 2 ^ k - 16) + 7) ((33000 * 2 ^ k - 33000) + 20953) 250 [(4, .ref q4), (3, .ref q3), (2, .ref q2), (1, .ref q1), (0, .ref a)] [.ref q8] ((q8, .inr (13, [.ref bv69, .int (0 : Int32), .int (0 : Int32), .int (nI (((([] : List Int32) ++ kT 48) ++ txt k x) ++ kT 49).length)])) :: ((bv69, yA g bm70 bf71) :: t0)) _
        refine k_V (x := ((16 * 2 ^ k - 16) + 5)) (y := ((33000 * 2 ^ k - 33000) + 16947)) (rest := []) 0 dX11_text_250 kv_X11_120 (cj_strB bh72) rfl rfl rfl rfl (Nat.le_of_ble_eq_true rfl) (by omega) (by decide) ?_
        rintro ⟨ts74, tb75, tf76⟩ th77
        try dsimp only at th77
        show R g mX11_text (k + 1 + 8) ((16 * 2 ^ k - 16) + 5) ((33000 * 2 ^ k - 33000) + 16947) 253 [(4, .ref q4), (3, .ref q3), (2, .ref q2), (1, .ref q1), (0, .ref a)] [.ref ts74] ((ts74, .inr (12, [.ref tb75, .int (0 : Int32), .int (0 : Int32), .int (0 : Int32)])) :: ((tb75, yA g (((([] : List Int32) ++ kT 48) ++ txt k x) ++ kT 49).length tf76) :: ((q8, .inr (13, [.ref bv69, .int (0 : Int32), .int (0 : Int32), .int (nI (((([] : List Int32) ++ kT 48) ++ txt k x) ++ kT 49).length)])) :: ((bv69, yA g bm70 bf71) :: t0)))) _
        rw [e0]
        refine r_seg (ws2 := ((ts74, .inr (12, [.ref tb75, .int (0 : Int32), .int (0 : Int32), .int (0 : Int32)])) :: ((tb75, yA g (((([] : List Int32) ++ kT 48) ++ txt k x) ++ kT 49).length tf76) :: t))) [[(ts74, .inr (12, [.ref tb75, .int (0 : Int32), .int (0 : Int32), .int (0 : Int32)]))], [(tb75, yA g (((([] : List Int32) ++ kT 48) ++ txt k x) ++ kT 49).length tf76)], [(q8, .inr (13, [.ref bv69, .int (0 : Int32), .int (0 : Int32), .int (nI (((([] : List Int32) ++ kT 48) ++ txt k x) ++ kT 49).length)]))], [(bv69, yA g bm70 bf71)], [(q4, qA g 7 4 (va_up (va_up (va_up (va_up (fun _ => none) 0 (some (gK g 43))) 1 (some (gK g 44))) 2 (some (gK g 45))) 3 (some (gK g 46))))], [(q3, qA g 7 5 (va_up (va_up (va_up (va_up (va_up (fun _ => none) 0 (some (gK g 38))) 1 (some (gK g 39))) 2 (some (gK g 40))) 3 (some (gK g 41))) 4 (some (gK g 42))))], [(q2, qA g 7 6 (va_up (va_up (va_up (va_up (va_up (va_up (fun _ => none) 0 (some (gK g 32))) 1 (some (gK g 33))) 2 (some (gK g 34))) 3 (some (gK g 35))) 4 (some (gK g 36))) 5 (some (gK g 37))))], [(q1, qA g 7 6 (va_up (va_up (va_up (va_up (va_up (va_up (fun _ => none) 0 (some (gK g iE))) 1 (some (gK g 27))) 2 (some (gK g 28))) 3 (some (gK g 29))) 4 (some (gK g 30))) 5 (some (gK g 31))))], t] [0, 1, 8] rfl rfl rfl ?_
        refine r_aret dX11_text_253 rfl rfl (Or.inr ⟨_, rfl⟩) ?_
        exact Dq.mk (Sum.inr (ts74, tb75, tf76)) rfl rfl th77
      · have hoK : (a, .inr (11, [.int (29 : Int32), .int (nI n), .int (nI o), .ref (tA k x), (tv k tb)])) ∈ t0 := mt _ ho
        have hE : txt (k + 1) ((a, 29, n, o), some x, tb) = (((([] : List Int32) ++ kT 53) ++ (txt k x)) ++ kT 54) := rfl
        rw [hE]
        show R g mX11_text (k + 1 + 8) ((16 * 2 ^ k - 16) + (16 * 2 ^ k - 16) + 12) ((33000 * 2 ^ k - 33000) + (33000 * 2 ^ k - 33000) + 32979) 128 [(4, .ref q4), (3, .ref q3), (2, .ref q2), (1, .ref q1), (0, .ref a)] [] t0 _
        refine r_aload_n 4 dX11_text_128 rfl ?_
        refine r_getm (v := .int (29 : Int32)) (ci := 11) (fs := [.int (29 : Int32), .int (nI n), .int (nI o), .ref (tA k x), (tv k tb)]) dX11_text_129 fl_X11_7 hoK rfl ?_
        refine r_if_ne (tgt := 158) dX11_text_132 (by decide) (fun _ => ?_) (fun hc => absurd hc (by decide))
        refine r_aload_n 4 dX11_text_158 rfl ?_
        refine r_getm (v := .int (29 : Int32)) (ci := 11) (fs := [.int (29 : Int32), .int (nI n), .int (nI o), .ref (tA k x), (tv k tb)]) dX11_text_159 fl_X11_7 hoK rfl ?_
        refine r_iconst (v := (4 : Int32)) dX11_text_162 (by decide) ?_
        refine r_icmp_ge (tgt := 173) dX11_text_163 (by decide) (fun _ => ?_) (fun hc => absurd (by decide) hc)
        refine r_aload_n 4 dX11_text_173 rfl ?_
        refine r_getm (v := .int (29 : Int32)) (ci := 11) (fs := [.int (29 : Int32), .int (nI n), .int (nI o), .ref (tA k x), (tv k tb)]) dX11_text_174 fl_X11_7 hoK rfl ?_
        refine r_bipush (v := (6 : Int32)) dX11_text_177 (by decide) ?_
        refine r_icmp_ge (tgt := 214) dX11_text_179 (by decide) (fun _ => ?_) (fun hc => absurd (by decide) hc)
        refine r_aload_n 4 dX11_text_214 rfl ?_
        refine r_getm (v := .int (29 : Int32)) (ci := 11) (fs := [.int (29 : Int32), .int (nI n), .int (nI o), .ref (tA k x), (tv k tb)]) dX11_text_215 fl_X11_7 hoK rfl ?_
        refine r_bipush (v := (6 : Int32)) dX11_text_218 (by decide) ?_
        refine r_icmp_ne (tgt := 254) dX11_text_220 (by decide) (fun _ => ?_) (fun hc => absurd hc (by decide))
        refine r_aload_n 4 dX11_text_254 rfl ?_
        refine r_getm (v := .int (29 : Int32)) (ci := 11) (fs := [.int (29 : Int32), .int (nI n), .int (nI o), .ref (tA k x), (tv k tb)]) dX11_text_255 fl_X11_7 hoK rfl ?_
        refine r_bipush (v := (11 : Int32)) dX11_text_258 (by decide) ?_
        refine r_icmp_ge (tgt := 326) dX11_text_260 (by decide) (fun _ => ?_) (fun hc => absurd (by decide) hc)
        refine r_aload_n 4 dX11_text_326 rfl ?_
        refine r_getm (v := .int (29 : Int32)) (ci := 11) (fs := [.int (29 : Int32), .int (nI n), .int (nI o), .ref (tA k x), (tv k tb)]) dX11_text_327 fl_X11_7 hoK rfl ?_
        refine r_bipush (v := (13 : Int32)) dX11_text_330 (by decide) ?_
        refine r_icmp_ge (tgt := 388) dX11_text_332 (by decide) (fun _ => ?_) (fun hc => absurd (by decide) hc)
        refine r_aload_n 4 dX11_text_388 rfl ?_
        refine r_getm (v := .int (29 : Int32)) (ci := 11) (fs := [.int (29 : Int32), .int (nI n), .int (nI o), .ref (tA k x), (tv k tb)]) dX11_text_389 fl_X11_7 hoK rfl ?_
        refine r_bipush (v := (25 : Int32)) dX11_text_392 (by decide) ?_
        refine r_icmp_ge (tgt := 440) dX11_text_394 (by decide) (fun _ => ?_) (fun hc => absurd (by decide) hc)
        refine r_aload_n 4 dX11_text_440 rfl ?_
        refine r_getm (v := .int (29 : Int32)) (ci := 11) (fs := [.int (29 : Int32), .int (nI n), .int (nI o), .ref (tA k x), (tv k tb)]) dX11_text_441 fl_X11_7 hoK rfl ?_
        refine r_bipush (v := (25 : Int32)) dX11_text_444 (by decide) ?_
        refine r_icmp_ne (tgt := 491) dX11_text_446 (by decide) (fun _ => ?_) (fun hc => absurd hc (by decide))
        refine r_aload_n 4 dX11_text_491 rfl ?_
        refine r_getm (v := .int (29 : Int32)) (ci := 11) (fs := [.int (29 : Int32), .int (nI n), .int (nI o), .ref (tA k x), (tv k tb)]) dX11_text_492 fl_X11_7 hoK rfl ?_
        refine r_bipush (v := (29 : Int32)) dX11_text_495 (by decide) ?_
        refine r_icmp_ge (tgt := 536) dX11_text_497 (by decide) (fun _ => ?_) (fun hc => absurd (by decide) hc)
        refine r_aload_n 4 dX11_text_536 rfl ?_
        refine r_getm (v := .int (29 : Int32)) (ci := 11) (fs := [.int (29 : Int32), .int (nI n), .int (nI o), .ref (tA k x), (tv k tb)]) dX11_text_537 fl_X11_7 hoK rfl ?_
        refine r_bipush (v := (29 : Int32)) dX11_text_540 (by decide) ?_
        refine r_icmp_ne (tgt := 578) dX11_text_542 (by decide) (fun hc => absurd (by decide) hc) (fun _ => ?_)
        refine r_new (N := 4) (x := ((16 * 2 ^ k - 16) + (16 * 2 ^ k - 16) + 11)) (y := ((33000 * 2 ^ k - 33000) + (33000 * 2 ^ k - 33000) + 32975)) dX11_text_545 nl_X11_110 (fun q9 => ?_)
        refine r_dup dX11_text_548 rfl ?_
        refine k_I (x := ((16 * 2 ^ k - 16) + (16 * 2 ^ k - 16) + 10)) (y := ((33000 * 2 ^ k - 33000) + (33000 * 2 ^ k - 33000) + 32959)) (rest := [.ref q9]) dX11_text_549 ki_X11_112 (cj_sb) rfl rfl (Nat.le_of_ble_eq_true rfl) (by omega) (by decide) ?_
        rintro bv78 -
        show R g mX11_text (k + 1 + 8) ((16 * 2 ^ k - 16) + (16 * 2 ^ k - 16) + 10) ((33000 * 2 ^ k - 33000) + (33000 * 2 ^ k - 33000) + 32959) 552 [(4, .ref q4), (3, .ref q3), (2, .ref q2), (1, .ref q1), (0, .ref a)] [.ref q9] ((q9, .inr (13, [.ref bv78, .int (0 : Int32), .int (0 : Int32), .int (nI ([] : List Int32).length)])) :: ((bv78, yA g 16 (fun _ => 0)) :: t0)) _
        refine r_ldcS (i := 53) dX11_text_552 rfl ?_
        have bn83 : (([] : List Int32) ++ kT 53).length ≤ 4 := lnA (L := ([] : List Int32)) (L2 := kT 53) (n := 0) (n2 := 4) (Nat.le_refl 0) (by decide)
        refine k_V (x := ((16 * 2 ^ k - 16) + (16 * 2 ^ k - 16) + 9)) (y := ((33000 * 2 ^ k - 33000) + (33000 * 2 ^ k - 33000) + 28957)) (rest := []) 0 dX11_text_554 kv_X11_113 (cj_apK (i := 53) (by decide) BL.nil (Nat.le_trans bn83 (by omega))) rfl rfl rfl rfl (Nat.le_of_ble_eq_true rfl) (by omega) (by decide) ?_
        rintro ⟨bv79, bm80, bf81⟩ bh82
        try dsimp only at bh82
        show R g mX11_text (k + 1 + 8) ((16 * 2 ^ k - 16) + (16 * 2 ^ k - 16) + 9) ((33000 * 2 ^ k - 33000) + (33000 * 2 ^ k - 33000) + 28957) 557 [(4, .ref q4), (3, .ref q3), (2, .ref q2), (1, .ref q1), (0, .ref a)] [.ref q9] ((q9, .inr (13, [.ref bv79, .int (0 : Int32), .int (0 : Int32), .int (nI (([] : List Int32) ++ kT 53).length)])) :: ((bv79, yA g bm80 bf81) :: t0)) _
        refine r_aload_n 4 dX11_text_557 rfl ?_
        refine r_getm (v := .ref (tA k x)) (ci := 11) (fs := [.int (29 : Int32), .int (nI n), .int (nI o), .ref (tA k x), (tv k tb)]) dX11_text_558 fl_X11_40 (List.mem_cons_of_mem _ (List.mem_cons_of_mem _ hoK)) rfl ?_
        obtain ⟨fszz84, hfzz84⟩ := TM.cell k x (hma x rfl)
        refine r_room (x2 := ((16 * 2 ^ k - 16) + 9) + (16 * 2 ^ k - 16)) (y2 := ((33000 * 2 ^ k - 33000) + 28957) + (33000 * 2 ^ k - 33000)) (by omega) (by omega) ?_
        refine k_Vm (x := ((16 * 2 ^ k - 16) + 9)) (y := ((33000 * 2 ^ k - 33000) + 28957)) (rest := [.ref q9]) dX11_text_561 kv_X11_128 (cl_text hn hne k x _ (by omega) (TM.mono (fun p hp => (List.mem_cons_of_mem _ (List.mem_cons_of_mem _ (mt p hp)))) k x (hma x rfl)) hx) rfl rfl (List.mem_cons_of_mem _ (List.mem_cons_of_mem _ (mt _ hfzz84))) rfl (Nat.le_of_ble_eq_true rfl) (by omega) (by decide) ?_
        rintro zz84 hz85
        refine r_seg (ws2 := ((q9, .inr (13, [.ref bv79, .int (0 : Int32), .int (0 : Int32), .int (nI (([] : List Int32) ++ kT 53).length)])) :: ((bv79, yA g bm80 bf81) :: ((sw g (txt k x).length zz84) ++ t0)))) [sw g (txt k x).length zz84, [(q9, .inr (13, [.ref bv79, .int (0 : Int32), .int (0 : Int32), .int (nI (([] : List Int32) ++ kT 53).length)]))], [(bv79, yA g bm80 bf81)], t0] [1, 2, 0, 3] rfl rfl rfl ?_
        have bn90 : ((([] : List Int32) ++ kT 53) ++ txt k x).length ≤ (4 + (12 * 2 ^ k - 7)) := lnA (L := (([] : List Int32) ++ kT 53)) (L2 := txt k x) (n := 4) (n2 := (12 * 2 ^ k - 7)) bn83 (txt_len (by omega) (by omega) k x hx)
        refine k_V (x := ((16 * 2 ^ k - 16) + 8)) (y := ((33000 * 2 ^ k - 33000) + 24955)) (rest := []) 0 dX11_text_564 kv_X11_113 (cj_apX (L2 := txt k x) (z := zz84) hz85 bh82 (Nat.le_trans bn90 (by omega))) rfl rfl rfl rfl (Nat.le_of_ble_eq_true rfl) (by omega) (by decide) ?_
        rintro ⟨bv86, bm87, bf88⟩ bh89
        try dsimp only at bh89
        show R g mX11_text (k + 1 + 8) ((16 * 2 ^ k - 16) + 8) ((33000 * 2 ^ k - 33000) + 24955) 567 [(4, .ref q4), (3, .ref q3), (2, .ref q2), (1, .ref q1), (0, .ref a)] [.ref q9] ((q9, .inr (13, [.ref bv86, .int (0 : Int32), .int (0 : Int32), .int (nI ((([] : List Int32) ++ kT 53) ++ txt k x).length)])) :: ((bv86, yA g bm87 bf88) :: ((sw g (txt k x).length zz84) ++ t0))) _
        refine r_seg (ws2 := ((q9, .inr (13, [.ref bv86, .int (0 : Int32), .int (0 : Int32), .int (nI ((([] : List Int32) ++ kT 53) ++ txt k x).length)])) :: ((bv86, yA g bm87 bf88) :: t0))) [[(q9, .inr (13, [.ref bv86, .int (0 : Int32), .int (0 : Int32), .int (nI ((([] : List Int32) ++ kT 53) ++ txt k x).length)]))], [(bv86, yA g bm87 bf88)], sw g (txt k x).length zz84, t0] [0, 1, 3] rfl rfl rfl ?_
        refine r_ldcS (i := 54) dX11_text_567 rfl ?_
        have bn95 : (((([] : List Int32) ++ kT 53) ++ txt k x) ++ kT 54).length ≤ ((4 + (12 * 2 ^ k - 7)) + 1) := lnA (L := ((([] : List Int32) ++ kT 53) ++ txt k x)) (L2 := kT 54) (n := (4 + (12 * 2 ^ k - 7))) (n2 := 1) bn90 (by decide)
        refine k_V (x := ((16 * 2 ^ k - 16) + 7)) (y := ((33000 * 2 ^ k - 33000) + 20953)) (rest := []) 0 dX11_text_569 kv_X11_113 (cj_apK (i := 54) (by decide) bh89 (Nat.le_trans bn95 (by omega))) rfl rfl rfl rfl (Nat.le_of_ble_eq_true rfl) (by omega) (by decide) ?_
        rintro ⟨bv91, bm92, bf93⟩ bh94
        try dsimp only at bh94
        show R g mX11_text (k + 1 + 8) ((16 * 2 ^ k - 16) + 7) ((33000 * 2 ^ k - 33000) + 20953) 572 [(4, .ref q4), (3, .ref q3), (2, .ref q2), (1, .ref q1), (0, .ref a)] [.ref q9] ((q9, .inr (13, [.ref bv91, .int (0 : Int32), .int (0 : Int32), .int (nI (((([] : List Int32) ++ kT 53) ++ txt k x) ++ kT 54).length)])) :: ((bv91, yA g bm92 bf93) :: t0)) _
        refine k_V (x := ((16 * 2 ^ k - 16) + 5)) (y := ((33000 * 2 ^ k - 33000) + 16947)) (rest := []) 0 dX11_text_572 kv_X11_120 (cj_strB bh94) rfl rfl rfl rfl (Nat.le_of_ble_eq_true rfl) (by omega) (by decide) ?_
        rintro ⟨ts96, tb97, tf98⟩ th99
        try dsimp only at th99
        show R g mX11_text (k + 1 + 8) ((16 * 2 ^ k - 16) + 5) ((33000 * 2 ^ k - 33000) + 16947) 575 [(4, .ref q4), (3, .ref q3), (2, .ref q2), (1, .ref q1), (0, .ref a)] [.ref ts96] ((ts96, .inr (12, [.ref tb97, .int (0 : Int32), .int (0 : Int32), .int (0 : Int32)])) :: ((tb97, yA g (((([] : List Int32) ++ kT 53) ++ txt k x) ++ kT 54).length tf98) :: ((q9, .inr (13, [.ref bv91, .int (0 : Int32), .int (0 : Int32), .int (nI (((([] : List Int32) ++ kT 53) ++ txt k x) ++ kT 54).length)])) :: ((bv91, yA g bm92 bf93) :: t0)))) _
        refine r_goto (tgt := 647) dX11_text_575 (by decide) ?_
        rw [e0]
        refine r_seg (ws2 := ((ts96, .inr (12, [.ref tb97, .int (0 : Int32), .int (0 : Int32), .int (0 : Int32)])) :: ((tb97, yA g (((([] : List Int32) ++ kT 53) ++ txt k x) ++ kT 54).length tf98) :: t))) [[(ts96, .inr (12, [.ref tb97, .int (0 : Int32), .int (0 : Int32), .int (0 : Int32)]))], [(tb97, yA g (((([] : List Int32) ++ kT 53) ++ txt k x) ++ kT 54).length tf98)], [(q9, .inr (13, [.ref bv91, .int (0 : Int32), .int (0 : Int32), .int (nI (((([] : List Int32) ++ kT 53) ++ txt k x) ++ kT 54).length)]))], [(bv91, yA g bm92 bf93)], [(q4, qA g 7 4 (va_up (va_up (va_up (va_up (fun _ => none) 0 (some (gK g 43))) 1 (some (gK g 44))) 2 (some (gK g 45))) 3 (some (gK g 46))))], [(q3, qA g 7 5 (va_up (va_up (va_up (va_up (va_up (fun _ => none) 0 (some (gK g 38))) 1 (some (gK g 39))) 2 (some (gK g 40))) 3 (some (gK g 41))) 4 (some (gK g 42))))], [(q2, qA g 7 6 (va_up (va_up (va_up (va_up (va_up (va_up (fun _ => none) 0 (some (gK g 32))) 1 (some (gK g 33))) 2 (some (gK g 34))) 3 (some (gK g 35))) 4 (some (gK g 36))) 5 (some (gK g 37))))], [(q1, qA g 7 6 (va_up (va_up (va_up (va_up (va_up (va_up (fun _ => none) 0 (some (gK g iE))) 1 (some (gK g 27))) 2 (some (gK g 28))) 3 (some (gK g 29))) 4 (some (gK g 30))) 5 (some (gK g 31))))], t] [0, 1, 8] rfl rfl rfl ?_
        refine r_aret dX11_text_647 rfl rfl (Or.inr ⟨_, rfl⟩) ?_
        exact Dq.mk (Sum.inr (ts96, tb97, tf98)) rfl rfl th99
    · rcases hk2 with rfl | rfl | rfl | rfl | rfl | rfl | rfl | rfl | rfl | rfl | rfl | rfl | rfl
      · have hoK : (a, .inr (11, [.int (7 : Int32), .int (nI n), .int (nI o), .ref (tA k x), .ref (tA k y)])) ∈ t0 := mt _ ho
        have hE : txt (k + 1) ((a, 7, n, o), some x, some y) = (((((((([] : List Int32) ++ kT 50) ++ (txt k x)) ++ kT 49) ++ kT 32) ++ kT 50) ++ (txt k y)) ++ kT 49) := rfl
        rw [hE]
        show R g mX11_text (k + 1 + 8) ((16 * 2 ^ k - 16) + (16 * 2 ^ k - 16) + 12) ((33000 * 2 ^ k - 33000) + (33000 * 2 ^ k - 33000) + 32979) 128 [(4, .ref q4), (3, .ref q3), (2, .ref q2), (1, .ref q1), (0, .ref a)] [] t0 _
        refine r_aload_n 4 dX11_text_128 rfl ?_
        refine r_getm (v := .int (7 : Int32)) (ci := 11) (fs := [.int (7 : Int32), .int (nI n), .int (nI o), .ref (tA k x), .ref (tA k y)]) dX11_text_129 fl_X11_7 hoK rfl ?_
        refine r_if_ne (tgt := 158) dX11_text_132 (by decide) (fun _ => ?_) (fun hc => absurd hc (by decide))
        refine r_aload_n 4 dX11_text_158 rfl ?_
        refine r_getm (v := .int (7 : Int32)) (ci := 11) (fs := [.int (7 : Int32), .int (nI n), .int (nI o), .ref (tA k x), .ref (tA k y)]) dX11_text_159 fl_X11_7 hoK rfl ?_
        refine r_iconst (v := (4 : Int32)) dX11_text_162 (by decide) ?_
        refine r_icmp_ge (tgt := 173) dX11_text_163 (by decide) (fun _ => ?_) (fun hc => absurd (by decide) hc)
        refine r_aload_n 4 dX11_text_173 rfl ?_
        refine r_getm (v := .int (7 : Int32)) (ci := 11) (fs := [.int (7 : Int32), .int (nI n), .int (nI o), .ref (tA k x), .ref (tA k y)]) dX11_text_174 fl_X11_7 hoK rfl ?_
        refine r_bipush (v := (6 : Int32)) dX11_text_177 (by decide) ?_
        refine r_icmp_ge (tgt := 214) dX11_text_179 (by decide) (fun _ => ?_) (fun hc => absurd (by decide) hc)
        refine r_aload_n 4 dX11_text_214 rfl ?_
        refine r_getm (v := .int (7 : Int32)) (ci := 11) (fs := [.int (7 : Int32), .int (nI n), .int (nI o), .ref (tA k x), .ref (tA k y)]) dX11_text_215 fl_X11_7 hoK rfl ?_
        refine r_bipush (v := (6 : Int32)) dX11_text_218 (by decide) ?_
        refine r_icmp_ne (tgt := 254) dX11_text_220 (by decide) (fun _ => ?_) (fun hc => absurd hc (by decide))
        refine r_aload_n 4 dX11_text_254 rfl ?_
        refine r_getm (v := .int (7 : Int32)) (ci := 11) (fs := [.int (7 : Int32), .int (nI n), .int (nI o), .ref (tA k x), .ref (tA k y)]) dX11_text_255 fl_X11_7 hoK rfl ?_
        refine r_bipush (v := (11 : Int32)) dX11_text_258 (by decide) ?_
        refine r_icmp_ge (tgt := 326) dX11_text_260 (by decide) (fun hc => absurd hc (by decide)) (fun _ => ?_)
        refine r_new (N := 4) (x := ((16 * 2 ^ k - 16) + (16 * 2 ^ k - 16) + 11)) (y := ((33000 * 2 ^ k - 33000) + (33000 * 2 ^ k - 33000) + 32975)) dX11_text_263 nl_X11_110 (fun q10 => ?_)
        refine r_dup dX11_text_266 rfl ?_
        refine k_I (x := ((16 * 2 ^ k - 16) + (16 * 2 ^ k - 16) + 10)) (y := ((33000 * 2 ^ k - 33000) + (33000 * 2 ^ k - 33000) + 32959)) (rest := [.ref q10]) dX11_text_267 ki_X11_112 (cj_sb) rfl rfl (Nat.le_of_ble_eq_true rfl) (by omega) (by decide) ?_
        rintro bv100 -
        show R g mX11_text (k + 1 + 8) ((16 * 2 ^ k - 16) + (16 * 2 ^ k - 16) + 10) ((33000 * 2 ^ k - 33000) + (33000 * 2 ^ k - 33000) + 32959) 270 [(4, .ref q4), (3, .ref q3), (2, .ref q2), (1, .ref q1), (0, .ref a)] [.ref q10] ((q10, .inr (13, [.ref bv100, .int (0 : Int32), .int (0 : Int32), .int (nI ([] : List Int32).length)])) :: ((bv100, yA g 16 (fun _ => 0)) :: t0)) _
        refine r_ldcS (i := 50) dX11_text_270 rfl ?_
        have bn105 : (([] : List Int32) ++ kT 50).length ≤ 1 := lnA (L := ([] : List Int32)) (L2 := kT 50) (n := 0) (n2 := 1) (Nat.le_refl 0) (by decide)
        refine k_V (x := ((16 * 2 ^ k - 16) + (16 * 2 ^ k - 16) + 9)) (y := ((33000 * 2 ^ k - 33000) + (33000 * 2 ^ k - 33000) + 28957)) (rest := []) 0 dX11_text_272 kv_X11_113 (cj_apK (i := 50) (by decide) BL.nil (Nat.le_trans bn105 (by omega))) rfl rfl rfl rfl (Nat.le_of_ble_eq_true rfl) (by omega) (by decide) ?_
        rintro ⟨bv101, bm102, bf103⟩ bh104
        try dsimp only at bh104
        show R g mX11_text (k + 1 + 8) ((16 * 2 ^ k - 16) + (16 * 2 ^ k - 16) + 9) ((33000 * 2 ^ k - 33000) + (33000 * 2 ^ k - 33000) + 28957) 275 [(4, .ref q4), (3, .ref q3), (2, .ref q2), (1, .ref q1), (0, .ref a)] [.ref q10] ((q10, .inr (13, [.ref bv101, .int (0 : Int32), .int (0 : Int32), .int (nI (([] : List Int32) ++ kT 50).length)])) :: ((bv101, yA g bm102 bf103) :: t0)) _
        refine r_aload_n 4 dX11_text_275 rfl ?_
        refine r_getm (v := .ref (tA k x)) (ci := 11) (fs := [.int (7 : Int32), .int (nI n), .int (nI o), .ref (tA k x), .ref (tA k y)]) dX11_text_276 fl_X11_40 (List.mem_cons_of_mem _ (List.mem_cons_of_mem _ hoK)) rfl ?_
        obtain ⟨fszz106, hfzz106⟩ := TM.cell k x (hma x rfl)
        refine r_room (x2 := ((16 * 2 ^ k - 16) + 9) + (16 * 2 ^ k - 16)) (y2 := ((33000 * 2 ^ k - 33000) + 28957) + (33000 * 2 ^ k - 33000)) (by omega) (by omega) ?_
        refine k_Vm (x := ((16 * 2 ^ k - 16) + 9)) (y := ((33000 * 2 ^ k - 33000) + 28957)) (rest := [.ref q10]) dX11_text_279 kv_X11_128 (cl_text hn hne k x _ (by omega) (TM.mono (fun p hp => (List.mem_cons_of_mem _ (List.mem_cons_of_mem _ (mt p hp)))) k x (hma x rfl)) hx) rfl rfl (List.mem_cons_of_mem _ (List.mem_cons_of_mem _ (mt _ hfzz106))) rfl (Nat.le_of_ble_eq_true rfl) (by omega) (by decide) ?_
        rintro zz106 hz107
        refine r_seg (ws2 := ((q10, .inr (13, [.ref bv101, .int (0 : Int32), .int (0 : Int32), .int (nI (([] : List Int32) ++ kT 50).length)])) :: ((bv101, yA g bm102 bf103) :: ((sw g (txt k x).length zz106) ++ t0)))) [sw g (txt k x).length zz106, [(q10, .inr (13, [.ref bv101, .int (0 : Int32), .int (0 : Int32), .int (nI (([] : List Int32) ++ kT 50).length)]))], [(bv101, yA g bm102 bf103)], t0] [1, 2, 0, 3] rfl rfl rfl ?_
        have bn112 : ((([] : List Int32) ++ kT 50) ++ txt k x).length ≤ (1 + (12 * 2 ^ k - 7)) := lnA (L := (([] : List Int32) ++ kT 50)) (L2 := txt k x) (n := 1) (n2 := (12 * 2 ^ k - 7)) bn105 (txt_len (by omega) (by omega) k x hx)
        refine k_V (x := ((16 * 2 ^ k - 16) + 8)) (y := ((33000 * 2 ^ k - 33000) + 24955)) (rest := []) 0 dX11_text_282 kv_X11_113 (cj_apX (L2 := txt k x) (z := zz106) hz107 bh104 (Nat.le_trans bn112 (by omega))) rfl rfl rfl rfl (Nat.le_of_ble_eq_true rfl) (by omega) (by decide) ?_
        rintro ⟨bv108, bm109, bf110⟩ bh111
        try dsimp only at bh111
        show R g mX11_text (k + 1 + 8) ((16 * 2 ^ k - 16) + 8) ((33000 * 2 ^ k - 33000) + 24955) 285 [(4, .ref q4), (3, .ref q3), (2, .ref q2), (1, .ref q1), (0, .ref a)] [.ref q10] ((q10, .inr (13, [.ref bv108, .int (0 : Int32), .int (0 : Int32), .int (nI ((([] : List Int32) ++ kT 50) ++ txt k x).length)])) :: ((bv108, yA g bm109 bf110) :: ((sw g (txt k x).length zz106) ++ t0))) _
        refine r_seg (ws2 := ((q10, .inr (13, [.ref bv108, .int (0 : Int32), .int (0 : Int32), .int (nI ((([] : List Int32) ++ kT 50) ++ txt k x).length)])) :: ((bv108, yA g bm109 bf110) :: t0))) [[(q10, .inr (13, [.ref bv108, .int (0 : Int32), .int (0 : Int32), .int (nI ((([] : List Int32) ++ kT 50) ++ txt k x).length)]))], [(bv108, yA g bm109 bf110)], sw g (txt k x).length zz106, t0] [0, 1, 3] rfl rfl rfl ?_
        refine r_ldcS (i := 49) dX11_text_285 rfl ?_
        have bn117 : (((([] : List Int32) ++ kT 50) ++ txt k x) ++ kT 49).length ≤ ((1 + (12 * 2 ^ k - 7)) + 1) := lnA (L := ((([] : List Int32) ++ kT 50) ++ txt k x)) (L2 := kT 49) (n := (1 + (12 * 2 ^ k - 7))) (n2 := 1) bn112 (by decide)
        refine k_V (x := ((16 * 2 ^ k - 16) + 7)) (y := ((33000 * 2 ^ k - 33000) + 20953)) (rest := []) 0 dX11_text_287 kv_X11_113 (cj_apK (i := 49) (by decide) bh111 (Nat.le_trans bn117 (by omega))) rfl rfl rfl rfl (Nat.le_of_ble_eq_true rfl) (by omega) (by decide) ?_
        rintro ⟨bv113, bm114, bf115⟩ bh116
        try dsimp only at bh116
        show R g mX11_text (k + 1 + 8) ((16 * 2 ^ k - 16) + 7) ((33000 * 2 ^ k - 33000) + 20953) 290 [(4, .ref q4), (3, .ref q3), (2, .ref q2), (1, .ref q1), (0, .ref a)] [.ref q10] ((q10, .inr (13, [.ref bv113, .int (0 : Int32), .int (0 : Int32), .int (nI (((([] : List Int32) ++ kT 50) ++ txt k x) ++ kT 49).length)])) :: ((bv113, yA g bm114 bf115) :: t0)) _
        refine r_aload_n 2 dX11_text_290 rfl ?_
        refine r_aload_n 4 dX11_text_291 rfl ?_
        refine r_getm (v := .int (7 : Int32)) (ci := 11) (fs := [.int (7 : Int32), .int (nI n), .int (nI o), .ref (tA k x), .ref (tA k y)]) dX11_text_292 fl_X11_7 (List.mem_cons_of_mem _ (List.mem_cons_of_mem _ hoK)) rfl ?_
        refine r_bipush (v := (7 : Int32)) dX11_text_295 (by decide) ?_
        refine r_isub dX11_text_297 ?_
        refine r_aaldm (t := 7) (n := 6) (f := (va_up (va_up (va_up (va_up (va_up (va_up (fun _ => none) 0 (some (gK g 32))) 1 (some (gK g 33))) 2 (some (gK g 34))) 3 (some (gK g 35))) 4 (some (gK g 36))) 5 (some (gK g 37)))) (v := .ref (gK g 32)) dX11_text_298 rfl rfl (List.mem_cons_of_mem _ (List.mem_cons_of_mem _ m2)) (by decide) (by rfl) ?_
        have bn122 : ((((([] : List Int32) ++ kT 50) ++ txt k x) ++ kT 49) ++ kT 32).length ≤ (((1 + (12 * 2 ^ k - 7)) + 1) + 1) := lnA (L := (((([] : List Int32) ++ kT 50) ++ txt k x) ++ kT 49)) (L2 := kT 32) (n := ((1 + (12 * 2 ^ k - 7)) + 1)) (n2 := 1) bn117 (by decide)
        refine k_V (x := ((16 * 2 ^ k - 16) + 6)) (y := ((33000 * 2 ^ k - 33000) + 16951)) (rest := []) 0 dX11_text_299 kv_X11_113 (cj_apK (i := 32) (by decide) bh116 (Nat.le_trans bn122 (by omega))) rfl rfl rfl rfl (Nat.le_of_ble_eq_true rfl) (by omega) (by decide) ?_
        rintro ⟨bv118, bm119, bf120⟩ bh121
        try dsimp only at bh121
        show R g mX11_text (k + 1 + 8) ((16 * 2 ^ k - 16) + 6) ((33000 * 2 ^ k - 33000) + 16951) 302 [(4, .ref q4), (3, .ref q3), (2, .ref q2), (1, .ref q1), (0, .ref a)] [.ref q10] ((q10, .inr (13, [.ref bv118, .int (0 : Int32), .int (0 : Int32), .int (nI ((((([] : List Int32) ++ kT 50) ++ txt k x) ++ kT 49) ++ kT 32).length)])) :: ((bv118, yA g bm119 bf120) :: t0)) _
        refine r_ldcS (i := 50) dX11_text_302 rfl ?_
        have bn127 : (((((([] : List Int32) ++ kT 50) ++ txt k x) ++ kT 49) ++ kT 32) ++ kT 50).length ≤ ((((1 + (12 * 2 ^ k - 7)) + 1) + 1) + 1) := lnA (L := ((((([] : List Int32) ++ kT 50) ++ txt k x) ++ kT 49) ++ kT 32)) (L2 := kT 50) (n := (((1 + (12 * 2 ^ k - 7)) + 1) + 1)) (n2 := 1) bn122 (by decide)
        refine k_V (x := ((16 * 2 ^ k - 16) + 5)) (y := ((33000 * 2 ^ k - 33000) + 12949)) (rest := []) 0 dX11_text_304 kv_X11_113 (cj_apK (i := 50) (by decide) bh121 (Nat.le_trans bn127 (by omega))) rfl rfl rfl rfl (Nat.le_of_ble_eq_true rfl) (by omega) (by decide) ?_
        rintro ⟨bv123, bm124, bf125⟩ bh126
        try dsimp only at bh126
        show R g mX11_text (k + 1 + 8) ((16 * 2 ^ k - 16) + 5) ((33000 * 2 ^ k - 33000) + 12949) 307 [(4, .ref q4), (3, .ref q3), (2, .ref q2), (1, .ref q1), (0, .ref a)] [.ref q10] ((q10, .inr (13, [.ref bv123, .int (0 : Int32), .int (0 : Int32), .int (nI (((((([] : List Int32) ++ kT 50) ++ txt k x) ++ kT 49) ++ kT 32) ++ kT 50).length)])) :: ((bv123, yA g bm124 bf125) :: t0)) _
        refine r_aload_n 4 dX11_text_307 rfl ?_
        refine r_getm (v := .ref (tA k y)) (ci := 11) (fs := [.int (7 : Int32), .int (nI n), .int (nI o), .ref (tA k x), .ref (tA k y)]) dX11_text_308 fl_X11_59 (List.mem_cons_of_mem _ (List.mem_cons_of_mem _ hoK)) rfl ?_
        obtain ⟨fszz128, hfzz128⟩ := TM.cell k y (hmb y rfl)
        refine r_room (x2 := 5 + (16 * 2 ^ k - 16)) (y2 := 12949 + (33000 * 2 ^ k - 33000)) (by omega) (by omega) ?_
        refine k_Vm (x := 5) (y := 12949) (rest := [.ref q10]) dX11_text_311 kv_X11_128 (cl_text hn hne k y _ (by omega) (TM.mono (fun p hp => (List.mem_cons_of_mem _ (List.mem_cons_of_mem _ (mt p hp)))) k y (hmb y rfl)) hy) rfl rfl (List.mem_cons_of_mem _ (List.mem_cons_of_mem _ (mt _ hfzz128))) rfl (Nat.le_of_ble_eq_true rfl) (by omega) (by decide) ?_
        rintro zz128 hz129
        refine r_seg (ws2 := ((q10, .inr (13, [.ref bv123, .int (0 : Int32), .int (0 : Int32), .int (nI (((((([] : List Int32) ++ kT 50) ++ txt k x) ++ kT 49) ++ kT 32) ++ kT 50).length)])) :: ((bv123, yA g bm124 bf125) :: ((sw g (txt k y).length zz128) ++ t0)))) [sw g (txt k y).length zz128, [(q10, .inr (13, [.ref bv123, .int (0 : Int32), .int (0 : Int32), .int (nI (((((([] : List Int32) ++ kT 50) ++ txt k x) ++ kT 49) ++ kT 32) ++ kT 50).length)]))], [(bv123, yA g bm124 bf125)], t0] [1, 2, 0, 3] rfl rfl rfl ?_
        have bn134 : ((((((([] : List Int32) ++ kT 50) ++ txt k x) ++ kT 49) ++ kT 32) ++ kT 50) ++ txt k y).length ≤ (((((1 + (12 * 2 ^ k - 7)) + 1) + 1) + 1) + (12 * 2 ^ k - 7)) := lnA (L := (((((([] : List Int32) ++ kT 50) ++ txt k x) ++ kT 49) ++ kT 32) ++ kT 50)) (L2 := txt k y) (n := ((((1 + (12 * 2 ^ k - 7)) + 1) + 1) + 1)) (n2 := (12 * 2 ^ k - 7)) bn127 (txt_len (by omega) (by omega) k y hy)
        refine k_V (x := 4) (y := 8947) (rest := []) 0 dX11_text_314 kv_X11_113 (cj_apX (L2 := txt k y) (z := zz128) hz129 bh126 (Nat.le_trans bn134 (by omega))) rfl rfl rfl rfl (Nat.le_of_ble_eq_true rfl) (by omega) (by decide) ?_
        rintro ⟨bv130, bm131, bf132⟩ bh133
        try dsimp only at bh133
        show R g mX11_text (k + 1 + 8) 4 8947 317 [(4, .ref q4), (3, .ref q3), (2, .ref q2), (1, .ref q1), (0, .ref a)] [.ref q10] ((q10, .inr (13, [.ref bv130, .int (0 : Int32), .int (0 : Int32), .int (nI ((((((([] : List Int32) ++ kT 50) ++ txt k x) ++ kT 49) ++ kT 32) ++ kT 50) ++ txt k y).length)])) :: ((bv130, yA g bm131 bf132) :: ((sw g (txt k y).length zz128) ++ t0))) _
        refine r_seg (ws2 := ((q10, .inr (13, [.ref bv130, .int (0 : Int32), .int (0 : Int32), .int (nI ((((((([] : List Int32) ++ kT 50) ++ txt k x) ++ kT 49) ++ kT 32) ++ kT 50) ++ txt k y).length)])) :: ((bv130, yA g bm131 bf132) :: t0))) [[(q10, .inr (13, [.ref bv130, .int (0 : Int32), .int (0 : Int32), .int (nI ((((((([] : List Int32) ++ kT 50) ++ txt k x) ++ kT 49) ++ kT 32) ++ kT 50) ++ txt k y).length)]))], [(bv130, yA g bm131 bf132)], sw g (txt k y).length zz128, t0] [0, 1, 3] rfl rfl rfl ?_
        refine r_ldcS (i := 49) dX11_text_317 rfl ?_
        have bn139 : (((((((([] : List Int32) ++ kT 50) ++ txt k x) ++ kT 49) ++ kT 32) ++ kT 50) ++ txt k y) ++ kT 49).length ≤ ((((((1 + (12 * 2 ^ k - 7)) + 1) + 1) + 1) + (12 * 2 ^ k - 7)) + 1) := lnA (L := ((((((([] : List Int32) ++ kT 50) ++ txt k x) ++ kT 49) ++ kT 32) ++ kT 50) ++ txt k y)) (L2 := kT 49) (n := (((((1 + (12 * 2 ^ k - 7)) + 1) + 1) + 1) + (12 * 2 ^ k - 7))) (n2 := 1) bn134 (by decide)
        refine k_V (x := 3) (y := 4945) (rest := []) 0 dX11_text_319 kv_X11_113 (cj_apK (i := 49) (by decide) bh133 (Nat.le_trans bn139 (by omega))) rfl rfl rfl rfl (Nat.le_of_ble_eq_true rfl) (by omega) (by decide) ?_
        rintro ⟨bv135, bm136, bf137⟩ bh138
        try dsimp only at bh138
        show R g mX11_text (k + 1 + 8) 3 4945 322 [(4, .ref q4), (3, .ref q3), (2, .ref q2), (1, .ref q1), (0, .ref a)] [.ref q10] ((q10, .inr (13, [.ref bv135, .int (0 : Int32), .int (0 : Int32), .int (nI (((((((([] : List Int32) ++ kT 50) ++ txt k x) ++ kT 49) ++ kT 32) ++ kT 50) ++ txt k y) ++ kT 49).length)])) :: ((bv135, yA g bm136 bf137) :: t0)) _
        refine k_V (x := 1) (y := 939) (rest := []) 0 dX11_text_322 kv_X11_120 (cj_strB bh138) rfl rfl rfl rfl (Nat.le_of_ble_eq_true rfl) (by omega) (by decide) ?_
        rintro ⟨ts140, tb141, tf142⟩ th143
        try dsimp only at th143
        show R g mX11_text (k + 1 + 8) 1 939 325 [(4, .ref q4), (3, .ref q3), (2, .ref q2), (1, .ref q1), (0, .ref a)] [.ref ts140] ((ts140, .inr (12, [.ref tb141, .int (0 : Int32), .int (0 : Int32), .int (0 : Int32)])) :: ((tb141, yA g (((((((([] : List Int32) ++ kT 50) ++ txt k x) ++ kT 49) ++ kT 32) ++ kT 50) ++ txt k y) ++ kT 49).length tf142) :: ((q10, .inr (13, [.ref bv135, .int (0 : Int32), .int (0 : Int32), .int (nI (((((((([] : List Int32) ++ kT 50) ++ txt k x) ++ kT 49) ++ kT 32) ++ kT 50) ++ txt k y) ++ kT 49).length)])) :: ((bv135, yA g bm136 bf137) :: t0)))) _
        rw [e0]
        refine r_seg (ws2 := ((ts140, .inr (12, [.ref tb141, .int (0 : Int32), .int (0 : Int32), .int (0 : Int32)])) :: ((tb141, yA g (((((((([] : List Int32) ++ kT 50) ++ txt k x) ++ kT 49) ++ kT 32) ++ kT 50) ++ txt k y) ++ kT 49).length tf142) :: t))) [[(ts140, .inr (12, [.ref tb141, .int (0 : Int32), .int (0 : Int32), .int (0 : Int32)]))], [(tb141, yA g (((((((([] : List Int32) ++ kT 50) ++ txt k x) ++ kT 49) ++ kT 32) ++ kT 50) ++ txt k y) ++ kT 49).length tf142)], [(q10, .inr (13, [.ref bv135, .int (0 : Int32), .int (0 : Int32), .int (nI (((((((([] : List Int32) ++ kT 50) ++ txt k x) ++ kT 49) ++ kT 32) ++ kT 50) ++ txt k y) ++ kT 49).length)]))], [(bv135, yA g bm136 bf137)], [(q4, qA g 7 4 (va_up (va_up (va_up (va_up (fun _ => none) 0 (some (gK g 43))) 1 (some (gK g 44))) 2 (some (gK g 45))) 3 (some (gK g 46))))], [(q3, qA g 7 5 (va_up (va_up (va_up (va_up (va_up (fun _ => none) 0 (some (gK g 38))) 1 (some (gK g 39))) 2 (some (gK g 40))) 3 (some (gK g 41))) 4 (some (gK g 42))))], [(q2, qA g 7 6 (va_up (va_up (va_up (va_up (va_up (va_up (fun _ => none) 0 (some (gK g 32))) 1 (some (gK g 33))) 2 (some (gK g 34))) 3 (some (gK g 35))) 4 (some (gK g 36))) 5 (some (gK g 37))))], [(q1, qA g 7 6 (va_up (va_up (va_up (va_up (va_up (va_up (fun _ => none) 0 (some (gK g iE))) 1 (some (gK g 27))) 2 (some (gK g 28))) 3 (some (gK g 29))) 4 (some (gK g 30))) 5 (some (gK g 31))))], t] [0, 1, 8] rfl rfl rfl ?_
        refine r_aret dX11_text_325 rfl rfl (Or.inr ⟨_, rfl⟩) ?_
        exact Dq.mk (Sum.inr (ts140, tb141, tf142)) rfl rfl th143
      · have hoK : (a, .inr (11, [.int (8 : Int32), .int (nI n), .int (nI o), .ref (tA k x), .ref (tA k y)])) ∈ t0 := mt _ ho
        have hE : txt (k + 1) ((a, 8, n, o), some x, some y) = (((((((([] : List Int32) ++ kT 50) ++ (txt k x)) ++ kT 49) ++ kT 33) ++ kT 50) ++ (txt k y)) ++ kT 49) := rfl
        rw [hE]
        show R g mX11_text (k + 1 + 8) ((16 * 2 ^ k - 16) + (16 * 2 ^ k - 16) + 12) ((33000 * 2 ^ k - 33000) + (33000 * 2 ^ k - 33000) + 32979) 128 [(4, .ref q4), (3, .ref q3), (2, .ref q2), (1, .ref q1), (0, .ref a)] [] t0 _
        refine r_aload_n 4 dX11_text_128 rfl ?_
        refine r_getm (v := .int (8 : Int32)) (ci := 11) (fs := [.int (8 : Int32), .int (nI n), .int (nI o), .ref (tA k x), .ref (tA k y)]) dX11_text_129 fl_X11_7 hoK rfl ?_
        refine r_if_ne (tgt := 158) dX11_text_132 (by decide) (fun _ => ?_) (fun hc => absurd hc (by decide))
        refine r_aload_n 4 dX11_text_158 rfl ?_
        refine r_getm (v := .int (8 : Int32)) (ci := 11) (fs := [.int (8 : Int32), .int (nI n), .int (nI o), .ref (tA k x), .ref (tA k y)]) dX11_text_159 fl_X11_7 hoK rfl ?_
        refine r_iconst (v := (4 : Int32)) dX11_text_162 (by decide) ?_
        refine r_icmp_ge (tgt := 173) dX11_text_163 (by decide) (fun _ => ?_) (fun hc => absurd (by decide) hc)
        refine r_aload_n 4 dX11_text_173 rfl ?_
        refine r_getm (v := .int (8 : Int32)) (ci := 11) (fs := [.int (8 : Int32), .int (nI n), .int (nI o), .ref (tA k x), .ref (tA k y)]) dX11_text_174 fl_X11_7 hoK rfl ?_
        refine r_bipush (v := (6 : Int32)) dX11_text_177 (by decide) ?_
        refine r_icmp_ge (tgt := 214) dX11_text_179 (by decide) (fun _ => ?_) (fun hc => absurd (by decide) hc)
        refine r_aload_n 4 dX11_text_214 rfl ?_
        refine r_getm (v := .int (8 : Int32)) (ci := 11) (fs := [.int (8 : Int32), .int (nI n), .int (nI o), .ref (tA k x), .ref (tA k y)]) dX11_text_215 fl_X11_7 hoK rfl ?_
        refine r_bipush (v := (6 : Int32)) dX11_text_218 (by decide) ?_
        refine r_icmp_ne (tgt := 254) dX11_text_220 (by decide) (fun _ => ?_) (fun hc => absurd hc (by decide))
        refine r_aload_n 4 dX11_text_254 rfl ?_
        refine r_getm (v := .int (8 : Int32)) (ci := 11) (fs := [.int (8 : Int32), .int (nI n), .int (nI o), .ref (tA k x), .ref (tA k y)]) dX11_text_255 fl_X11_7 hoK rfl ?_
        refine r_bipush (v := (11 : Int32)) dX11_text_258 (by decide) ?_
        refine r_icmp_ge (tgt := 326) dX11_text_260 (by decide) (fun hc => absurd hc (by decide)) (fun _ => ?_)
        refine r_new (N := 4) (x := ((16 * 2 ^ k - 16) + (16 * 2 ^ k - 16) + 11)) (y := ((33000 * 2 ^ k - 33000) + (33000 * 2 ^ k - 33000) + 32975)) dX11_text_263 nl_X11_110 (fun q11 => ?_)
        refine r_dup dX11_text_266 rfl ?_
        refine k_I (x := ((16 * 2 ^ k - 16) + (16 * 2 ^ k - 16) + 10)) (y := ((33000 * 2 ^ k - 33000) + (33000 * 2 ^ k - 33000) + 32959)) (rest := [.ref q11]) dX11_text_267 ki_X11_112 (cj_sb) rfl rfl (Nat.le_of_ble_eq_true rfl) (by omega) (by decide) ?_
        rintro bv144 -
        show R g mX11_text (k + 1 + 8) ((16 * 2 ^ k - 16) + (16 * 2 ^ k - 16) + 10) ((33000 * 2 ^ k - 33000) + (33000 * 2 ^ k - 33000) + 32959) 270 [(4, .ref q4), (3, .ref q3), (2, .ref q2), (1, .ref q1), (0, .ref a)] [.ref q11] ((q11, .inr (13, [.ref bv144, .int (0 : Int32), .int (0 : Int32), .int (nI ([] : List Int32).length)])) :: ((bv144, yA g 16 (fun _ => 0)) :: t0)) _
        refine r_ldcS (i := 50) dX11_text_270 rfl ?_
        have bn149 : (([] : List Int32) ++ kT 50).length ≤ 1 := lnA (L := ([] : List Int32)) (L2 := kT 50) (n := 0) (n2 := 1) (Nat.le_refl 0) (by decide)
        refine k_V (x := ((16 * 2 ^ k - 16) + (16 * 2 ^ k - 16) + 9)) (y := ((33000 * 2 ^ k - 33000) + (33000 * 2 ^ k - 33000) + 28957)) (rest := []) 0 dX11_text_272 kv_X11_113 (cj_apK (i := 50) (by decide) BL.nil (Nat.le_trans bn149 (by omega))) rfl rfl rfl rfl (Nat.le_of_ble_eq_true rfl) (by omega) (by decide) ?_
        rintro ⟨bv145, bm146, bf147⟩ bh148
        try dsimp only at bh148
        show R g mX11_text (k + 1 + 8) ((16 * 2 ^ k - 16) + (16 * 2 ^ k - 16) + 9) ((33000 * 2 ^ k - 33000) + (33000 * 2 ^ k - 33000) + 28957) 275 [(4, .ref q4), (3, .ref q3), (2, .ref q2), (1, .ref q1), (0, .ref a)] [.ref q11] ((q11, .inr (13, [.ref bv145, .int (0 : Int32), .int (0 : Int32), .int (nI (([] : List Int32) ++ kT 50).length)])) :: ((bv145, yA g bm146 bf147) :: t0)) _
        refine r_aload_n 4 dX11_text_275 rfl ?_
        refine r_getm (v := .ref (tA k x)) (ci := 11) (fs := [.int (8 : Int32), .int (nI n), .int (nI o), .ref (tA k x), .ref (tA k y)]) dX11_text_276 fl_X11_40 (List.mem_cons_of_mem _ (List.mem_cons_of_mem _ hoK)) rfl ?_
        obtain ⟨fszz150, hfzz150⟩ := TM.cell k x (hma x rfl)
        refine r_room (x2 := ((16 * 2 ^ k - 16) + 9) + (16 * 2 ^ k - 16)) (y2 := ((33000 * 2 ^ k - 33000) + 28957) + (33000 * 2 ^ k - 33000)) (by omega) (by omega) ?_
        refine k_Vm (x := ((16 * 2 ^ k - 16) + 9)) (y := ((33000 * 2 ^ k - 33000) + 28957)) (rest := [.ref q11]) dX11_text_279 kv_X11_128 (cl_text hn hne k x _ (by omega) (TM.mono (fun p hp => (List.mem_cons_of_mem _ (List.mem_cons_of_mem _ (mt p hp)))) k x (hma x rfl)) hx) rfl rfl (List.mem_cons_of_mem _ (List.mem_cons_of_mem _ (mt _ hfzz150))) rfl (Nat.le_of_ble_eq_true rfl) (by omega) (by decide) ?_
        rintro zz150 hz151
        refine r_seg (ws2 := ((q11, .inr (13, [.ref bv145, .int (0 : Int32), .int (0 : Int32), .int (nI (([] : List Int32) ++ kT 50).length)])) :: ((bv145, yA g bm146 bf147) :: ((sw g (txt k x).length zz150) ++ t0)))) [sw g (txt k x).length zz150, [(q11, .inr (13, [.ref bv145, .int (0 : Int32), .int (0 : Int32), .int (nI (([] : List Int32) ++ kT 50).length)]))], [(bv145, yA g bm146 bf147)], t0] [1, 2, 0, 3] rfl rfl rfl ?_
        have bn156 : ((([] : List Int32) ++ kT 50) ++ txt k x).length ≤ (1 + (12 * 2 ^ k - 7)) := lnA (L := (([] : List Int32) ++ kT 50)) (L2 := txt k x) (n := 1) (n2 := (12 * 2 ^ k - 7)) bn149 (txt_len (by omega) (by omega) k x hx)
        refine k_V (x := ((16 * 2 ^ k - 16) + 8)) (y := ((33000 * 2 ^ k - 33000) + 24955)) (rest := []) 0 dX11_text_282 kv_X11_113 (cj_apX (L2 := txt k x) (z := zz150) hz151 bh148 (Nat.le_trans bn156 (by omega))) rfl rfl rfl rfl (Nat.le_of_ble_eq_true rfl) (by omega) (by decide) ?_
        rintro ⟨bv152, bm153, bf154⟩ bh155
        try dsimp only at bh155
        show R g mX11_text (k + 1 + 8) ((16 * 2 ^ k - 16) + 8) ((33000 * 2 ^ k - 33000) + 24955) 285 [(4, .ref q4), (3, .ref q3), (2, .ref q2), (1, .ref q1), (0, .ref a)] [.ref q11] ((q11, .inr (13, [.ref bv152, .int (0 : Int32), .int (0 : Int32), .int (nI ((([] : List Int32) ++ kT 50) ++ txt k x).length)])) :: ((bv152, yA g bm153 bf154) :: ((sw g (txt k x).length zz150) ++ t0))) _
        refine r_seg (ws2 := ((q11, .inr (13, [.ref bv152, .int (0 : Int32), .int (0 : Int32), .int (nI ((([] : List Int32) ++ kT 50) ++ txt k x).length)])) :: ((bv152, yA g bm153 bf154) :: t0))) [[(q11, .inr (13, [.ref bv152, .int (0 : Int32), .int (0 : Int32), .int (nI ((([] : List Int32) ++ kT 50) ++ txt k x).length)]))], [(bv152, yA g bm153 bf154)], sw g (txt k x).length zz150, t0] [0, 1, 3] rfl rfl rfl ?_
        refine r_ldcS (i := 49) dX11_text_285 rfl ?_
        have bn161 : (((([] : List Int32) ++ kT 50) ++ txt k x) ++ kT 49).length ≤ ((1 + (12 * 2 ^ k - 7)) + 1) := lnA (L := ((([] : List Int32) ++ kT 50) ++ txt k x)) (L2 := kT 49) (n := (1 + (12 * 2 ^ k - 7))) (n2 := 1) bn156 (by decide)
        refine k_V (x := ((16 * 2 ^ k - 16) + 7)) (y := ((33000 * 2 ^ k - 33000) + 20953)) (rest := []) 0 dX11_text_287 kv_X11_113 (cj_apK (i := 49) (by decide) bh155 (Nat.le_trans bn161 (by omega))) rfl rfl rfl rfl (Nat.le_of_ble_eq_true rfl) (by omega) (by decide) ?_
        rintro ⟨bv157, bm158, bf159⟩ bh160
        try dsimp only at bh160
        show R g mX11_text (k + 1 + 8) ((16 * 2 ^ k - 16) + 7) ((33000 * 2 ^ k - 33000) + 20953) 290 [(4, .ref q4), (3, .ref q3), (2, .ref q2), (1, .ref q1), (0, .ref a)] [.ref q11] ((q11, .inr (13, [.ref bv157, .int (0 : Int32), .int (0 : Int32), .int (nI (((([] : List Int32) ++ kT 50) ++ txt k x) ++ kT 49).length)])) :: ((bv157, yA g bm158 bf159) :: t0)) _
        refine r_aload_n 2 dX11_text_290 rfl ?_
        refine r_aload_n 4 dX11_text_291 rfl ?_
        refine r_getm (v := .int (8 : Int32)) (ci := 11) (fs := [.int (8 : Int32), .int (nI n), .int (nI o), .ref (tA k x), .ref (tA k y)]) dX11_text_292 fl_X11_7 (List.mem_cons_of_mem _ (List.mem_cons_of_mem _ hoK)) rfl ?_
        refine r_bipush (v := (7 : Int32)) dX11_text_295 (by decide) ?_
        refine r_isub dX11_text_297 ?_
        refine r_aaldm (t := 7) (n := 6) (f := (va_up (va_up (va_up (va_up (va_up (va_up (fun _ => none) 0 (some (gK g 32))) 1 (some (gK g 33))) 2 (some (gK g 34))) 3 (some (gK g 35))) 4 (some (gK g 36))) 5 (some (gK g 37)))) (v := .ref (gK g 33)) dX11_text_298 rfl rfl (List.mem_cons_of_mem _ (List.mem_cons_of_mem _ m2)) (by decide) (by rfl) ?_
        have bn166 : ((((([] : List Int32) ++ kT 50) ++ txt k x) ++ kT 49) ++ kT 33).length ≤ (((1 + (12 * 2 ^ k - 7)) + 1) + 1) := lnA (L := (((([] : List Int32) ++ kT 50) ++ txt k x) ++ kT 49)) (L2 := kT 33) (n := ((1 + (12 * 2 ^ k - 7)) + 1)) (n2 := 1) bn161 (by decide)
        refine k_V (x := ((16 * 2 ^ k - 16) + 6)) (y := ((33000 * 2 ^ k - 33000) + 16951)) (rest := []) 0 dX11_text_299 kv_X11_113 (cj_apK (i := 33) (by decide) bh160 (Nat.le_trans bn166 (by omega))) rfl rfl rfl rfl (Nat.le_of_ble_eq_true rfl) (by omega) (by decide) ?_
        rintro ⟨bv162, bm163, bf164⟩ bh165
        try dsimp only at bh165
        show R g mX11_text (k + 1 + 8) ((16 * 2 ^ k - 16) + 6) ((33000 * 2 ^ k - 33000) + 16951) 302 [(4, .ref q4), (3, .ref q3), (2, .ref q2), (1, .ref q1), (0, .ref a)] [.ref q11] ((q11, .inr (13, [.ref bv162, .int (0 : Int32), .int (0 : Int32), .int (nI ((((([] : List Int32) ++ kT 50) ++ txt k x) ++ kT 49) ++ kT 33).length)])) :: ((bv162, yA g bm163 bf164) :: t0)) _
        refine r_ldcS (i := 50) dX11_text_302 rfl ?_
        have bn171 : (((((([] : List Int32) ++ kT 50) ++ txt k x) ++ kT 49) ++ kT 33) ++ kT 50).length ≤ ((((1 + (12 * 2 ^ k - 7)) + 1) + 1) + 1) := lnA (L := ((((([] : List Int32) ++ kT 50) ++ txt k x) ++ kT 49) ++ kT 33)) (L2 := kT 50) (n := (((1 + (12 * 2 ^ k - 7)) + 1) + 1)) (n2 := 1) bn166 (by decide)
        refine k_V (x := ((16 * 2 ^ k - 16) + 5)) (y := ((33000 * 2 ^ k - 33000) + 12949)) (rest := []) 0 dX11_text_304 kv_X11_113 (cj_apK (i := 50) (by decide) bh165 (Nat.le_trans bn171 (by omega))) rfl rfl rfl rfl (Nat.le_of_ble_eq_true rfl) (by omega) (by decide) ?_
        rintro ⟨bv167, bm168, bf169⟩ bh170
        try dsimp only at bh170
        show R g mX11_text (k + 1 + 8) ((16 * 2 ^ k - 16) + 5) ((33000 * 2 ^ k - 33000) + 12949) 307 [(4, .ref q4), (3, .ref q3), (2, .ref q2), (1, .ref q1), (0, .ref a)] [.ref q11] ((q11, .inr (13, [.ref bv167, .int (0 : Int32), .int (0 : Int32), .int (nI (((((([] : List Int32) ++ kT 50) ++ txt k x) ++ kT 49) ++ kT 33) ++ kT 50).length)])) :: ((bv167, yA g bm168 bf169) :: t0)) _
        refine r_aload_n 4 dX11_text_307 rfl ?_
        refine r_getm (v := .ref (tA k y)) (ci := 11) (fs := [.int (8 : Int32), .int (nI n), .int (nI o), .ref (tA k x), .ref (tA k y)]) dX11_text_308 fl_X11_59 (List.mem_cons_of_mem _ (List.mem_cons_of_mem _ hoK)) rfl ?_
        obtain ⟨fszz172, hfzz172⟩ := TM.cell k y (hmb y rfl)
        refine r_room (x2 := 5 + (16 * 2 ^ k - 16)) (y2 := 12949 + (33000 * 2 ^ k - 33000)) (by omega) (by omega) ?_
        refine k_Vm (x := 5) (y := 12949) (rest := [.ref q11]) dX11_text_311 kv_X11_128 (cl_text hn hne k y _ (by omega) (TM.mono (fun p hp => (List.mem_cons_of_mem _ (List.mem_cons_of_mem _ (mt p hp)))) k y (hmb y rfl)) hy) rfl rfl (List.mem_cons_of_mem _ (List.mem_cons_of_mem _ (mt _ hfzz172))) rfl (Nat.le_of_ble_eq_true rfl) (by omega) (by decide) ?_
        rintro zz172 hz173
        refine r_seg (ws2 := ((q11, .inr (13, [.ref bv167, .int (0 : Int32), .int (0 : Int32), .int (nI (((((([] : List Int32) ++ kT 50) ++ txt k x) ++ kT 49) ++ kT 33) ++ kT 50).length)])) :: ((bv167, yA g bm168 bf169) :: ((sw g (txt k y).length zz172) ++ t0)))) [sw g (txt k y).length zz172, [(q11, .inr (13, [.ref bv167, .int (0 : Int32), .int (0 : Int32), .int (nI (((((([] : List Int32) ++ kT 50) ++ txt k x) ++ kT 49) ++ kT 33) ++ kT 50).length)]))], [(bv167, yA g bm168 bf169)], t0] [1, 2, 0, 3] rfl rfl rfl ?_
        have bn178 : ((((((([] : List Int32) ++ kT 50) ++ txt k x) ++ kT 49) ++ kT 33) ++ kT 50) ++ txt k y).length ≤ (((((1 + (12 * 2 ^ k - 7)) + 1) + 1) + 1) + (12 * 2 ^ k - 7)) := lnA (L := (((((([] : List Int32) ++ kT 50) ++ txt k x) ++ kT 49) ++ kT 33) ++ kT 50)) (L2 := txt k y) (n := ((((1 + (12 * 2 ^ k - 7)) + 1) + 1) + 1)) (n2 := (12 * 2 ^ k - 7)) bn171 (txt_len (by omega) (by omega) k y hy)
        refine k_V (x := 4) (y := 8947) (rest := []) 0 dX11_text_314 kv_X11_113 (cj_apX (L2 := txt k y) (z := zz172) hz173 bh170 (Nat.le_trans bn178 (by omega))) rfl rfl rfl rfl (Nat.le_of_ble_eq_true rfl) (by omega) (by decide) ?_
        rintro ⟨bv174, bm175, bf176⟩ bh177
        try dsimp only at bh177
        show R g mX11_text (k + 1 + 8) 4 8947 317 [(4, .ref q4), (3, .ref q3), (2, .ref q2), (1, .ref q1), (0, .ref a)] [.ref q11] ((q11, .inr (13, [.ref bv174, .int (0 : Int32), .int (0 : Int32), .int (nI ((((((([] : List Int32) ++ kT 50) ++ txt k x) ++ kT 49) ++ kT 33) ++ kT 50) ++ txt k y).length)])) :: ((bv174, yA g bm175 bf176) :: ((sw g (txt k y).length zz172) ++ t0))) _
        refine r_seg (ws2 := ((q11, .inr (13, [.ref bv174, .int (0 : Int32), .int (0 : Int32), .int (nI ((((((([] : List Int32) ++ kT 50) ++ txt k x) ++ kT 49) ++ kT 33) ++ kT 50) ++ txt k y).length)])) :: ((bv174, yA g bm175 bf176) :: t0))) [[(q11, .inr (13, [.ref bv174, .int (0 : Int32), .int (0 : Int32), .int (nI ((((((([] : List Int32) ++ kT 50) ++ txt k x) ++ kT 49) ++ kT 33) ++ kT 50) ++ txt k y).length)]))], [(bv174, yA g bm175 bf176)], sw g (txt k y).length zz172, t0] [0, 1, 3] rfl rfl rfl ?_
        refine r_ldcS (i := 49) dX11_text_317 rfl ?_
        have bn183 : (((((((([] : List Int32) ++ kT 50) ++ txt k x) ++ kT 49) ++ kT 33) ++ kT 50) ++ txt k y) ++ kT 49).length ≤ ((((((1 + (12 * 2 ^ k - 7)) + 1) + 1) + 1) + (12 * 2 ^ k - 7)) + 1) := lnA (L := ((((((([] : List Int32) ++ kT 50) ++ txt k x) ++ kT 49) ++ kT 33) ++ kT 50) ++ txt k y)) (L2 := kT 49) (n := (((((1 + (12 * 2 ^ k - 7)) + 1) + 1) + 1) + (12 * 2 ^ k - 7))) (n2 := 1) bn178 (by decide)
        refine k_V (x := 3) (y := 4945) (rest := []) 0 dX11_text_319 kv_X11_113 (cj_apK (i := 49) (by decide) bh177 (Nat.le_trans bn183 (by omega))) rfl rfl rfl rfl (Nat.le_of_ble_eq_true rfl) (by omega) (by decide) ?_
        rintro ⟨bv179, bm180, bf181⟩ bh182
        try dsimp only at bh182
        show R g mX11_text (k + 1 + 8) 3 4945 322 [(4, .ref q4), (3, .ref q3), (2, .ref q2), (1, .ref q1), (0, .ref a)] [.ref q11] ((q11, .inr (13, [.ref bv179, .int (0 : Int32), .int (0 : Int32), .int (nI (((((((([] : List Int32) ++ kT 50) ++ txt k x) ++ kT 49) ++ kT 33) ++ kT 50) ++ txt k y) ++ kT 49).length)])) :: ((bv179, yA g bm180 bf181) :: t0)) _
        refine k_V (x := 1) (y := 939) (rest := []) 0 dX11_text_322 kv_X11_120 (cj_strB bh182) rfl rfl rfl rfl (Nat.le_of_ble_eq_true rfl) (by omega) (by decide) ?_
        rintro ⟨ts184, tb185, tf186⟩ th187
        try dsimp only at th187
        show R g mX11_text (k + 1 + 8) 1 939 325 [(4, .ref q4), (3, .ref q3), (2, .ref q2), (1, .ref q1), (0, .ref a)] [.ref ts184] ((ts184, .inr (12, [.ref tb185, .int (0 : Int32), .int (0 : Int32), .int (0 : Int32)])) :: ((tb185, yA g (((((((([] : List Int32) ++ kT 50) ++ txt k x) ++ kT 49) ++ kT 33) ++ kT 50) ++ txt k y) ++ kT 49).length tf186) :: ((q11, .inr (13, [.ref bv179, .int (0 : Int32), .int (0 : Int32), .int (nI (((((((([] : List Int32) ++ kT 50) ++ txt k x) ++ kT 49) ++ kT 33) ++ kT 50) ++ txt k y) ++ kT 49).length)])) :: ((bv179, yA g bm180 bf181) :: t0)))) _
        rw [e0]
        refine r_seg (ws2 := ((ts184, .inr (12, [.ref tb185, .int (0 : Int32), .int (0 : Int32), .int (0 : Int32)])) :: ((tb185, yA g (((((((([] : List Int32) ++ kT 50) ++ txt k x) ++ kT 49) ++ kT 33) ++ kT 50) ++ txt k y) ++ kT 49).length tf186) :: t))) [[(ts184, .inr (12, [.ref tb185, .int (0 : Int32), .int (0 : Int32), .int (0 : Int32)]))], [(tb185, yA g (((((((([] : List Int32) ++ kT 50) ++ txt k x) ++ kT 49) ++ kT 33) ++ kT 50) ++ txt k y) ++ kT 49).length tf186)], [(q11, .inr (13, [.ref bv179, .int (0 : Int32), .int (0 : Int32), .int (nI (((((((([] : List Int32) ++ kT 50) ++ txt k x) ++ kT 49) ++ kT 33) ++ kT 50) ++ txt k y) ++ kT 49).length)]))], [(bv179, yA g bm180 bf181)], [(q4, qA g 7 4 (va_up (va_up (va_up (va_up (fun _ => none) 0 (some (gK g 43))) 1 (some (gK g 44))) 2 (some (gK g 45))) 3 (some (gK g 46))))], [(q3, qA g 7 5 (va_up (va_up (va_up (va_up (va_up (fun _ => none) 0 (some (gK g 38))) 1 (some (gK g 39))) 2 (some (gK g 40))) 3 (some (gK g 41))) 4 (some (gK g 42))))], [(q2, qA g 7 6 (va_up (va_up (va_up (va_up (va_up (va_up (fun _ => none) 0 (some (gK g 32))) 1 (some (gK g 33))) 2 (some (gK g 34))) 3 (some (gK g 35))) 4 (some (gK g 36))) 5 (some (gK g 37))))], [(q1, qA g 7 6 (va_up (va_up (va_up (va_up (va_up (va_up (fun _ => none) 0 (some (gK g iE))) 1 (some (gK g 27))) 2 (some (gK g 28))) 3 (some (gK g 29))) 4 (some (gK g 30))) 5 (some (gK g 31))))], t] [0, 1, 8] rfl rfl rfl ?_
        refine r_aret dX11_text_325 rfl rfl (Or.inr ⟨_, rfl⟩) ?_
        exact Dq.mk (Sum.inr (ts184, tb185, tf186)) rfl rfl th187
      · have hoK : (a, .inr (11, [.int (9 : Int32), .int (nI n), .int (nI o), .ref (tA k x), .ref (tA k y)])) ∈ t0 := mt _ ho
        have hE : txt (k + 1) ((a, 9, n, o), some x, some y) = (((((((([] : List Int32) ++ kT 50) ++ (txt k x)) ++ kT 49) ++ kT 34) ++ kT 50) ++ (txt k y)) ++ kT 49) := rfl
        rw [hE]
        show R g mX11_text (k + 1 + 8) ((16 * 2 ^ k - 16) + (16 * 2 ^ k - 16) + 12) ((33000 * 2 ^ k - 33000) + (33000 * 2 ^ k - 33000) + 32979) 128 [(4, .ref q4), (3, .ref q3), (2, .ref q2), (1, .ref q1), (0, .ref a)] [] t0 _
        refine r_aload_n 4 dX11_text_128 rfl ?_
        refine r_getm (v := .int (9 : Int32)) (ci := 11) (fs := [.int (9 : Int32), .int (nI n), .int (nI o), .ref (tA k x), .ref (tA k y)]) dX11_text_129 fl_X11_7 hoK rfl ?_
        refine r_if_ne (tgt := 158) dX11_text_132 (by decide) (fun _ => ?_) (fun hc => absurd hc (by decide))
        refine r_aload_n 4 dX11_text_158 rfl ?_
        refine r_getm (v := .int (9 : Int32)) (ci := 11) (fs := [.int (9 : Int32), .int (nI n), .int (nI o), .ref (tA k x), .ref (tA k y)]) dX11_text_159 fl_X11_7 hoK rfl ?_
        refine r_iconst (v := (4 : Int32)) dX11_text_162 (by decide) ?_
        refine r_icmp_ge (tgt := 173) dX11_text_163 (by decide) (fun _ => ?_) (fun hc => absurd (by decide) hc)
        refine r_aload_n 4 dX11_text_173 rfl ?_
        refine r_getm (v := .int (9 : Int32)) (ci := 11) (fs := [.int (9 : Int32), .int (nI n), .int (nI o), .ref (tA k x), .ref (tA k y)]) dX11_text_174 fl_X11_7 hoK rfl ?_
        refine r_bipush (v := (6 : Int32)) dX11_text_177 (by decide) ?_
        refine r_icmp_ge (tgt := 214) dX11_text_179 (by decide) (fun _ => ?_) (fun hc => absurd (by decide) hc)
        refine r_aload_n 4 dX11_text_214 rfl ?_
        refine r_getm (v := .int (9 : Int32)) (ci := 11) (fs := [.int (9 : Int32), .int (nI n), .int (nI o), .ref (tA k x), .ref (tA k y)]) dX11_text_215 fl_X11_7 hoK rfl ?_
        refine r_bipush (v := (6 : Int32)) dX11_text_218 (by decide) ?_
        refine r_icmp_ne (tgt := 254) dX11_text_220 (by decide) (fun _ => ?_) (fun hc => absurd hc (by decide))
        refine r_aload_n 4 dX11_text_254 rfl ?_
        refine r_getm (v := .int (9 : Int32)) (ci := 11) (fs := [.int (9 : Int32), .int (nI n), .int (nI o), .ref (tA k x), .ref (tA k y)]) dX11_text_255 fl_X11_7 hoK rfl ?_
        refine r_bipush (v := (11 : Int32)) dX11_text_258 (by decide) ?_
        refine r_icmp_ge (tgt := 326) dX11_text_260 (by decide) (fun hc => absurd hc (by decide)) (fun _ => ?_)
        refine r_new (N := 4) (x := ((16 * 2 ^ k - 16) + (16 * 2 ^ k - 16) + 11)) (y := ((33000 * 2 ^ k - 33000) + (33000 * 2 ^ k - 33000) + 32975)) dX11_text_263 nl_X11_110 (fun q12 => ?_)
        refine r_dup dX11_text_266 rfl ?_
        refine k_I (x := ((16 * 2 ^ k - 16) + (16 * 2 ^ k - 16) + 10)) (y := ((33000 * 2 ^ k - 33000) + (33000 * 2 ^ k - 33000) + 32959)) (rest := [.ref q12]) dX11_text_267 ki_X11_112 (cj_sb) rfl rfl (Nat.le_of_ble_eq_true rfl) (by omega) (by decide) ?_
        rintro bv188 -
        show R g mX11_text (k + 1 + 8) ((16 * 2 ^ k - 16) + (16 * 2 ^ k - 16) + 10) ((33000 * 2 ^ k - 33000) + (33000 * 2 ^ k - 33000) + 32959) 270 [(4, .ref q4), (3, .ref q3), (2, .ref q2), (1, .ref q1), (0, .ref a)] [.ref q12] ((q12, .inr (13, [.ref bv188, .int (0 : Int32), .int (0 : Int32), .int (nI ([] : List Int32).length)])) :: ((bv188, yA g 16 (fun _ => 0)) :: t0)) _
        refine r_ldcS (i := 50) dX11_text_270 rfl ?_
        have bn193 : (([] : List Int32) ++ kT 50).length ≤ 1 := lnA (L := ([] : List Int32)) (L2 := kT 50) (n := 0) (n2 := 1) (Nat.le_refl 0) (by decide)
        refine k_V (x := ((16 * 2 ^ k - 16) + (16 * 2 ^ k - 16) + 9)) (y := ((33000 * 2 ^ k - 33000) + (33000 * 2 ^ k - 33000) + 28957)) (rest := []) 0 dX11_text_272 kv_X11_113 (cj_apK (i := 50) (by decide) BL.nil (Nat.le_trans bn193 (by omega))) rfl rfl rfl rfl (Nat.le_of_ble_eq_true rfl) (by omega) (by decide) ?_
        rintro ⟨bv189, bm190, bf191⟩ bh192
        try dsimp only at bh192
        show R g mX11_text (k + 1 + 8) ((16 * 2 ^ k - 16) + (16 * 2 ^ k - 16) + 9) ((33000 * 2 ^ k - 33000) + (33000 * 2 ^ k - 33000) + 28957) 275 [(4, .ref q4), (3, .ref q3), (2, .ref q2), (1, .ref q1), (0, .ref a)] [.ref q12] ((q12, .inr (13, [.ref bv189, .int (0 : Int32), .int (0 : Int32), .int (nI (([] : List Int32) ++ kT 50).length)])) :: ((bv189, yA g bm190 bf191) :: t0)) _
        refine r_aload_n 4 dX11_text_275 rfl ?_
        refine r_getm (v := .ref (tA k x)) (ci := 11) (fs := [.int (9 : Int32), .int (nI n), .int (nI o), .ref (tA k x), .ref (tA k y)]) dX11_text_276 fl_X11_40 (List.mem_cons_of_mem _ (List.mem_cons_of_mem _ hoK)) rfl ?_
        obtain ⟨fszz194, hfzz194⟩ := TM.cell k x (hma x rfl)
        refine r_room (x2 := ((16 * 2 ^ k - 16) + 9) + (16 * 2 ^ k - 16)) (y2 := ((33000 * 2 ^ k - 33000) + 28957) + (33000 * 2 ^ k - 33000)) (by omega) (by omega) ?_
        refine k_Vm (x := ((16 * 2 ^ k - 16) + 9)) (y := ((33000 * 2 ^ k - 33000) + 28957)) (rest := [.ref q12]) dX11_text_279 kv_X11_128 (cl_text hn hne k x _ (by omega) (TM.mono (fun p hp => (List.mem_cons_of_mem _ (List.mem_cons_of_mem _ (mt p hp)))) k x (hma x rfl)) hx) rfl rfl (List.mem_cons_of_mem _ (List.mem_cons_of_mem _ (mt _ hfzz194))) rfl (Nat.le_of_ble_eq_true rfl) (by omega) (by decide) ?_
        rintro zz194 hz195
        refine r_seg (ws2 := ((q12, .inr (13, [.ref bv189, .int (0 : Int32), .int (0 : Int32), .int (nI (([] : List Int32) ++ kT 50).length)])) :: ((bv189, yA g bm190 bf191) :: ((sw g (txt k x).length zz194) ++ t0)))) [sw g (txt k x).length zz194, [(q12, .inr (13, [.ref bv189, .int (0 : Int32), .int (0 : Int32), .int (nI (([] : List Int32) ++ kT 50).length)]))], [(bv189, yA g bm190 bf191)], t0] [1, 2, 0, 3] rfl rfl rfl ?_
        have bn200 : ((([] : List Int32) ++ kT 50) ++ txt k x).length ≤ (1 + (12 * 2 ^ k - 7)) := lnA (L := (([] : List Int32) ++ kT 50)) (L2 := txt k x) (n := 1) (n2 := (12 * 2 ^ k - 7)) bn193 (txt_len (by omega) (by omega) k x hx)
        refine k_V (x := ((16 * 2 ^ k - 16) + 8)) (y := ((33000 * 2 ^ k - 33000) + 24955)) (rest := []) 0 dX11_text_282 kv_X11_113 (cj_apX (L2 := txt k x) (z := zz194) hz195 bh192 (Nat.le_trans bn200 (by omega))) rfl rfl rfl rfl (Nat.le_of_ble_eq_true rfl) (by omega) (by decide) ?_
        rintro ⟨bv196, bm197, bf198⟩ bh199
        try dsimp only at bh199
        show R g mX11_text (k + 1 + 8) ((16 * 2 ^ k - 16) + 8) ((33000 * 2 ^ k - 33000) + 24955) 285 [(4, .ref q4), (3, .ref q3), (2, .ref q2), (1, .ref q1), (0, .ref a)] [.ref q12] ((q12, .inr (13, [.ref bv196, .int (0 : Int32), .int (0 : Int32), .int (nI ((([] : List Int32) ++ kT 50) ++ txt k x).length)])) :: ((bv196, yA g bm197 bf198) :: ((sw g (txt k x).length zz194) ++ t0))) _
        refine r_seg (ws2 := ((q12, .inr (13, [.ref bv196, .int (0 : Int32), .int (0 : Int32), .int (nI ((([] : List Int32) ++ kT 50) ++ txt k x).length)])) :: ((bv196, yA g bm197 bf198) :: t0))) [[(q12, .inr (13, [.ref bv196, .int (0 : Int32), .int (0 : Int32), .int (nI ((([] : List Int32) ++ kT 50) ++ txt k x).length)]))], [(bv196, yA g bm197 bf198)], sw g (txt k x).length zz194, t0] [0, 1, 3] rfl rfl rfl ?_
        refine r_ldcS (i := 49) dX11_text_285 rfl ?_
        have bn205 : (((([] : List Int32) ++ kT 50) ++ txt k x) ++ kT 49).length ≤ ((1 + (12 * 2 ^ k - 7)) + 1) := lnA (L := ((([] : List Int32) ++ kT 50) ++ txt k x)) (L2 := kT 49) (n := (1 + (12 * 2 ^ k - 7))) (n2 := 1) bn200 (by decide)
        refine k_V (x := ((16 * 2 ^ k - 16) + 7)) (y := ((33000 * 2 ^ k - 33000) + 20953)) (rest := []) 0 dX11_text_287 kv_X11_113 (cj_apK (i := 49) (by decide) bh199 (Nat.le_trans bn205 (by omega))) rfl rfl rfl rfl (Nat.le_of_ble_eq_true rfl) (by omega) (by decide) ?_
        rintro ⟨bv201, bm202, bf203⟩ bh204
        try dsimp only at bh204
        show R g mX11_text (k + 1 + 8) ((16 * 2 ^ k - 16) + 7) ((33000 * 2 ^ k - 33000) + 20953) 290 [(4, .ref q4), (3, .ref q3), (2, .ref q2), (1, .ref q1), (0, .ref a)] [.ref q12] ((q12, .inr (13, [.ref bv201, .int (0 : Int32), .int (0 : Int32), .int (nI (((([] : List Int32) ++ kT 50) ++ txt k x) ++ kT 49).length)])) :: ((bv201, yA g bm202 bf203) :: t0)) _
        refine r_aload_n 2 dX11_text_290 rfl ?_
        refine r_aload_n 4 dX11_text_291 rfl ?_
        refine r_getm (v := .int (9 : Int32)) (ci := 11) (fs := [.int (9 : Int32), .int (nI n), .int (nI o), .ref (tA k x), .ref (tA k y)]) dX11_text_292 fl_X11_7 (List.mem_cons_of_mem _ (List.mem_cons_of_mem _ hoK)) rfl ?_
        refine r_bipush (v := (7 : Int32)) dX11_text_295 (by decide) ?_
        refine r_isub dX11_text_297 ?_
        refine r_aaldm (t := 7) (n := 6) (f := (va_up (va_up (va_up (va_up (va_up (va_up (fun _ => none) 0 (some (gK g 32))) 1 (some (gK g 33))) 2 (some (gK g 34))) 3 (some (gK g 35))) 4 (some (gK g 36))) 5 (some (gK g 37)))) (v := .ref (gK g 34)) dX11_text_298 rfl rfl (List.mem_cons_of_mem _ (List.mem_cons_of_mem _ m2)) (by decide) (by rfl) ?_
        have bn210 : ((((([] : List Int32) ++ kT 50) ++ txt k x) ++ kT 49) ++ kT 34).length ≤ (((1 + (12 * 2 ^ k - 7)) + 1) + 1) := lnA (L := (((([] : List Int32) ++ kT 50) ++ txt k x) ++ kT 49)) (L2 := kT 34) (n := ((1 + (12 * 2 ^ k - 7)) + 1)) (n2 := 1) bn205 (by decide)
        refine k_V (x := ((16 * 2 ^ k - 16) + 6)) (y := ((33000 * 2 ^ k - 33000) + 16951)) (rest := []) 0 dX11_text_299 kv_X11_113 (cj_apK (i := 34) (by decide) bh204 (Nat.le_trans bn210 (by omega))) rfl rfl rfl rfl (Nat.le_of_ble_eq_true rfl) (by omega) (by decide) ?_
        rintro ⟨bv206, bm207, bf208⟩ bh209
        try dsimp only at bh209
        show R g mX11_text (k + 1 + 8) ((16 * 2 ^ k - 16) + 6) ((33000 * 2 ^ k - 33000) + 16951) 302 [(4, .ref q4), (3, .ref q3), (2, .ref q2), (1, .ref q1), (0, .ref a)] [.ref q12] ((q12, .inr (13, [.ref bv206, .int (0 : Int32), .int (0 : Int32), .int (nI ((((([] : List Int32) ++ kT 50) ++ txt k x) ++ kT 49) ++ kT 34).length)])) :: ((bv206, yA g bm207 bf208) :: t0)) _
        refine r_ldcS (i := 50) dX11_text_302 rfl ?_
        have bn215 : (((((([] : List Int32) ++ kT 50) ++ txt k x) ++ kT 49) ++ kT 34) ++ kT 50).length ≤ ((((1 + (12 * 2 ^ k - 7)) + 1) + 1) + 1) := lnA (L := ((((([] : List Int32) ++ kT 50) ++ txt k x) ++ kT 49) ++ kT 34)) (L2 := kT 50) (n := (((1 + (12 * 2 ^ k - 7)) + 1) + 1)) (n2 := 1) bn210 (by decide)
        refine k_V (x := ((16 * 2 ^ k - 16) + 5)) (y := ((33000 * 2 ^ k - 33000) + 12949)) (rest := []) 0 dX11_text_304 kv_X11_113 (cj_apK (i := 50) (by decide) bh209 (Nat.le_trans bn215 (by omega))) rfl rfl rfl rfl (Nat.le_of_ble_eq_true rfl) (by omega) (by decide) ?_
        rintro ⟨bv211, bm212, bf213⟩ bh214
        try dsimp only at bh214
        show R g mX11_text (k + 1 + 8) ((16 * 2 ^ k - 16) + 5) ((33000 * 2 ^ k - 33000) + 12949) 307 [(4, .ref q4), (3, .ref q3), (2, .ref q2), (1, .ref q1), (0, .ref a)] [.ref q12] ((q12, .inr (13, [.ref bv211, .int (0 : Int32), .int (0 : Int32), .int (nI (((((([] : List Int32) ++ kT 50) ++ txt k x) ++ kT 49) ++ kT 34) ++ kT 50).length)])) :: ((bv211, yA g bm212 bf213) :: t0)) _
        refine r_aload_n 4 dX11_text_307 rfl ?_
        refine r_getm (v := .ref (tA k y)) (ci := 11) (fs := [.int (9 : Int32), .int (nI n), .int (nI o), .ref (tA k x), .ref (tA k y)]) dX11_text_308 fl_X11_59 (List.mem_cons_of_mem _ (List.mem_cons_of_mem _ hoK)) rfl ?_
        obtain ⟨fszz216, hfzz216⟩ := TM.cell k y (hmb y rfl)
        refine r_room (x2 := 5 + (16 * 2 ^ k - 16)) (y2 := 12949 + (33000 * 2 ^ k - 33000)) (by omega) (by omega) ?_
        refine k_Vm (x := 5) (y := 12949) (rest := [.ref q12]) dX11_text_311 kv_X11_128 (cl_text hn hne k y _ (by omega) (TM.mono (fun p hp => (List.mem_cons_of_mem _ (List.mem_cons_of_mem _ (mt p hp)))) k y (hmb y rfl)) hy) rfl rfl (List.mem_cons_of_mem _ (List.mem_cons_of_mem _ (mt _ hfzz216))) rfl (Nat.le_of_ble_eq_true rfl) (by omega) (by decide) ?_
        rintro zz216 hz217
        refine r_seg (ws2 := ((q12, .inr (13, [.ref bv211, .int (0 : Int32), .int (0 : Int32), .int (nI (((((([] : List Int32) ++ kT 50) ++ txt k x) ++ kT 49) ++ kT 34) ++ kT 50).length)])) :: ((bv211, yA g bm212 bf213) :: ((sw g (txt k y).length zz216) ++ t0)))) [sw g (txt k y).length zz216, [(q12, .inr (13, [.ref bv211, .int (0 : Int32), .int (0 : Int32), .int (nI (((((([] : List Int32) ++ kT 50) ++ txt k x) ++ kT 49) ++ kT 34) ++ kT 50).length)]))], [(bv211, yA g bm212 bf213)], t0] [1, 2, 0, 3] rfl rfl rfl ?_
        have bn222 : ((((((([] : List Int32) ++ kT 50) ++ txt k x) ++ kT 49) ++ kT 34) ++ kT 50) ++ txt k y).length ≤ (((((1 + (12 * 2 ^ k - 7)) + 1) + 1) + 1) + (12 * 2 ^ k - 7)) := lnA (L := (((((([] : List Int32) ++ kT 50) ++ txt k x) ++ kT 49) ++ kT 34) ++ kT 50)) (L2 := txt k y) (n := ((((1 + (12 * 2 ^ k - 7)) + 1) + 1) + 1)) (n2 := (12 * 2 ^ k - 7)) bn215 (txt_len (by omega) (by omega) k y hy)
        refine k_V (x := 4) (y := 8947) (rest := []) 0 dX11_text_314 kv_X11_113 (cj_apX (L2 := txt k y) (z := zz216) hz217 bh214 (Nat.le_trans bn222 (by omega))) rfl rfl rfl rfl (Nat.le_of_ble_eq_true rfl) (by omega) (by decide) ?_
        rintro ⟨bv218, bm219, bf220⟩ bh221
        try dsimp only at bh221
        show R g mX11_text (k + 1 + 8) 4 8947 317 [(4, .ref q4), (3, .ref q3), (2, .ref q2), (1, .ref q1), (0, .ref a)] [.ref q12] ((q12, .inr (13, [.ref bv218, .int (0 : Int32), .int (0 : Int32), .int (nI ((((((([] : List Int32) ++ kT 50) ++ txt k x) ++ kT 49) ++ kT 34) ++ kT 50) ++ txt k y).length)])) :: ((bv218, yA g bm219 bf220) :: ((sw g (txt k y).length zz216) ++ t0))) _
        refine r_seg (ws2 := ((q12, .inr (13, [.ref bv218, .int (0 : Int32), .int (0 : Int32), .int (nI ((((((([] : List Int32) ++ kT 50) ++ txt k x) ++ kT 49) ++ kT 34) ++ kT 50) ++ txt k y).length)])) :: ((bv218, yA g bm219 bf220) :: t0))) [[(q12, .inr (13, [.ref bv218, .int (0 : Int32), .int (0 : Int32), .int (nI ((((((([] : List Int32) ++ kT 50) ++ txt k x) ++ kT 49) ++ kT 34) ++ kT 50) ++ txt k y).length)]))], [(bv218, yA g bm219 bf220)], sw g (txt k y).length zz216, t0] [0, 1, 3] rfl rfl rfl ?_
        refine r_ldcS (i := 49) dX11_text_317 rfl ?_
        have bn227 : (((((((([] : List Int32) ++ kT 50) ++ txt k x) ++ kT 49) ++ kT 34) ++ kT 50) ++ txt k y) ++ kT 49).length ≤ ((((((1 + (12 * 2 ^ k - 7)) + 1) + 1) + 1) + (12 * 2 ^ k - 7)) + 1) := lnA (L := ((((((([] : List Int32) ++ kT 50) ++ txt k x) ++ kT 49) ++ kT 34) ++ kT 50) ++ txt k y)) (L2 := kT 49) (n := (((((1 + (12 * 2 ^ k - 7)) + 1) + 1) + 1) + (12 * 2 ^ k - 7))) (n2 := 1) bn222 (by decide)
        refine k_V (x := 3) (y := 4945) (rest := []) 0 dX11_text_319 kv_X11_113 (cj_apK (i := 49) (by decide) bh221 (Nat.le_trans bn227 (by omega))) rfl rfl rfl rfl (Nat.le_of_ble_eq_true rfl) (by omega) (by decide) ?_
        rintro ⟨bv223, bm224, bf225⟩ bh226
        try dsimp only at bh226
        show R g mX11_text (k + 1 + 8) 3 4945 322 [(4, .ref q4), (3, .ref q3), (2, .ref q2), (1, .ref q1), (0, .ref a)] [.ref q12] ((q12, .inr (13, [.ref bv223, .int (0 : Int32), .int (0 : Int32), .int (nI (((((((([] : List Int32) ++ kT 50) ++ txt k x) ++ kT 49) ++ kT 34) ++ kT 50) ++ txt k y) ++ kT 49).length)])) :: ((bv223, yA g bm224 bf225) :: t0)) _
        refine k_V (x := 1) (y := 939) (rest := []) 0 dX11_text_322 kv_X11_120 (cj_strB bh226) rfl rfl rfl rfl (Nat.le_of_ble_eq_true rfl) (by omega) (by decide) ?_
        rintro ⟨ts228, tb229, tf230⟩ th231
        try dsimp only at th231
        show R g mX11_text (k + 1 + 8) 1 939 325 [(4, .ref q4), (3, .ref q3), (2, .ref q2), (1, .ref q1), (0, .ref a)] [.ref ts228] ((ts228, .inr (12, [.ref tb229, .int (0 : Int32), .int (0 : Int32), .int (0 : Int32)])) :: ((tb229, yA g (((((((([] : List Int32) ++ kT 50) ++ txt k x) ++ kT 49) ++ kT 34) ++ kT 50) ++ txt k y) ++ kT 49).length tf230) :: ((q12, .inr (13, [.ref bv223, .int (0 : Int32), .int (0 : Int32), .int (nI (((((((([] : List Int32) ++ kT 50) ++ txt k x) ++ kT 49) ++ kT 34) ++ kT 50) ++ txt k y) ++ kT 49).length)])) :: ((bv223, yA g bm224 bf225) :: t0)))) _
        rw [e0]
        refine r_seg (ws2 := ((ts228, .inr (12, [.ref tb229, .int (0 : Int32), .int (0 : Int32), .int (0 : Int32)])) :: ((tb229, yA g (((((((([] : List Int32) ++ kT 50) ++ txt k x) ++ kT 49) ++ kT 34) ++ kT 50) ++ txt k y) ++ kT 49).length tf230) :: t))) [[(ts228, .inr (12, [.ref tb229, .int (0 : Int32), .int (0 : Int32), .int (0 : Int32)]))], [(tb229, yA g (((((((([] : List Int32) ++ kT 50) ++ txt k x) ++ kT 49) ++ kT 34) ++ kT 50) ++ txt k y) ++ kT 49).length tf230)], [(q12, .inr (13, [.ref bv223, .int (0 : Int32), .int (0 : Int32), .int (nI (((((((([] : List Int32) ++ kT 50) ++ txt k x) ++ kT 49) ++ kT 34) ++ kT 50) ++ txt k y) ++ kT 49).length)]))], [(bv223, yA g bm224 bf225)], [(q4, qA g 7 4 (va_up (va_up (va_up (va_up (fun _ => none) 0 (some (gK g 43))) 1 (some (gK g 44))) 2 (some (gK g 45))) 3 (some (gK g 46))))], [(q3, qA g 7 5 (va_up (va_up (va_up (va_up (va_up (fun _ => none) 0 (some (gK g 38))) 1 (some (gK g 39))) 2 (some (gK g 40))) 3 (some (gK g 41))) 4 (some (gK g 42))))], [(q2, qA g 7 6 (va_up (va_up (va_up (va_up (va_up (va_up (fun _ => none) 0 (some (gK g 32))) 1 (some (gK g 33))) 2 (some (gK g 34))) 3 (some (gK g 35))) 4 (some (gK g 36))) 5 (some (gK g 37))))], [(q1, qA g 7 6 (va_up (va_up (va_up (va_up (va_up (va_up (fun _ => none) 0 (some (gK g iE))) 1 (some (gK g 27))) 2 (some (gK g 28))) 3 (some (gK g 29))) 4 (some (gK g 30))) 5 (some (gK g 31))))], t] [0, 1, 8] rfl rfl rfl ?_
        refine r_aret dX11_text_325 rfl rfl (Or.inr ⟨_, rfl⟩) ?_
        exact Dq.mk (Sum.inr (ts228, tb229, tf230)) rfl rfl th231
      · have hoK : (a, .inr (11, [.int (10 : Int32), .int (nI n), .int (nI o), .ref (tA k x), .ref (tA k y)])) ∈ t0 := mt _ ho
        have hE : txt (k + 1) ((a, 10, n, o), some x, some y) = (((((((([] : List Int32) ++ kT 50) ++ (txt k x)) ++ kT 49) ++ kT 35) ++ kT 50) ++ (txt k y)) ++ kT 49) := rfl
        rw [hE]
        show R g mX11_text (k + 1 + 8) ((16 * 2 ^ k - 16) + (16 * 2 ^ k - 16) + 12) ((33000 * 2 ^ k - 33000) + (33000 * 2 ^ k - 33000) + 32979) 128 [(4, .ref q4), (3, .ref q3), (2, .ref q2), (1, .ref q1), (0, .ref a)] [] t0 _
        refine r_aload_n 4 dX11_text_128 rfl ?_
        refine r_getm (v := .int (10 : Int32)) (ci := 11) (fs := [.int (10 : Int32), .int (nI n), .int (nI o), .ref (tA k x), .ref (tA k y)]) dX11_text_129 fl_X11_7 hoK rfl ?_
        refine r_if_ne (tgt := 158) dX11_text_132 (by decide) (fun _ => ?_) (fun hc => absurd hc (by decide))
        refine r_aload_n 4 dX11_text_158 rfl ?_
        refine r_getm (v := .int (10 : Int32)) (ci := 11) (fs := [.int (10 : Int32), .int (nI n), .int (nI o), .ref (tA k x), .ref (tA k y)]) dX11_text_159 fl_X11_7 hoK rfl ?_
        refine r_iconst (v := (4 : Int32)) dX11_text_162 (by decide) ?_
        refine r_icmp_ge (tgt := 173) dX11_text_163 (by decide) (fun _ => ?_) (fun hc => absurd (by decide) hc)
        refine r_aload_n 4 dX11_text_173 rfl ?_
        refine r_getm (v := .int (10 : Int32)) (ci := 11) (fs := [.int (10 : Int32), .int (nI n), .int (nI o), .ref (tA k x), .ref (tA k y)]) dX11_text_174 fl_X11_7 hoK rfl ?_
        refine r_bipush (v := (6 : Int32)) dX11_text_177 (by decide) ?_
        refine r_icmp_ge (tgt := 214) dX11_text_179 (by decide) (fun _ => ?_) (fun hc => absurd (by decide) hc)
        refine r_aload_n 4 dX11_text_214 rfl ?_
        refine r_getm (v := .int (10 : Int32)) (ci := 11) (fs := [.int (10 : Int32), .int (nI n), .int (nI o), .ref (tA k x), .ref (tA k y)]) dX11_text_215 fl_X11_7 hoK rfl ?_
        refine r_bipush (v := (6 : Int32)) dX11_text_218 (by decide) ?_
        refine r_icmp_ne (tgt := 254) dX11_text_220 (by decide) (fun _ => ?_) (fun hc => absurd hc (by decide))
        refine r_aload_n 4 dX11_text_254 rfl ?_
        refine r_getm (v := .int (10 : Int32)) (ci := 11) (fs := [.int (10 : Int32), .int (nI n), .int (nI o), .ref (tA k x), .ref (tA k y)]) dX11_text_255 fl_X11_7 hoK rfl ?_
        refine r_bipush (v := (11 : Int32)) dX11_text_258 (by decide) ?_
        refine r_icmp_ge (tgt := 326) dX11_text_260 (by decide) (fun hc => absurd hc (by decide)) (fun _ => ?_)
        refine r_new (N := 4) (x := ((16 * 2 ^ k - 16) + (16 * 2 ^ k - 16) + 11)) (y := ((33000 * 2 ^ k - 33000) + (33000 * 2 ^ k - 33000) + 32975)) dX11_text_263 nl_X11_110 (fun q13 => ?_)
        refine r_dup dX11_text_266 rfl ?_
        refine k_I (x := ((16 * 2 ^ k - 16) + (16 * 2 ^ k - 16) + 10)) (y := ((33000 * 2 ^ k - 33000) + (33000 * 2 ^ k - 33000) + 32959)) (rest := [.ref q13]) dX11_text_267 ki_X11_112 (cj_sb) rfl rfl (Nat.le_of_ble_eq_true rfl) (by omega) (by decide) ?_
        rintro bv232 -
        show R g mX11_text (k + 1 + 8) ((16 * 2 ^ k - 16) + (16 * 2 ^ k - 16) + 10) ((33000 * 2 ^ k - 33000) + (33000 * 2 ^ k - 33000) + 32959) 270 [(4, .ref q4), (3, .ref q3), (2, .ref q2), (1, .ref q1), (0, .ref a)] [.ref q13] ((q13, .inr (13, [.ref bv232, .int (0 : Int32), .int (0 : Int32), .int (nI ([] : List Int32).length)])) :: ((bv232, yA g 16 (fun _ => 0)) :: t0)) _
        refine r_ldcS (i := 50) dX11_text_270 rfl ?_
        have bn237 : (([] : List Int32) ++ kT 50).length ≤ 1 := lnA (L := ([] : List Int32)) (L2 := kT 50) (n := 0) (n2 := 1) (Nat.le_refl 0) (by decide)
        refine k_V (x := ((16 * 2 ^ k - 16) + (16 * 2 ^ k - 16) + 9)) (y := ((33000 * 2 ^ k - 33000) + (33000 * 2 ^ k - 33000) + 28957)) (rest := []) 0 dX11_text_272 kv_X11_113 (cj_apK (i := 50) (by decide) BL.nil (Nat.le_trans bn237 (by omega))) rfl rfl rfl rfl (Nat.le_of_ble_eq_true rfl) (by omega) (by decide) ?_
        rintro ⟨bv233, bm234, bf235⟩ bh236
        try dsimp only at bh236
        show R g mX11_text (k + 1 + 8) ((16 * 2 ^ k - 16) + (16 * 2 ^ k - 16) + 9) ((33000 * 2 ^ k - 33000) + (33000 * 2 ^ k - 33000) + 28957) 275 [(4, .ref q4), (3, .ref q3), (2, .ref q2), (1, .ref q1), (0, .ref a)] [.ref q13] ((q13, .inr (13, [.ref bv233, .int (0 : Int32), .int (0 : Int32), .int (nI (([] : List Int32) ++ kT 50).length)])) :: ((bv233, yA g bm234 bf235) :: t0)) _
        refine r_aload_n 4 dX11_text_275 rfl ?_
        refine r_getm (v := .ref (tA k x)) (ci := 11) (fs := [.int (10 : Int32), .int (nI n), .int (nI o), .ref (tA k x), .ref (tA k y)]) dX11_text_276 fl_X11_40 (List.mem_cons_of_mem _ (List.mem_cons_of_mem _ hoK)) rfl ?_
        obtain ⟨fszz238, hfzz238⟩ := TM.cell k x (hma x rfl)
        refine r_room (x2 := ((16 * 2 ^ k - 16) + 9) + (16 * 2 ^ k - 16)) (y2 := ((33000 * 2 ^ k - 33000) + 28957) + (33000 * 2 ^ k - 33000)) (by omega) (by omega) ?_
        refine k_Vm (x := ((16 * 2 ^ k - 16) + 9)) (y := ((33000 * 2 ^ k - 33000) + 28957)) (rest := [.ref q13]) dX11_text_279 kv_X11_128 (cl_text hn hne k x _ (by omega) (TM.mono (fun p hp => (List.mem_cons_of_mem _ (List.mem_cons_of_mem _ (mt p hp)))) k x (hma x rfl)) hx) rfl rfl (List.mem_cons_of_mem _ (List.mem_cons_of_mem _ (mt _ hfzz238))) rfl (Nat.le_of_ble_eq_true rfl) (by omega) (by decide) ?_
        rintro zz238 hz239
        refine r_seg (ws2 := ((q13, .inr (13, [.ref bv233, .int (0 : Int32), .int (0 : Int32), .int (nI (([] : List Int32) ++ kT 50).length)])) :: ((bv233, yA g bm234 bf235) :: ((sw g (txt k x).length zz238) ++ t0)))) [sw g (txt k x).length zz238, [(q13, .inr (13, [.ref bv233, .int (0 : Int32), .int (0 : Int32), .int (nI (([] : List Int32) ++ kT 50).length)]))], [(bv233, yA g bm234 bf235)], t0] [1, 2, 0, 3] rfl rfl rfl ?_
        have bn244 : ((([] : List Int32) ++ kT 50) ++ txt k x).length ≤ (1 + (12 * 2 ^ k - 7)) := lnA (L := (([] : List Int32) ++ kT 50)) (L2 := txt k x) (n := 1) (n2 := (12 * 2 ^ k - 7)) bn237 (txt_len (by omega) (by omega) k x hx)
        refine k_V (x := ((16 * 2 ^ k - 16) + 8)) (y := ((33000 * 2 ^ k - 33000) + 24955)) (rest := []) 0 dX11_text_282 kv_X11_113 (cj_apX (L2 := txt k x) (z := zz238) hz239 bh236 (Nat.le_trans bn244 (by omega))) rfl rfl rfl rfl (Nat.le_of_ble_eq_true rfl) (by omega) (by decide) ?_
        rintro ⟨bv240, bm241, bf242⟩ bh243
        try dsimp only at bh243
        show R g mX11_text (k + 1 + 8) ((16 * 2 ^ k - 16) + 8) ((33000 * 2 ^ k - 33000) + 24955) 285 [(4, .ref q4), (3, .ref q3), (2, .ref q2), (1, .ref q1), (0, .ref a)] [.ref q13] ((q13, .inr (13, [.ref bv240, .int (0 : Int32), .int (0 : Int32), .int (nI ((([] : List Int32) ++ kT 50) ++ txt k x).length)])) :: ((bv240, yA g bm241 bf242) :: ((sw g (txt k x).length zz238) ++ t0))) _
        refine r_seg (ws2 := ((q13, .inr (13, [.ref bv240, .int (0 : Int32), .int (0 : Int32), .int (nI ((([] : List Int32) ++ kT 50) ++ txt k x).length)])) :: ((bv240, yA g bm241 bf242) :: t0))) [[(q13, .inr (13, [.ref bv240, .int (0 : Int32), .int (0 : Int32), .int (nI ((([] : List Int32) ++ kT 50) ++ txt k x).length)]))], [(bv240, yA g bm241 bf242)], sw g (txt k x).length zz238, t0] [0, 1, 3] rfl rfl rfl ?_
        refine r_ldcS (i := 49) dX11_text_285 rfl ?_
        have bn249 : (((([] : List Int32) ++ kT 50) ++ txt k x) ++ kT 49).length ≤ ((1 + (12 * 2 ^ k - 7)) + 1) := lnA (L := ((([] : List Int32) ++ kT 50) ++ txt k x)) (L2 := kT 49) (n := (1 + (12 * 2 ^ k - 7))) (n2 := 1) bn244 (by decide)
        refine k_V (x := ((16 * 2 ^ k - 16) + 7)) (y := ((33000 * 2 ^ k - 33000) + 20953)) (rest := []) 0 dX11_text_287 kv_X11_113 (cj_apK (i := 49) (by decide) bh243 (Nat.le_trans bn249 (by omega))) rfl rfl rfl rfl (Nat.le_of_ble_eq_true rfl) (by omega) (by decide) ?_
        rintro ⟨bv245, bm246, bf247⟩ bh248
        try dsimp only at bh248
        show R g mX11_text (k + 1 + 8) ((16 * 2 ^ k - 16) + 7) ((33000 * 2 ^ k - 33000) + 20953) 290 [(4, .ref q4), (3, .ref q3), (2, .ref q2), (1, .ref q1), (0, .ref a)] [.ref q13] ((q13, .inr (13, [.ref bv245, .int (0 : Int32), .int (0 : Int32), .int (nI (((([] : List Int32) ++ kT 50) ++ txt k x) ++ kT 49).length)])) :: ((bv245, yA g bm246 bf247) :: t0)) _
        refine r_aload_n 2 dX11_text_290 rfl ?_
        refine r_aload_n 4 dX11_text_291 rfl ?_
        refine r_getm (v := .int (10 : Int32)) (ci := 11) (fs := [.int (10 : Int32), .int (nI n), .int (nI o), .ref (tA k x), .ref (tA k y)]) dX11_text_292 fl_X11_7 (List.mem_cons_of_mem _ (List.mem_cons_of_mem _ hoK)) rfl ?_
        refine r_bipush (v := (7 : Int32)) dX11_text_295 (by decide) ?_
        refine r_isub dX11_text_297 ?_
        refine r_aaldm (t := 7) (n := 6) (f := (va_up (va_up (va_up (va_up (va_up (va_up (fun _ => none) 0 (some (gK g 32))) 1 (some (gK g 33))) 2 (some (gK g 34))) 3 (some (gK g 35))) 4 (some (gK g 36))) 5 (some (gK g 37)))) (v := .ref (gK g 35)) dX11_text_298 rfl rfl (List.mem_cons_of_mem _ (List.mem_cons_of_mem _ m2)) (by decide) (by rfl) ?_
        have bn254 : ((((([] : List Int32) ++ kT 50) ++ txt k x) ++ kT 49) ++ kT 35).length ≤ (((1 + (12 * 2 ^ k - 7)) + 1) + 1) := lnA (L := (((([] : List Int32) ++ kT 50) ++ txt k x) ++ kT 49)) (L2 := kT 35) (n := ((1 + (12 * 2 ^ k - 7)) + 1)) (n2 := 1) bn249 (by decide)
        refine k_V (x := ((16 * 2 ^ k - 16) + 6)) (y := ((33000 * 2 ^ k - 33000) + 16951)) (rest := []) 0 dX11_text_299 kv_X11_113 (cj_apK (i := 35) (by decide) bh248 (Nat.le_trans bn254 (by omega))) rfl rfl rfl rfl (Nat.le_of_ble_eq_true rfl) (by omega) (by decide) ?_
        rintro ⟨bv250, bm251, bf252⟩ bh253
        try dsimp only at bh253
        show R g mX11_text (k + 1 + 8) ((16 * 2 ^ k - 16) + 6) ((33000 * 2 ^ k - 33000) + 16951) 302 [(4, .ref q4), (3, .ref q3), (2, .ref q2), (1, .ref q1), (0, .ref a)] [.ref q13] ((q13, .inr (13, [.ref bv250, .int (0 : Int32), .int (0 : Int32), .int (nI ((((([] : List Int32) ++ kT 50) ++ txt k x) ++ kT 49) ++ kT 35).length)])) :: ((bv250, yA g bm251 bf252) :: t0)) _
        refine r_ldcS (i := 50) dX11_text_302 rfl ?_
        have bn259 : (((((([] : List Int32) ++ kT 50) ++ txt k x) ++ kT 49) ++ kT 35) ++ kT 50).length ≤ ((((1 + (12 * 2 ^ k - 7)) + 1) + 1) + 1) := lnA (L := ((((([] : List Int32) ++ kT 50) ++ txt k x) ++ kT 49) ++ kT 35)) (L2 := kT 50) (n := (((1 + (12 * 2 ^ k - 7)) + 1) + 1)) (n2 := 1) bn254 (by decide)
        refine k_V (x := ((16 * 2 ^ k - 16) + 5)) (y := ((33000 * 2 ^ k - 33000) + 12949)) (rest := []) 0 dX11_text_304 kv_X11_113 (cj_apK (i := 50) (by decide) bh253 (Nat.le_trans bn259 (by omega))) rfl rfl rfl rfl (Nat.le_of_ble_eq_true rfl) (by omega) (by decide) ?_
        rintro ⟨bv255, bm256, bf257⟩ bh258
        try dsimp only at bh258
        show R g mX11_text (k + 1 + 8) ((16 * 2 ^ k - 16) + 5) ((33000 * 2 ^ k - 33000) + 12949) 307 [(4, .ref q4), (3, .ref q3), (2, .ref q2), (1, .ref q1), (0, .ref a)] [.ref q13] ((q13, .inr (13, [.ref bv255, .int (0 : Int32), .int (0 : Int32), .int (nI (((((([] : List Int32) ++ kT 50) ++ txt k x) ++ kT 49) ++ kT 35) ++ kT 50).length)])) :: ((bv255, yA g bm256 bf257) :: t0)) _
        refine r_aload_n 4 dX11_text_307 rfl ?_
        refine r_getm (v := .ref (tA k y)) (ci := 11) (fs := [.int (10 : Int32), .int (nI n), .int (nI o), .ref (tA k x), .ref (tA k y)]) dX11_text_308 fl_X11_59 (List.mem_cons_of_mem _ (List.mem_cons_of_mem _ hoK)) rfl ?_
        obtain ⟨fszz260, hfzz260⟩ := TM.cell k y (hmb y rfl)
        refine r_room (x2 := 5 + (16 * 2 ^ k - 16)) (y2 := 12949 + (33000 * 2 ^ k - 33000)) (by omega) (by omega) ?_
        refine k_Vm (x := 5) (y := 12949) (rest := [.ref q13]) dX11_text_311 kv_X11_128 (cl_text hn hne k y _ (by omega) (TM.mono (fun p hp => (List.mem_cons_of_mem _ (List.mem_cons_of_mem _ (mt p hp)))) k y (hmb y rfl)) hy) rfl rfl (List.mem_cons_of_mem _ (List.mem_cons_of_mem _ (mt _ hfzz260))) rfl (Nat.le_of_ble_eq_true rfl) (by omega) (by decide) ?_
        rintro zz260 hz261
        refine r_seg (ws2 := ((q13, .inr (13, [.ref bv255, .int (0 : Int32), .int (0 : Int32), .int (nI (((((([] : List Int32) ++ kT 50) ++ txt k x) ++ kT 49) ++ kT 35) ++ kT 50).length)])) :: ((bv255, yA g bm256 bf257) :: ((sw g (txt k y).length zz260) ++ t0)))) [sw g (txt k y).length zz260, [(q13, .inr (13, [.ref bv255, .int (0 : Int32), .int (0 : Int32), .int (nI (((((([] : List Int32) ++ kT 50) ++ txt k x) ++ kT 49) ++ kT 35) ++ kT 50).length)]))], [(bv255, yA g bm256 bf257)], t0] [1, 2, 0, 3] rfl rfl rfl ?_
        have bn266 : ((((((([] : List Int32) ++ kT 50) ++ txt k x) ++ kT 49) ++ kT 35) ++ kT 50) ++ txt k y).length ≤ (((((1 + (12 * 2 ^ k - 7)) + 1) + 1) + 1) + (12 * 2 ^ k - 7)) := lnA (L := (((((([] : List Int32) ++ kT 50) ++ txt k x) ++ kT 49) ++ kT 35) ++ kT 50)) (L2 := txt k y) (n := ((((1 + (12 * 2 ^ k - 7)) + 1) + 1) + 1)) (n2 := (12 * 2 ^ k - 7)) bn259 (txt_len (by omega) (by omega) k y hy)
        refine k_V (x := 4) (y := 8947) (rest := []) 0 dX11_text_314 kv_X11_113 (cj_apX (L2 := txt k y) (z := zz260) hz261 bh258 (Nat.le_trans bn266 (by omega))) rfl rfl rfl rfl (Nat.le_of_ble_eq_true rfl) (by omega) (by decide) ?_
        rintro ⟨bv262, bm263, bf264⟩ bh265
        try dsimp only at bh265
        show R g mX11_text (k + 1 + 8) 4 8947 317 [(4, .ref q4), (3, .ref q3), (2, .ref q2), (1, .ref q1), (0, .ref a)] [.ref q13] ((q13, .inr (13, [.ref bv262, .int (0 : Int32), .int (0 : Int32), .int (nI ((((((([] : List Int32) ++ kT 50) ++ txt k x) ++ kT 49) ++ kT 35) ++ kT 50) ++ txt k y).length)])) :: ((bv262, yA g bm263 bf264) :: ((sw g (txt k y).length zz260) ++ t0))) _
        refine r_seg (ws2 := ((q13, .inr (13, [.ref bv262, .int (0 : Int32), .int (0 : Int32), .int (nI ((((((([] : List Int32) ++ kT 50) ++ txt k x) ++ kT 49) ++ kT 35) ++ kT 50) ++ txt k y).length)])) :: ((bv262, yA g bm263 bf264) :: t0))) [[(q13, .inr (13, [.ref bv262, .int (0 : Int32), .int (0 : Int32), .int (nI ((((((([] : List Int32) ++ kT 50) ++ txt k x) ++ kT 49) ++ kT 35) ++ kT 50) ++ txt k y).length)]))], [(bv262, yA g bm263 bf264)], sw g (txt k y).length zz260, t0] [0, 1, 3] rfl rfl rfl ?_
        refine r_ldcS (i := 49) dX11_text_317 rfl ?_
        have bn271 : (((((((([] : List Int32) ++ kT 50) ++ txt k x) ++ kT 49) ++ kT 35) ++ kT 50) ++ txt k y) ++ kT 49).length ≤ ((((((1 + (12 * 2 ^ k - 7)) + 1) + 1) + 1) + (12 * 2 ^ k - 7)) + 1) := lnA (L := ((((((([] : List Int32) ++ kT 50) ++ txt k x) ++ kT 49) ++ kT 35) ++ kT 50) ++ txt k y)) (L2 := kT 49) (n := (((((1 + (12 * 2 ^ k - 7)) + 1) + 1) + 1) + (12 * 2 ^ k - 7))) (n2 := 1) bn266 (by decide)
        refine k_V (x := 3) (y := 4945) (rest := []) 0 dX11_text_319 kv_X11_113 (cj_apK (i := 49) (by decide) bh265 (Nat.le_trans bn271 (by omega))) rfl rfl rfl rfl (Nat.le_of_ble_eq_true rfl) (by omega) (by decide) ?_
        rintro ⟨bv267, bm268, bf269⟩ bh270
        try dsimp only at bh270
        show R g mX11_text (k + 1 + 8) 3 4945 322 [(4, .ref q4), (3, .ref q3), (2, .ref q2), (1, .ref q1), (0, .ref a)] [.ref q13] ((q13, .inr (13, [.ref bv267, .int (0 : Int32), .int (0 : Int32), .int (nI (((((((([] : List Int32) ++ kT 50) ++ txt k x) ++ kT 49) ++ kT 35) ++ kT 50) ++ txt k y) ++ kT 49).length)])) :: ((bv267, yA g bm268 bf269) :: t0)) _
        refine k_V (x := 1) (y := 939) (rest := []) 0 dX11_text_322 kv_X11_120 (cj_strB bh270) rfl rfl rfl rfl (Nat.le_of_ble_eq_true rfl) (by omega) (by decide) ?_
        rintro ⟨ts272, tb273, tf274⟩ th275
        try dsimp only at th275
        show R g mX11_text (k + 1 + 8) 1 939 325 [(4, .ref q4), (3, .ref q3), (2, .ref q2), (1, .ref q1), (0, .ref a)] [.ref ts272] ((ts272, .inr (12, [.ref tb273, .int (0 : Int32), .int (0 : Int32), .int (0 : Int32)])) :: ((tb273, yA g (((((((([] : List Int32) ++ kT 50) ++ txt k x) ++ kT 49) ++ kT 35) ++ kT 50) ++ txt k y) ++ kT 49).length tf274) :: ((q13, .inr (13, [.ref bv267, .int (0 : Int32), .int (0 : Int32), .int (nI (((((((([] : List Int32) ++ kT 50) ++ txt k x) ++ kT 49) ++ kT 35) ++ kT 50) ++ txt k y) ++ kT 49).length)])) :: ((bv267, yA g bm268 bf269) :: t0)))) _
        rw [e0]
        refine r_seg (ws2 := ((ts272, .inr (12, [.ref tb273, .int (0 : Int32), .int (0 : Int32), .int (0 : Int32)])) :: ((tb273, yA g (((((((([] : List Int32) ++ kT 50) ++ txt k x) ++ kT 49) ++ kT 35) ++ kT 50) ++ txt k y) ++ kT 49).length tf274) :: t))) [[(ts272, .inr (12, [.ref tb273, .int (0 : Int32), .int (0 : Int32), .int (0 : Int32)]))], [(tb273, yA g (((((((([] : List Int32) ++ kT 50) ++ txt k x) ++ kT 49) ++ kT 35) ++ kT 50) ++ txt k y) ++ kT 49).length tf274)], [(q13, .inr (13, [.ref bv267, .int (0 : Int32), .int (0 : Int32), .int (nI (((((((([] : List Int32) ++ kT 50) ++ txt k x) ++ kT 49) ++ kT 35) ++ kT 50) ++ txt k y) ++ kT 49).length)]))], [(bv267, yA g bm268 bf269)], [(q4, qA g 7 4 (va_up (va_up (va_up (va_up (fun _ => none) 0 (some (gK g 43))) 1 (some (gK g 44))) 2 (some (gK g 45))) 3 (some (gK g 46))))], [(q3, qA g 7 5 (va_up (va_up (va_up (va_up (va_up (fun _ => none) 0 (some (gK g 38))) 1 (some (gK g 39))) 2 (some (gK g 40))) 3 (some (gK g 41))) 4 (some (gK g 42))))], [(q2, qA g 7 6 (va_up (va_up (va_up (va_up (va_up (va_up (fun _ => none) 0 (some (gK g 32))) 1 (some (gK g 33))) 2 (some (gK g 34))) 3 (some (gK g 35))) 4 (some (gK g 36))) 5 (some (gK g 37))))], [(q1, qA g 7 6 (va_up (va_up (va_up (va_up (va_up (va_up (fun _ => none) 0 (some (gK g iE))) 1 (some (gK g 27))) 2 (some (gK g 28))) 3 (some (gK g 29))) 4 (some (gK g 30))) 5 (some (gK g 31))))], t] [0, 1, 8] rfl rfl rfl ?_
        refine r_aret dX11_text_325 rfl rfl (Or.inr ⟨_, rfl⟩) ?_
        exact Dq.mk (Sum.inr (ts272, tb273, tf274)) rfl rfl th275
      · have hoK : (a, .inr (11, [.int (11 : Int32), .int (nI n), .int (nI o), .ref (tA k x), .ref (tA k y)])) ∈ t0 := mt _ ho
        have hE : txt (k + 1) ((a, 11, n, o), some x, some y) = (((((([] : List Int32) ++ kT 36) ++ (txt k x)) ++ kT 51) ++ (txt k y)) ++ kT 49) := rfl
        rw [hE]
        show R g mX11_text (k + 1 + 8) ((16 * 2 ^ k - 16) + (16 * 2 ^ k - 16) + 12) ((33000 * 2 ^ k - 33000) + (33000 * 2 ^ k - 33000) + 32979) 128 [(4, .ref q4), (3, .ref q3), (2, .ref q2), (1, .ref q1), (0, .ref a)] [] t0 _
        refine r_aload_n 4 dX11_text_128 rfl ?_
        refine r_getm (v := .int (11 : Int32)) (ci := 11) (fs := [.int (11 : Int32), .int (nI n), .int (nI o), .ref (tA k x), .ref (tA k y)]) dX11_text_129 fl_X11_7 hoK rfl ?_
        refine r_if_ne (tgt := 158) dX11_text_132 (by decide) (fun _ => ?_) (fun hc => absurd hc (by decide))
        refine r_aload_n 4 dX11_text_158 rfl ?_
        refine r_getm (v := .int (11 : Int32)) (ci := 11) (fs := [.int (11 : Int32), .int (nI n), .int (nI o), .ref (tA k x), .ref (tA k y)]) dX11_text_159 fl_X11_7 hoK rfl ?_
        refine r_iconst (v := (4 : Int32)) dX11_text_162 (by decide) ?_
        refine r_icmp_ge (tgt := 173) dX11_text_163 (by decide) (fun _ => ?_) (fun hc => absurd (by decide) hc)
        refine r_aload_n 4 dX11_text_173 rfl ?_
        refine r_getm (v := .int (11 : Int32)) (ci := 11) (fs := [.int (11 : Int32), .int (nI n), .int (nI o), .ref (tA k x), .ref (tA k y)]) dX11_text_174 fl_X11_7 hoK rfl ?_
        refine r_bipush (v := (6 : Int32)) dX11_text_177 (by decide) ?_
        refine r_icmp_ge (tgt := 214) dX11_text_179 (by decide) (fun _ => ?_) (fun hc => absurd (by decide) hc)
        refine r_aload_n 4 dX11_text_214 rfl ?_
        refine r_getm (v := .int (11 : Int32)) (ci := 11) (fs := [.int (11 : Int32), .int (nI n), .int (nI o), .ref (tA k x), .ref (tA k y)]) dX11_text_215 fl_X11_7 hoK rfl ?_
        refine r_bipush (v := (6 : Int32)) dX11_text_218 (by decide) ?_
        refine r_icmp_ne (tgt := 254) dX11_text_220 (by decide) (fun _ => ?_) (fun hc => absurd hc (by decide))
        refine r_aload_n 4 dX11_text_254 rfl ?_
        refine r_getm (v := .int (11 : Int32)) (ci := 11) (fs := [.int (11 : Int32), .int (nI n), .int (nI o), .ref (tA k x), .ref (tA k y)]) dX11_text_255 fl_X11_7 hoK rfl ?_
        refine r_bipush (v := (11 : Int32)) dX11_text_258 (by decide) ?_
        refine r_icmp_ge (tgt := 326) dX11_text_260 (by decide) (fun _ => ?_) (fun hc => absurd (by decide) hc)
        refine r_aload_n 4 dX11_text_326 rfl ?_
        refine r_getm (v := .int (11 : Int32)) (ci := 11) (fs := [.int (11 : Int32), .int (nI n), .int (nI o), .ref (tA k x), .ref (tA k y)]) dX11_text_327 fl_X11_7 hoK rfl ?_
        refine r_bipush (v := (13 : Int32)) dX11_text_330 (by decide) ?_
        refine r_icmp_ge (tgt := 388) dX11_text_332 (by decide) (fun hc => absurd hc (by decide)) (fun _ => ?_)
        refine r_new (N := 4) (x := ((16 * 2 ^ k - 16) + (16 * 2 ^ k - 16) + 11)) (y := ((33000 * 2 ^ k - 33000) + (33000 * 2 ^ k - 33000) + 32975)) dX11_text_335 nl_X11_110 (fun q14 => ?_)
        refine r_dup dX11_text_338 rfl ?_
        refine k_I (x := ((16 * 2 ^ k - 16) + (16 * 2 ^ k - 16) + 10)) (y := ((33000 * 2 ^ k - 33000) + (33000 * 2 ^ k - 33000) + 32959)) (rest := [.ref q14]) dX11_text_339 ki_X11_112 (cj_sb) rfl rfl (Nat.le_of_ble_eq_true rfl) (by omega) (by decide) ?_
        rintro bv276 -
        show R g mX11_text (k + 1 + 8) ((16 * 2 ^ k - 16) + (16 * 2 ^ k - 16) + 10) ((33000 * 2 ^ k - 33000) + (33000 * 2 ^ k - 33000) + 32959) 342 [(4, .ref q4), (3, .ref q3), (2, .ref q2), (1, .ref q1), (0, .ref a)] [.ref q14] ((q14, .inr (13, [.ref bv276, .int (0 : Int32), .int (0 : Int32), .int (nI ([] : List Int32).length)])) :: ((bv276, yA g 16 (fun _ => 0)) :: t0)) _
        refine r_aload_n 2 dX11_text_342 rfl ?_
        refine r_aload_n 4 dX11_text_343 rfl ?_
        refine r_getm (v := .int (11 : Int32)) (ci := 11) (fs := [.int (11 : Int32), .int (nI n), .int (nI o), .ref (tA k x), .ref (tA k y)]) dX11_text_344 fl_X11_7 (List.mem_cons_of_mem _ (List.mem_cons_of_mem _ hoK)) rfl ?_
        refine r_bipush (v := (7 : Int32)) dX11_text_347 (by decide) ?_
        refine r_isub dX11_text_349 ?_
        refine r_aaldm (t := 7) (n := 6) (f := (va_up (va_up (va_up (va_up (va_up (va_up (fun _ => none) 0 (some (gK g 32))) 1 (some (gK g 33))) 2 (some (gK g 34))) 3 (some (gK g 35))) 4 (some (gK g 36))) 5 (some (gK g 37)))) (v := .ref (gK g 36)) dX11_text_350 rfl rfl (List.mem_cons_of_mem _ (List.mem_cons_of_mem _ m2)) (by decide) (by rfl) ?_
        have bn281 : (([] : List Int32) ++ kT 36).length ≤ 4 := lnA (L := ([] : List Int32)) (L2 := kT 36) (n := 0) (n2 := 4) (Nat.le_refl 0) (by decide)
        refine k_V (x := ((16 * 2 ^ k - 16) + (16 * 2 ^ k - 16) + 9)) (y := ((33000 * 2 ^ k - 33000) + (33000 * 2 ^ k - 33000) + 28957)) (rest := []) 0 dX11_text_351 kv_X11_113 (cj_apK (i := 36) (by decide) BL.nil (Nat.le_trans bn281 (by omega))) rfl rfl rfl rfl (Nat.le_of_ble_eq_true rfl) (by omega) (by decide) ?_
        rintro ⟨bv277, bm278, bf279⟩ bh280
        try dsimp only at bh280
        show R g mX11_text (k + 1 + 8) ((16 * 2 ^ k - 16) + (16 * 2 ^ k - 16) + 9) ((33000 * 2 ^ k - 33000) + (33000 * 2 ^ k - 33000) + 28957) 354 [(4, .ref q4), (3, .ref q3), (2, .ref q2), (1, .ref q1), (0, .ref a)] [.ref q14] ((q14, .inr (13, [.ref bv277, .int (0 : Int32), .int (0 : Int32), .int (nI (([] : List Int32) ++ kT 36).length)])) :: ((bv277, yA g bm278 bf279) :: t0)) _
        refine r_aload_n 4 dX11_text_354 rfl ?_
        refine r_getm (v := .ref (tA k x)) (ci := 11) (fs := [.int (11 : Int32), .int (nI n), .int (nI o), .ref (tA k x), .ref (tA k y)]) dX11_text_355 fl_X11_40 (List.mem_cons_of_mem _ (List.mem_cons_of_mem _ hoK)) rfl ?_
        obtain ⟨fszz282, hfzz282⟩ := TM.cell k x (hma x rfl)
        refine r_room (x2 := ((16 * 2 ^ k - 16) + 9) + (16 * 2 ^ k - 16)) (y2 := ((33000 * 2 ^ k - 33000) + 28957) + (33000 * 2 ^ k - 33000)) (by omega) (by omega) ?_
        refine k_Vm (x := ((16 * 2 ^ k - 16) + 9)) (y := ((33000 * 2 ^ k - 33000) + 28957)) (rest := [.ref q14]) dX11_text_358 kv_X11_128 (cl_text hn hne k x _ (by omega) (TM.mono (fun p hp => (List.mem_cons_of_mem _ (List.mem_cons_of_mem _ (mt p hp)))) k x (hma x rfl)) hx) rfl rfl (List.mem_cons_of_mem _ (List.mem_cons_of_mem _ (mt _ hfzz282))) rfl (Nat.le_of_ble_eq_true rfl) (by omega) (by decide) ?_
        rintro zz282 hz283
        refine r_seg (ws2 := ((q14, .inr (13, [.ref bv277, .int (0 : Int32), .int (0 : Int32), .int (nI (([] : List Int32) ++ kT 36).length)])) :: ((bv277, yA g bm278 bf279) :: ((sw g (txt k x).length zz282) ++ t0)))) [sw g (txt k x).length zz282, [(q14, .inr (13, [.ref bv277, .int (0 : Int32), .int (0 : Int32), .int (nI (([] : List Int32) ++ kT 36).length)]))], [(bv277, yA g bm278 bf279)], t0] [1, 2, 0, 3] rfl rfl rfl ?_
        have bn288 : ((([] : List Int32) ++ kT 36) ++ txt k x).length ≤ (4 + (12 * 2 ^ k - 7)) := lnA (L := (([] : List Int32) ++ kT 36)) (L2 := txt k x) (n := 4) (n2 := (12 * 2 ^ k - 7)) bn281 (txt_len (by omega) (by omega) k x hx)
        refine k_V (x := ((16 * 2 ^ k - 16) + 8)) (y := ((33000 * 2 ^ k - 33000) + 24955)) (rest := []) 0 dX11_text_361 kv_X11_113 (cj_apX (L2 := txt k x) (z := zz282) hz283 bh280 (Nat.le_trans bn288 (by omega))) rfl rfl rfl rfl (Nat.le_of_ble_eq_true rfl) (by omega) (by decide) ?_
        rintro ⟨bv284, bm285, bf286⟩ bh287
        try dsimp only at bh287
        show R g mX11_text (k + 1 + 8) ((16 * 2 ^ k - 16) + 8) ((33000 * 2 ^ k - 33000) + 24955) 364 [(4, .ref q4), (3, .ref q3), (2, .ref q2), (1, .ref q1), (0, .ref a)] [.ref q14] ((q14, .inr (13, [.ref bv284, .int (0 : Int32), .int (0 : Int32), .int (nI ((([] : List Int32) ++ kT 36) ++ txt k x).length)])) :: ((bv284, yA g bm285 bf286) :: ((sw g (txt k x).length zz282) ++ t0))) _
        refine r_seg (ws2 := ((q14, .inr (13, [.ref bv284, .int (0 : Int32), .int (0 : Int32), .int (nI ((([] : List Int32) ++ kT 36) ++ txt k x).length)])) :: ((bv284, yA g bm285 bf286) :: t0))) [[(q14, .inr (13, [.ref bv284, .int (0 : Int32), .int (0 : Int32), .int (nI ((([] : List Int32) ++ kT 36) ++ txt k x).length)]))], [(bv284, yA g bm285 bf286)], sw g (txt k x).length zz282, t0] [0, 1, 3] rfl rfl rfl ?_
        refine r_ldcS (i := 51) dX11_text_364 rfl ?_
        have bn293 : (((([] : List Int32) ++ kT 36) ++ txt k x) ++ kT 51).length ≤ ((4 + (12 * 2 ^ k - 7)) + 1) := lnA (L := ((([] : List Int32) ++ kT 36) ++ txt k x)) (L2 := kT 51) (n := (4 + (12 * 2 ^ k - 7))) (n2 := 1) bn288 (by decide)
        refine k_V (x := ((16 * 2 ^ k - 16) + 7)) (y := ((33000 * 2 ^ k - 33000) + 20953)) (rest := []) 0 dX11_text_366 kv_X11_113 (cj_apK (i := 51) (by decide) bh287 (Nat.le_trans bn293 (by omega))) rfl rfl rfl rfl (Nat.le_of_ble_eq_true rfl) (by omega) (by decide) ?_
        rintro ⟨bv289, bm290, bf291⟩ bh292
        try dsimp only at bh292
        show R g mX11_text (k + 1 + 8) ((16 * 2 ^ k - 16) + 7) ((33000 * 2 ^ k - 33000) + 20953) 369 [(4, .ref q4), (3, .ref q3), (2, .ref q2), (1, .ref q1), (0, .ref a)] [.ref q14] ((q14, .inr (13, [.ref bv289, .int (0 : Int32), .int (0 : Int32), .int (nI (((([] : List Int32) ++ kT 36) ++ txt k x) ++ kT 51).length)])) :: ((bv289, yA g bm290 bf291) :: t0)) _
        refine r_aload_n 4 dX11_text_369 rfl ?_
        refine r_getm (v := .ref (tA k y)) (ci := 11) (fs := [.int (11 : Int32), .int (nI n), .int (nI o), .ref (tA k x), .ref (tA k y)]) dX11_text_370 fl_X11_59 (List.mem_cons_of_mem _ (List.mem_cons_of_mem _ hoK)) rfl ?_
        obtain ⟨fszz294, hfzz294⟩ := TM.cell k y (hmb y rfl)
        refine r_room (x2 := 7 + (16 * 2 ^ k - 16)) (y2 := 20953 + (33000 * 2 ^ k - 33000)) (by omega) (by omega) ?_
        refine k_Vm (x := 7) (y := 20953) (rest := [.ref q14]) dX11_text_373 kv_X11_128 (cl_text hn hne k y _ (by omega) (TM.mono (fun p hp => (List.mem_cons_of_mem _ (List.mem_cons_of_mem _ (mt p hp)))) k y (hmb y rfl)) hy) rfl rfl (List.mem_cons_of_mem _ (List.mem_cons_of_mem _ (mt _ hfzz294))) rfl (Nat.le_of_ble_eq_true rfl) (by omega) (by decide) ?_
        rintro zz294 hz295
        refine r_seg (ws2 := ((q14, .inr (13, [.ref bv289, .int (0 : Int32), .int (0 : Int32), .int (nI (((([] : List Int32) ++ kT 36) ++ txt k x) ++ kT 51).length)])) :: ((bv289, yA g bm290 bf291) :: ((sw g (txt k y).length zz294) ++ t0)))) [sw g (txt k y).length zz294, [(q14, .inr (13, [.ref bv289, .int (0 : Int32), .int (0 : Int32), .int (nI (((([] : List Int32) ++ kT 36) ++ txt k x) ++ kT 51).length)]))], [(bv289, yA g bm290 bf291)], t0] [1, 2, 0, 3] rfl rfl rfl ?_
        have bn300 : ((((([] : List Int32) ++ kT 36) ++ txt k x) ++ kT 51) ++ txt k y).length ≤ (((4 + (12 * 2 ^ k - 7)) + 1) + (12 * 2 ^ k - 7)) := lnA (L := (((([] : List Int32) ++ kT 36) ++ txt k x) ++ kT 51)) (L2 := txt k y) (n := ((4 + (12 * 2 ^ k - 7)) + 1)) (n2 := (12 * 2 ^ k - 7)) bn293 (txt_len (by omega) (by omega) k y hy)
        refine k_V (x := 6) (y := 16951) (rest := []) 0 dX11_text_376 kv_X11_113 (cj_apX (L2 := txt k y) (z := zz294) hz295 bh292 (Nat.le_trans bn300 (by omega))) rfl rfl rfl rfl (Nat.le_of_ble_eq_true rfl) (by omega) (by decide) ?_
        rintro ⟨bv296, bm297, bf298⟩ bh299
        try dsimp only at bh299
        show R g mX11_text (k + 1 + 8) 6 16951 379 [(4, .ref q4), (3, .ref q3), (2, .ref q2), (1, .ref q1), (0, .ref a)] [.ref q14] ((q14, .inr (13, [.ref bv296, .int (0 : Int32), .int (0 : Int32), .int (nI ((((([] : List Int32) ++ kT 36) ++ txt k x) ++ kT 51) ++ txt k y).length)])) :: ((bv296, yA g bm297 bf298) :: ((sw g (txt k y).length zz294) ++ t0))) _
        refine r_seg (ws2 := ((q14, .inr (13, [.ref bv296, .int (0 : Int32), .int (0 : Int32), .int (nI ((((([] : List Int32) ++ kT 36) ++ txt k x) ++ kT 51) ++ txt k y).length)])) :: ((bv296, yA g bm297 bf298) :: t0))) [[(q14, .inr (13, [.ref bv296, .int (0 : Int32), .int (0 : Int32), .int (nI ((((([] : List Int32) ++ kT 36) ++ txt k x) ++ kT 51) ++ txt k y).length)]))], [(bv296, yA g bm297 bf298)], sw g (txt k y).length zz294, t0] [0, 1, 3] rfl rfl rfl ?_
        refine r_ldcS (i := 49) dX11_text_379 rfl ?_
        have bn305 : (((((([] : List Int32) ++ kT 36) ++ txt k x) ++ kT 51) ++ txt k y) ++ kT 49).length ≤ ((((4 + (12 * 2 ^ k - 7)) + 1) + (12 * 2 ^ k - 7)) + 1) := lnA (L := ((((([] : List Int32) ++ kT 36) ++ txt k x) ++ kT 51) ++ txt k y)) (L2 := kT 49) (n := (((4 + (12 * 2 ^ k - 7)) + 1) + (12 * 2 ^ k - 7))) (n2 := 1) bn300 (by decide)
        refine k_V (x := 5) (y := 12949) (rest := []) 0 dX11_text_381 kv_X11_113 (cj_apK (i := 49) (by decide) bh299 (Nat.le_trans bn305 (by omega))) rfl rfl rfl rfl (Nat.le_of_ble_eq_true rfl) (by omega) (by decide) ?_
        rintro ⟨bv301, bm302, bf303⟩ bh304
        try dsimp only at bh304
        show R g mX11_text (k + 1 + 8) 5 12949 384 [(4, .ref q4), (3, .ref q3), (2, .ref q2), (1, .ref q1), (0, .ref a)] [.ref q14] ((q14, .inr (13, [.ref bv301, .int (0 : Int32), .int (0 : Int32), .int (nI (((((([] : List Int32) ++ kT 36) ++ txt k x) ++ kT 51) ++ txt k y) ++ kT 49).length)])) :: ((bv301, yA g bm302 bf303) :: t0)) _
        refine k_V (x := 3) (y := 8943) (rest := []) 0 dX11_text_384 kv_X11_120 (cj_strB bh304) rfl rfl rfl rfl (Nat.le_of_ble_eq_true rfl) (by omega) (by decide) ?_
        rintro ⟨ts306, tb307, tf308⟩ th309
        try dsimp only at th309
        show R g mX11_text (k + 1 + 8) 3 8943 387 [(4, .ref q4), (3, .ref q3), (2, .ref q2), (1, .ref q1), (0, .ref a)] [.ref ts306] ((ts306, .inr (12, [.ref tb307, .int (0 : Int32), .int (0 : Int32), .int (0 : Int32)])) :: ((tb307, yA g (((((([] : List Int32) ++ kT 36) ++ txt k x) ++ kT 51) ++ txt k y) ++ kT 49).length tf308) :: ((q14, .inr (13, [.ref bv301, .int (0 : Int32), .int (0 : Int32), .int (nI (((((([] : List Int32) ++ kT 36) ++ txt k x) ++ kT 51) ++ txt k y) ++ kT 49).length)])) :: ((bv301, yA g bm302 bf303) :: t0)))) _
        rw [e0]
        refine r_seg (ws2 := ((ts306, .inr (12, [.ref tb307, .int (0 : Int32), .int (0 : Int32), .int (0 : Int32)])) :: ((tb307, yA g (((((([] : List Int32) ++ kT 36) ++ txt k x) ++ kT 51) ++ txt k y) ++ kT 49).length tf308) :: t))) [[(ts306, .inr (12, [.ref tb307, .int (0 : Int32), .int (0 : Int32), .int (0 : Int32)]))], [(tb307, yA g (((((([] : List Int32) ++ kT 36) ++ txt k x) ++ kT 51) ++ txt k y) ++ kT 49).length tf308)], [(q14, .inr (13, [.ref bv301, .int (0 : Int32), .int (0 : Int32), .int (nI (((((([] : List Int32) ++ kT 36) ++ txt k x) ++ kT 51) ++ txt k y) ++ kT 49).length)]))], [(bv301, yA g bm302 bf303)], [(q4, qA g 7 4 (va_up (va_up (va_up (va_up (fun _ => none) 0 (some (gK g 43))) 1 (some (gK g 44))) 2 (some (gK g 45))) 3 (some (gK g 46))))], [(q3, qA g 7 5 (va_up (va_up (va_up (va_up (va_up (fun _ => none) 0 (some (gK g 38))) 1 (some (gK g 39))) 2 (some (gK g 40))) 3 (some (gK g 41))) 4 (some (gK g 42))))], [(q2, qA g 7 6 (va_up (va_up (va_up (va_up (va_up (va_up (fun _ => none) 0 (some (gK g 32))) 1 (some (gK g 33))) 2 (some (gK g 34))) 3 (some (gK g 35))) 4 (some (gK g 36))) 5 (some (gK g 37))))], [(q1, qA g 7 6 (va_up (va_up (va_up (va_up (va_up (va_up (fun _ => none) 0 (some (gK g iE))) 1 (some (gK g 27))) 2 (some (gK g 28))) 3 (some (gK g 29))) 4 (some (gK g 30))) 5 (some (gK g 31))))], t] [0, 1, 8] rfl rfl rfl ?_
        refine r_aret dX11_text_387 rfl rfl (Or.inr ⟨_, rfl⟩) ?_
        exact Dq.mk (Sum.inr (ts306, tb307, tf308)) rfl rfl th309
      · have hoK : (a, .inr (11, [.int (12 : Int32), .int (nI n), .int (nI o), .ref (tA k x), .ref (tA k y)])) ∈ t0 := mt _ ho
        have hE : txt (k + 1) ((a, 12, n, o), some x, some y) = (((((([] : List Int32) ++ kT 37) ++ (txt k x)) ++ kT 51) ++ (txt k y)) ++ kT 49) := rfl
        rw [hE]
        show R g mX11_text (k + 1 + 8) ((16 * 2 ^ k - 16) + (16 * 2 ^ k - 16) + 12) ((33000 * 2 ^ k - 33000) + (33000 * 2 ^ k - 33000) + 32979) 128 [(4, .ref q4), (3, .ref q3), (2, .ref q2), (1, .ref q1), (0, .ref a)] [] t0 _
        refine r_aload_n 4 dX11_text_128 rfl ?_
        refine r_getm (v := .int (12 : Int32)) (ci := 11) (fs := [.int (12 : Int32), .int (nI n), .int (nI o), .ref (tA k x), .ref (tA k y)]) dX11_text_129 fl_X11_7 hoK rfl ?_
        refine r_if_ne (tgt := 158) dX11_text_132 (by decide) (fun _ => ?_) (fun hc => absurd hc (by decide))
        refine r_aload_n 4 dX11_text_158 rfl ?_
        refine r_getm (v := .int (12 : Int32)) (ci := 11) (fs := [.int (12 : Int32), .int (nI n), .int (nI o), .ref (tA k x), .ref (tA k y)]) dX11_text_159 fl_X11_7 hoK rfl ?_
        refine r_iconst (v := (4 : Int32)) dX11_text_162 (by decide) ?_
        refine r_icmp_ge (tgt := 173) dX11_text_163 (by decide) (fun _ => ?_) (fun hc => absurd (by decide) hc)
        refine r_aload_n 4 dX11_text_173 rfl ?_
        refine r_getm (v := .int (12 : Int32)) (ci := 11) (fs := [.int (12 : Int32), .int (nI n), .int (nI o), .ref (tA k x), .ref (tA k y)]) dX11_text_174 fl_X11_7 hoK rfl ?_
        refine r_bipush (v := (6 : Int32)) dX11_text_177 (by decide) ?_
        refine r_icmp_ge (tgt := 214) dX11_text_179 (by decide) (fun _ => ?_) (fun hc => absurd (by decide) hc)
        refine r_aload_n 4 dX11_text_214 rfl ?_
        refine r_getm (v := .int (12 : Int32)) (ci := 11) (fs := [.int (12 : Int32), .int (nI n), .int (nI o), .ref (tA k x), .ref (tA k y)]) dX11_text_215 fl_X11_7 hoK rfl ?_
        refine r_bipush (v := (6 : Int32)) dX11_text_218 (by decide) ?_
        refine r_icmp_ne (tgt := 254) dX11_text_220 (by decide) (fun _ => ?_) (fun hc => absurd hc (by decide))
        refine r_aload_n 4 dX11_text_254 rfl ?_
        refine r_getm (v := .int (12 : Int32)) (ci := 11) (fs := [.int (12 : Int32), .int (nI n), .int (nI o), .ref (tA k x), .ref (tA k y)]) dX11_text_255 fl_X11_7 hoK rfl ?_
        refine r_bipush (v := (11 : Int32)) dX11_text_258 (by decide) ?_
        refine r_icmp_ge (tgt := 326) dX11_text_260 (by decide) (fun _ => ?_) (fun hc => absurd (by decide) hc)
        refine r_aload_n 4 dX11_text_326 rfl ?_
        refine r_getm (v := .int (12 : Int32)) (ci := 11) (fs := [.int (12 : Int32), .int (nI n), .int (nI o), .ref (tA k x), .ref (tA k y)]) dX11_text_327 fl_X11_7 hoK rfl ?_
        refine r_bipush (v := (13 : Int32)) dX11_text_330 (by decide) ?_
        refine r_icmp_ge (tgt := 388) dX11_text_332 (by decide) (fun hc => absurd hc (by decide)) (fun _ => ?_)
        refine r_new (N := 4) (x := ((16 * 2 ^ k - 16) + (16 * 2 ^ k - 16) + 11)) (y := ((33000 * 2 ^ k - 33000) + (33000 * 2 ^ k - 33000) + 32975)) dX11_text_335 nl_X11_110 (fun q15 => ?_)
        refine r_dup dX11_text_338 rfl ?_
        refine k_I (x := ((16 * 2 ^ k - 16) + (16 * 2 ^ k - 16) + 10)) (y := ((33000 * 2 ^ k - 33000) + (33000 * 2 ^ k - 33000) + 32959)) (rest := [.ref q15]) dX11_text_339 ki_X11_112 (cj_sb) rfl rfl (Nat.le_of_ble_eq_true rfl) (by omega) (by decide) ?_
        rintro bv310 -
        show R g mX11_text (k + 1 + 8) ((16 * 2 ^ k - 16) + (16 * 2 ^ k - 16) + 10) ((33000 * 2 ^ k - 33000) + (33000 * 2 ^ k - 33000) + 32959) 342 [(4, .ref q4), (3, .ref q3), (2, .ref q2), (1, .ref q1), (0, .ref a)] [.ref q15] ((q15, .inr (13, [.ref bv310, .int (0 : Int32), .int (0 : Int32), .int (nI ([] : List Int32).length)])) :: ((bv310, yA g 16 (fun _ => 0)) :: t0)) _
        refine r_aload_n 2 dX11_text_342 rfl ?_
        refine r_aload_n 4 dX11_text_343 rfl ?_
        refine r_getm (v := .int (12 : Int32)) (ci := 11) (fs := [.int (12 : Int32), .int (nI n), .int (nI o), .ref (tA k x), .ref (tA k y)]) dX11_text_344 fl_X11_7 (List.mem_cons_of_mem _ (List.mem_cons_of_mem _ hoK)) rfl ?_
        refine r_bipush (v := (7 : Int32)) dX11_text_347 (by decide) ?_
        refine r_isub dX11_text_349 ?_
        refine r_aaldm (t := 7) (n := 6) (f := (va_up (va_up (va_up (va_up (va_up (va_up (fun _ => none) 0 (some (gK g 32))) 1 (some (gK g 33))) 2 (some (gK g 34))) 3 (some (gK g 35))) 4 (some (gK g 36))) 5 (some (gK g 37)))) (v := .ref (gK g 37)) dX11_text_350 rfl rfl (List.mem_cons_of_mem _ (List.mem_cons_of_mem _ m2)) (by decide) (by rfl) ?_
        have bn315 : (([] : List Int32) ++ kT 37).length ≤ 4 := lnA (L := ([] : List Int32)) (L2 := kT 37) (n := 0) (n2 := 4) (Nat.le_refl 0) (by decide)
        refine k_V (x := ((16 * 2 ^ k - 16) + (16 * 2 ^ k - 16) + 9)) (y := ((33000 * 2 ^ k - 33000) + (33000 * 2 ^ k - 33000) + 28957)) (rest := []) 0 dX11_text_351 kv_X11_113 (cj_apK (i := 37) (by decide) BL.nil (Nat.le_trans bn315 (by omega))) rfl rfl rfl rfl (Nat.le_of_ble_eq_true rfl) (by omega) (by decide) ?_
        rintro ⟨bv311, bm312, bf313⟩ bh314
        try dsimp only at bh314
        show R g mX11_text (k + 1 + 8) ((16 * 2 ^ k - 16) + (16 * 2 ^ k - 16) + 9) ((33000 * 2 ^ k - 33000) + (33000 * 2 ^ k - 33000) + 28957) 354 [(4, .ref q4), (3, .ref q3), (2, .ref q2), (1, .ref q1), (0, .ref a)] [.ref q15] ((q15, .inr (13, [.ref bv311, .int (0 : Int32), .int (0 : Int32), .int (nI (([] : List Int32) ++ kT 37).length)])) :: ((bv311, yA g bm312 bf313) :: t0)) _
        refine r_aload_n 4 dX11_text_354 rfl ?_
        refine r_getm (v := .ref (tA k x)) (ci := 11) (fs := [.int (12 : Int32), .int (nI n), .int (nI o), .ref (tA k x), .ref (tA k y)]) dX11_text_355 fl_X11_40 (List.mem_cons_of_mem _ (List.mem_cons_of_mem _ hoK)) rfl ?_
        obtain ⟨fszz316, hfzz316⟩ := TM.cell k x (hma x rfl)
        refine r_room (x2 := ((16 * 2 ^ k - 16) + 9) + (16 * 2 ^ k - 16)) (y2 := ((33000 * 2 ^ k - 33000) + 28957) + (33000 * 2 ^ k - 33000)) (by omega) (by omega) ?_
        refine k_Vm (x := ((16 * 2 ^ k - 16) + 9)) (y := ((33000 * 2 ^ k - 33000) + 28957)) (rest := [.ref q15]) dX11_text_358 kv_X11_128 (cl_text hn hne k x _ (by omega) (TM.mono (fun p hp => (List.mem_cons_of_mem _ (List.mem_cons_of_mem _ (mt p hp)))) k x (hma x rfl)) hx) rfl rfl (List.mem_cons_of_mem _ (List.mem_cons_of_mem _ (mt _ hfzz316))) rfl (Nat.le_of_ble_eq_true rfl) (by omega) (by decide) ?_
        rintro zz316 hz317
        refine r_seg (ws2 := ((q15, .inr (13, [.ref bv311, .int (0 : Int32), .int (0 : Int32), .int (nI (([] : List Int32) ++ kT 37).length)])) :: ((bv311, yA g bm312 bf313) :: ((sw g (txt k x).length zz316) ++ t0)))) [sw g (txt k x).length zz316, [(q15, .inr (13, [.ref bv311, .int (0 : Int32), .int (0 : Int32), .int (nI (([] : List Int32) ++ kT 37).length)]))], [(bv311, yA g bm312 bf313)], t0] [1, 2, 0, 3] rfl rfl rfl ?_
        have bn322 : ((([] : List Int32) ++ kT 37) ++ txt k x).length ≤ (4 + (12 * 2 ^ k - 7)) := lnA (L := (([] : List Int32) ++ kT 37)) (L2 := txt k x) (n := 4) (n2 := (12 * 2 ^ k - 7)) bn315 (txt_len (by omega) (by omega) k x hx)
        refine k_V (x := ((16 * 2 ^ k - 16) + 8)) (y := ((33000 * 2 ^ k - 33000) + 24955)) (rest := []) 0 dX11_text_361 kv_X11_113 (cj_apX (L2 := txt k x) (z := zz316) hz317 bh314 (Nat.le_trans bn322 (by omega))) rfl rfl rfl rfl (Nat.le_of_ble_eq_true rfl) (by omega) (by decide) ?_
        rintro ⟨bv318, bm319, bf320⟩ bh321
        try dsimp only at bh321
        show R g mX11_text (k + 1 + 8) ((16 * 2 ^ k - 16) + 8) ((33000 * 2 ^ k - 33000) + 24955) 364 [(4, .ref q4), (3, .ref q3), (2, .ref q2), (1, .ref q1), (0, .ref a)] [.ref q15] ((q15, .inr (13, [.ref bv318, .int (0 : Int32), .int (0 : Int32), .int (nI ((([] : List Int32) ++ kT 37) ++ txt k x).length)])) :: ((bv318, yA g bm319 bf320) :: ((sw g (txt k x).length zz316) ++ t0))) _
        refine r_seg (ws2 := ((q15, .inr (13, [.ref bv318, .int (0 : Int32), .int (0 : Int32), .int (nI ((([] : List Int32) ++ kT 37) ++ txt k x).length)])) :: ((bv318, yA g bm319 bf320) :: t0))) [[(q15, .inr (13, [.ref bv318, .int (0 : Int32), .int (0 : Int32), .int (nI ((([] : List Int32) ++ kT 37) ++ txt k x).length)]))], [(bv318, yA g bm319 bf320)], sw g (txt k x).length zz316, t0] [0, 1, 3] rfl rfl rfl ?_
        refine r_ldcS (i := 51) dX11_text_364 rfl ?_
        have bn327 : (((([] : List Int32) ++ kT 37) ++ txt k x) ++ kT 51).length ≤ ((4 + (12 * 2 ^ k - 7)) + 1) := lnA (L := ((([] : List Int32) ++ kT 37) ++ txt k x)) (L2 := kT 51) (n := (4 + (12 * 2 ^ k - 7))) (n2 := 1) bn322 (by decide)
        refine k_V (x := ((16 * 2 ^ k - 16) + 7)) (y := ((33000 * 2 ^ k - 33000) + 20953)) (rest := []) 0 dX11_text_366 kv_X11_113 (cj_apK (i := 51) (by decide) bh321 (Nat.le_trans bn327 (by omega))) rfl rfl rfl rfl (Nat.le_of_ble_eq_true rfl) (by omega) (by decide) ?_
        rintro ⟨bv323, bm324, bf325⟩ bh326
        try dsimp only at bh326
        show R g mX11_text (k + 1 + 8) ((16 * 2 ^ k - 16) + 7) ((33000 * 2 ^ k - 33000) + 20953) 369 [(4, .ref q4), (3, .ref q3), (2, .ref q2), (1, .ref q1), (0, .ref a)] [.ref q15] ((q15, .inr (13, [.ref bv323, .int (0 : Int32), .int (0 : Int32), .int (nI (((([] : List Int32) ++ kT 37) ++ txt k x) ++ kT 51).length)])) :: ((bv323, yA g bm324 bf325) :: t0)) _
        refine r_aload_n 4 dX11_text_369 rfl ?_
        refine r_getm (v := .ref (tA k y)) (ci := 11) (fs := [.int (12 : Int32), .int (nI n), .int (nI o), .ref (tA k x), .ref (tA k y)]) dX11_text_370 fl_X11_59 (List.mem_cons_of_mem _ (List.mem_cons_of_mem _ hoK)) rfl ?_
        obtain ⟨fszz328, hfzz328⟩ := TM.cell k y (hmb y rfl)
        refine r_room (x2 := 7 + (16 * 2 ^ k - 16)) (y2 := 20953 + (33000 * 2 ^ k - 33000)) (by omega) (by omega) ?_
        refine k_Vm (x := 7) (y := 20953) (rest := [.ref q15]) dX11_text_373 kv_X11_128 (cl_text hn hne k y _ (by omega) (TM.mono (fun p hp => (List.mem_cons_of_mem _ (List.mem_cons_of_mem _ (mt p hp)))) k y (hmb y rfl)) hy) rfl rfl (List.mem_cons_of_mem _ (List.mem_cons_of_mem _ (mt _ hfzz328))) rfl (Nat.le_of_ble_eq_true rfl) (by omega) (by decide) ?_
        rintro zz328 hz329
        refine r_seg (ws2 := ((q15, .inr (13, [.ref bv323, .int (0 : Int32), .int (0 : Int32), .int (nI (((([] : List Int32) ++ kT 37) ++ txt k x) ++ kT 51).length)])) :: ((bv323, yA g bm324 bf325) :: ((sw g (txt k y).length zz328) ++ t0)))) [sw g (txt k y).length zz328, [(q15, .inr (13, [.ref bv323, .int (0 : Int32), .int (0 : Int32), .int (nI (((([] : List Int32) ++ kT 37) ++ txt k x) ++ kT 51).length)]))], [(bv323, yA g bm324 bf325)], t0] [1, 2, 0, 3] rfl rfl rfl ?_
        have bn334 : ((((([] : List Int32) ++ kT 37) ++ txt k x) ++ kT 51) ++ txt k y).length ≤ (((4 + (12 * 2 ^ k - 7)) + 1) + (12 * 2 ^ k - 7)) := lnA (L := (((([] : List Int32) ++ kT 37) ++ txt k x) ++ kT 51)) (L2 := txt k y) (n := ((4 + (12 * 2 ^ k - 7)) + 1)) (n2 := (12 * 2 ^ k - 7)) bn327 (txt_len (by omega) (by omega) k y hy)
        refine k_V (x := 6) (y := 16951) (rest := []) 0 dX11_text_376 kv_X11_113 (cj_apX (L2 := txt k y) (z := zz328) hz329 bh326 (Nat.le_trans bn334 (by omega))) rfl rfl rfl rfl (Nat.le_of_ble_eq_true rfl) (by omega) (by decide) ?_
        rintro ⟨bv330, bm331, bf332⟩ bh333
        try dsimp only at bh333
        show R g mX11_text (k + 1 + 8) 6 16951 379 [(4, .ref q4), (3, .ref q3), (2, .ref q2), (1, .ref q1), (0, .ref a)] [.ref q15] ((q15, .inr (13, [.ref bv330, .int (0 : Int32), .int (0 : Int32), .int (nI ((((([] : List Int32) ++ kT 37) ++ txt k x) ++ kT 51) ++ txt k y).length)])) :: ((bv330, yA g bm331 bf332) :: ((sw g (txt k y).length zz328) ++ t0))) _
        refine r_seg (ws2 := ((q15, .inr (13, [.ref bv330, .int (0 : Int32), .int (0 : Int32), .int (nI ((((([] : List Int32) ++ kT 37) ++ txt k x) ++ kT 51) ++ txt k y).length)])) :: ((bv330, yA g bm331 bf332) :: t0))) [[(q15, .inr (13, [.ref bv330, .int (0 : Int32), .int (0 : Int32), .int (nI ((((([] : List Int32) ++ kT 37) ++ txt k x) ++ kT 51) ++ txt k y).length)]))], [(bv330, yA g bm331 bf332)], sw g (txt k y).length zz328, t0] [0, 1, 3] rfl rfl rfl ?_
        refine r_ldcS (i := 49) dX11_text_379 rfl ?_
        have bn339 : (((((([] : List Int32) ++ kT 37) ++ txt k x) ++ kT 51) ++ txt k y) ++ kT 49).length ≤ ((((4 + (12 * 2 ^ k - 7)) + 1) + (12 * 2 ^ k - 7)) + 1) := lnA (L := ((((([] : List Int32) ++ kT 37) ++ txt k x) ++ kT 51) ++ txt k y)) (L2 := kT 49) (n := (((4 + (12 * 2 ^ k - 7)) + 1) + (12 * 2 ^ k - 7))) (n2 := 1) bn334 (by decide)
        refine k_V (x := 5) (y := 12949) (rest := []) 0 dX11_text_381 kv_X11_113 (cj_apK (i := 49) (by decide) bh333 (Nat.le_trans bn339 (by omega))) rfl rfl rfl rfl (Nat.le_of_ble_eq_true rfl) (by omega) (by decide) ?_
        rintro ⟨bv335, bm336, bf337⟩ bh338
        try dsimp only at bh338
        show R g mX11_text (k + 1 + 8) 5 12949 384 [(4, .ref q4), (3, .ref q3), (2, .ref q2), (1, .ref q1), (0, .ref a)] [.ref q15] ((q15, .inr (13, [.ref bv335, .int (0 : Int32), .int (0 : Int32), .int (nI (((((([] : List Int32) ++ kT 37) ++ txt k x) ++ kT 51) ++ txt k y) ++ kT 49).length)])) :: ((bv335, yA g bm336 bf337) :: t0)) _
        refine k_V (x := 3) (y := 8943) (rest := []) 0 dX11_text_384 kv_X11_120 (cj_strB bh338) rfl rfl rfl rfl (Nat.le_of_ble_eq_true rfl) (by omega) (by decide) ?_
        rintro ⟨ts340, tb341, tf342⟩ th343
        try dsimp only at th343
        show R g mX11_text (k + 1 + 8) 3 8943 387 [(4, .ref q4), (3, .ref q3), (2, .ref q2), (1, .ref q1), (0, .ref a)] [.ref ts340] ((ts340, .inr (12, [.ref tb341, .int (0 : Int32), .int (0 : Int32), .int (0 : Int32)])) :: ((tb341, yA g (((((([] : List Int32) ++ kT 37) ++ txt k x) ++ kT 51) ++ txt k y) ++ kT 49).length tf342) :: ((q15, .inr (13, [.ref bv335, .int (0 : Int32), .int (0 : Int32), .int (nI (((((([] : List Int32) ++ kT 37) ++ txt k x) ++ kT 51) ++ txt k y) ++ kT 49).length)])) :: ((bv335, yA g bm336 bf337) :: t0)))) _
        rw [e0]
        refine r_seg (ws2 := ((ts340, .inr (12, [.ref tb341, .int (0 : Int32), .int (0 : Int32), .int (0 : Int32)])) :: ((tb341, yA g (((((([] : List Int32) ++ kT 37) ++ txt k x) ++ kT 51) ++ txt k y) ++ kT 49).length tf342) :: t))) [[(ts340, .inr (12, [.ref tb341, .int (0 : Int32), .int (0 : Int32), .int (0 : Int32)]))], [(tb341, yA g (((((([] : List Int32) ++ kT 37) ++ txt k x) ++ kT 51) ++ txt k y) ++ kT 49).length tf342)], [(q15, .inr (13, [.ref bv335, .int (0 : Int32), .int (0 : Int32), .int (nI (((((([] : List Int32) ++ kT 37) ++ txt k x) ++ kT 51) ++ txt k y) ++ kT 49).length)]))], [(bv335, yA g bm336 bf337)], [(q4, qA g 7 4 (va_up (va_up (va_up (va_up (fun _ => none) 0 (some (gK g 43))) 1 (some (gK g 44))) 2 (some (gK g 45))) 3 (some (gK g 46))))], [(q3, qA g 7 5 (va_up (va_up (va_up (va_up (va_up (fun _ => none) 0 (some (gK g 38))) 1 (some (gK g 39))) 2 (some (gK g 40))) 3 (some (gK g 41))) 4 (some (gK g 42))))], [(q2, qA g 7 6 (va_up (va_up (va_up (va_up (va_up (va_up (fun _ => none) 0 (some (gK g 32))) 1 (some (gK g 33))) 2 (some (gK g 34))) 3 (some (gK g 35))) 4 (some (gK g 36))) 5 (some (gK g 37))))], [(q1, qA g 7 6 (va_up (va_up (va_up (va_up (va_up (va_up (fun _ => none) 0 (some (gK g iE))) 1 (some (gK g 27))) 2 (some (gK g 28))) 3 (some (gK g 29))) 4 (some (gK g 30))) 5 (some (gK g 31))))], t] [0, 1, 8] rfl rfl rfl ?_
        refine r_aret dX11_text_387 rfl rfl (Or.inr ⟨_, rfl⟩) ?_
        exact Dq.mk (Sum.inr (ts340, tb341, tf342)) rfl rfl th343
      · have hoK : (a, .inr (11, [.int (20 : Int32), .int (nI n), .int (nI o), .ref (tA k x), .ref (tA k y)])) ∈ t0 := mt _ ho
        have hE : txt (k + 1) ((a, 20, n, o), some x, some y) = (((([] : List Int32) ++ (txt k x)) ++ kT 38) ++ (txt k y)) := rfl
        rw [hE]
        show R g mX11_text (k + 1 + 8) ((16 * 2 ^ k - 16) + (16 * 2 ^ k - 16) + 12) ((33000 * 2 ^ k - 33000) + (33000 * 2 ^ k - 33000) + 32979) 128 [(4, .ref q4), (3, .ref q3), (2, .ref q2), (1, .ref q1), (0, .ref a)] [] t0 _
        refine r_aload_n 4 dX11_text_128 rfl ?_
        refine r_getm (v := .int (20 : Int32)) (ci := 11) (fs := [.int (20 : Int32), .int (nI n), .int (nI o), .ref (tA k x), .ref (tA k y)]) dX11_text_129 fl_X11_7 hoK rfl ?_
        refine r_if_ne (tgt := 158) dX11_text_132 (by decide) (fun _ => ?_) (fun hc => absurd hc (by decide))
        refine r_aload_n 4 dX11_text_158 rfl ?_
        refine r_getm (v := .int (20 : Int32)) (ci := 11) (fs := [.int (20 : Int32), .int (nI n), .int (nI o), .ref (tA k x), .ref (tA k y)]) dX11_text_159 fl_X11_7 hoK rfl ?_
        refine r_iconst (v := (4 : Int32)) dX11_text_162 (by decide) ?_
        refine r_icmp_ge (tgt := 173) dX11_text_163 (by decide) (fun _ => ?_) (fun hc => absurd (by decide) hc)
        refine r_aload_n 4 dX11_text_173 rfl ?_
        refine r_getm (v := .int (20 : Int32)) (ci := 11) (fs := [.int (20 : Int32), .int (nI n), .int (nI o), .ref (tA k x), .ref (tA k y)]) dX11_text_174 fl_X11_7 hoK rfl ?_
        refine r_bipush (v := (6 : Int32)) dX11_text_177 (by decide) ?_
        refine r_icmp_ge (tgt := 214) dX11_text_179 (by decide) (fun _ => ?_) (fun hc => absurd (by decide) hc)
        refine r_aload_n 4 dX11_text_214 rfl ?_
        refine r_getm (v := .int (20 : Int32)) (ci := 11) (fs := [.int (20 : Int32), .int (nI n), .int (nI o), .ref (tA k x), .ref (tA k y)]) dX11_text_215 fl_X11_7 hoK rfl ?_
        refine r_bipush (v := (6 : Int32)) dX11_text_218 (by decide) ?_
        refine r_icmp_ne (tgt := 254) dX11_text_220 (by decide) (fun _ => ?_) (fun hc => absurd hc (by decide))
        refine r_aload_n 4 dX11_text_254 rfl ?_
        refine r_getm (v := .int (20 : Int32)) (ci := 11) (fs := [.int (20 : Int32), .int (nI n), .int (nI o), .ref (tA k x), .ref (tA k y)]) dX11_text_255 fl_X11_7 hoK rfl ?_
        refine r_bipush (v := (11 : Int32)) dX11_text_258 (by decide) ?_
        refine r_icmp_ge (tgt := 326) dX11_text_260 (by decide) (fun _ => ?_) (fun hc => absurd (by decide) hc)
        refine r_aload_n 4 dX11_text_326 rfl ?_
        refine r_getm (v := .int (20 : Int32)) (ci := 11) (fs := [.int (20 : Int32), .int (nI n), .int (nI o), .ref (tA k x), .ref (tA k y)]) dX11_text_327 fl_X11_7 hoK rfl ?_
        refine r_bipush (v := (13 : Int32)) dX11_text_330 (by decide) ?_
        refine r_icmp_ge (tgt := 388) dX11_text_332 (by decide) (fun _ => ?_) (fun hc => absurd (by decide) hc)
        refine r_aload_n 4 dX11_text_388 rfl ?_
        refine r_getm (v := .int (20 : Int32)) (ci := 11) (fs := [.int (20 : Int32), .int (nI n), .int (nI o), .ref (tA k x), .ref (tA k y)]) dX11_text_389 fl_X11_7 hoK rfl ?_
        refine r_bipush (v := (25 : Int32)) dX11_text_392 (by decide) ?_
        refine r_icmp_ge (tgt := 440) dX11_text_394 (by decide) (fun hc => absurd hc (by decide)) (fun _ => ?_)
        refine r_new (N := 4) (x := ((16 * 2 ^ k - 16) + (16 * 2 ^ k - 16) + 11)) (y := ((33000 * 2 ^ k - 33000) + (33000 * 2 ^ k - 33000) + 32975)) dX11_text_397 nl_X11_110 (fun q16 => ?_)
        refine r_dup dX11_text_400 rfl ?_
        refine k_I (x := ((16 * 2 ^ k - 16) + (16 * 2 ^ k - 16) + 10)) (y := ((33000 * 2 ^ k - 33000) + (33000 * 2 ^ k - 33000) + 32959)) (rest := [.ref q16]) dX11_text_401 ki_X11_112 (cj_sb) rfl rfl (Nat.le_of_ble_eq_true rfl) (by omega) (by decide) ?_
        rintro bv344 -
        show R g mX11_text (k + 1 + 8) ((16 * 2 ^ k - 16) + (16 * 2 ^ k - 16) + 10) ((33000 * 2 ^ k - 33000) + (33000 * 2 ^ k - 33000) + 32959) 404 [(4, .ref q4), (3, .ref q3), (2, .ref q2), (1, .ref q1), (0, .ref a)] [.ref q16] ((q16, .inr (13, [.ref bv344, .int (0 : Int32), .int (0 : Int32), .int (nI ([] : List Int32).length)])) :: ((bv344, yA g 16 (fun _ => 0)) :: t0)) _
        refine r_aload_n 4 dX11_text_404 rfl ?_
        refine r_getm (v := .ref (tA k x)) (ci := 11) (fs := [.int (20 : Int32), .int (nI n), .int (nI o), .ref (tA k x), .ref (tA k y)]) dX11_text_405 fl_X11_40 (List.mem_cons_of_mem _ (List.mem_cons_of_mem _ hoK)) rfl ?_
        obtain ⟨fszz345, hfzz345⟩ := TM.cell k x (hma x rfl)
        refine r_room (x2 := ((16 * 2 ^ k - 16) + 10) + (16 * 2 ^ k - 16)) (y2 := ((33000 * 2 ^ k - 33000) + 32959) + (33000 * 2 ^ k - 33000)) (by omega) (by omega) ?_
        refine k_Vm (x := ((16 * 2 ^ k - 16) + 10)) (y := ((33000 * 2 ^ k - 33000) + 32959)) (rest := [.ref q16]) dX11_text_408 kv_X11_128 (cl_text hn hne k x _ (by omega) (TM.mono (fun p hp => (List.mem_cons_of_mem _ (List.mem_cons_of_mem _ (mt p hp)))) k x (hma x rfl)) hx) rfl rfl (List.mem_cons_of_mem _ (List.mem_cons_of_mem _ (mt _ hfzz345))) rfl (Nat.le_of_ble_eq_true rfl) (by omega) (by decide) ?_
        rintro zz345 hz346
        refine r_seg (ws2 := ((q16, .inr (13, [.ref bv344, .int (0 : Int32), .int (0 : Int32), .int (nI ([] : List Int32).length)])) :: ((bv344, yA g 16 (fun _ => 0)) :: ((sw g (txt k x).length zz345) ++ t0)))) [sw g (txt k x).length zz345, [(q16, .inr (13, [.ref bv344, .int (0 : Int32), .int (0 : Int32), .int (nI ([] : List Int32).length)]))], [(bv344, yA g 16 (fun _ => 0))], t0] [1, 2, 0, 3] rfl rfl rfl ?_
        have bn351 : (([] : List Int32) ++ txt k x).length ≤ (0 + (12 * 2 ^ k - 7)) := lnA (L := ([] : List Int32)) (L2 := txt k x) (n := 0) (n2 := (12 * 2 ^ k - 7)) (Nat.le_refl 0) (txt_len (by omega) (by omega) k x hx)
        refine k_V (x := ((16 * 2 ^ k - 16) + 9)) (y := ((33000 * 2 ^ k - 33000) + 28957)) (rest := []) 0 dX11_text_411 kv_X11_113 (cj_apX (L2 := txt k x) (z := zz345) hz346 BL.nil (Nat.le_trans bn351 (by omega))) rfl rfl rfl rfl (Nat.le_of_ble_eq_true rfl) (by omega) (by decide) ?_
        rintro ⟨bv347, bm348, bf349⟩ bh350
        try dsimp only at bh350
        show R g mX11_text (k + 1 + 8) ((16 * 2 ^ k - 16) + 9) ((33000 * 2 ^ k - 33000) + 28957) 414 [(4, .ref q4), (3, .ref q3), (2, .ref q2), (1, .ref q1), (0, .ref a)] [.ref q16] ((q16, .inr (13, [.ref bv347, .int (0 : Int32), .int (0 : Int32), .int (nI (([] : List Int32) ++ txt k x).length)])) :: ((bv347, yA g bm348 bf349) :: ((sw g (txt k x).length zz345) ++ t0))) _
        refine r_seg (ws2 := ((q16, .inr (13, [.ref bv347, .int (0 : Int32), .int (0 : Int32), .int (nI (([] : List Int32) ++ txt k x).length)])) :: ((bv347, yA g bm348 bf349) :: t0))) [[(q16, .inr (13, [.ref bv347, .int (0 : Int32), .int (0 : Int32), .int (nI (([] : List Int32) ++ txt k x).length)]))], [(bv347, yA g bm348 bf349)], sw g (txt k x).length zz345, t0] [0, 1, 3] rfl rfl rfl ?_
        refine r_aload_n 1 dX11_text_414 rfl ?_
        refine r_aload_n 4 dX11_text_415 rfl ?_
        refine r_getm (v := .int (20 : Int32)) (ci := 11) (fs := [.int (20 : Int32), .int (nI n), .int (nI o), .ref (tA k x), .ref (tA k y)]) dX11_text_416 fl_X11_7 (List.mem_cons_of_mem _ (List.mem_cons_of_mem _ hoK)) rfl ?_
        refine r_bipush (v := (20 : Int32)) dX11_text_419 (by decide) ?_
        refine r_isub dX11_text_421 ?_
        refine r_aaldm (t := 7) (n := 5) (f := (va_up (va_up (va_up (va_up (va_up (fun _ => none) 0 (some (gK g 38))) 1 (some (gK g 39))) 2 (some (gK g 40))) 3 (some (gK g 41))) 4 (some (gK g 42)))) (v := .ref (gK g 38)) dX11_text_422 rfl rfl (List.mem_cons_of_mem _ (List.mem_cons_of_mem _ m1)) (by decide) (by rfl) ?_
        have bn356 : ((([] : List Int32) ++ txt k x) ++ kT 38).length ≤ ((0 + (12 * 2 ^ k - 7)) + 1) := lnA (L := (([] : List Int32) ++ txt k x)) (L2 := kT 38) (n := (0 + (12 * 2 ^ k - 7))) (n2 := 1) bn351 (by decide)
        refine k_V (x := ((16 * 2 ^ k - 16) + 8)) (y := ((33000 * 2 ^ k - 33000) + 24955)) (rest := []) 0 dX11_text_423 kv_X11_113 (cj_apK (i := 38) (by decide) bh350 (Nat.le_trans bn356 (by omega))) rfl rfl rfl rfl (Nat.le_of_ble_eq_true rfl) (by omega) (by decide) ?_
        rintro ⟨bv352, bm353, bf354⟩ bh355
        try dsimp only at bh355
        show R g mX11_text (k + 1 + 8) ((16 * 2 ^ k - 16) + 8) ((33000 * 2 ^ k - 33000) + 24955) 426 [(4, .ref q4), (3, .ref q3), (2, .ref q2), (1, .ref q1), (0, .ref a)] [.ref q16] ((q16, .inr (13, [.ref bv352, .int (0 : Int32), .int (0 : Int32), .int (nI ((([] : List Int32) ++ txt k x) ++ kT 38).length)])) :: ((bv352, yA g bm353 bf354) :: t0)) _
        refine r_aload_n 4 dX11_text_426 rfl ?_
        refine r_getm (v := .ref (tA k y)) (ci := 11) (fs := [.int (20 : Int32), .int (nI n), .int (nI o), .ref (tA k x), .ref (tA k y)]) dX11_text_427 fl_X11_59 (List.mem_cons_of_mem _ (List.mem_cons_of_mem _ hoK)) rfl ?_
        obtain ⟨fszz357, hfzz357⟩ := TM.cell k y (hmb y rfl)
        refine r_room (x2 := 8 + (16 * 2 ^ k - 16)) (y2 := 24955 + (33000 * 2 ^ k - 33000)) (by omega) (by omega) ?_
        refine k_Vm (x := 8) (y := 24955) (rest := [.ref q16]) dX11_text_430 kv_X11_128 (cl_text hn hne k y _ (by omega) (TM.mono (fun p hp => (List.mem_cons_of_mem _ (List.mem_cons_of_mem _ (mt p hp)))) k y (hmb y rfl)) hy) rfl rfl (List.mem_cons_of_mem _ (List.mem_cons_of_mem _ (mt _ hfzz357))) rfl (Nat.le_of_ble_eq_true rfl) (by omega) (by decide) ?_
        rintro zz357 hz358
        refine r_seg (ws2 := ((q16, .inr (13, [.ref bv352, .int (0 : Int32), .int (0 : Int32), .int (nI ((([] : List Int32) ++ txt k x) ++ kT 38).length)])) :: ((bv352, yA g bm353 bf354) :: ((sw g (txt k y).length zz357) ++ t0)))) [sw g (txt k y).length zz357, [(q16, .inr (13, [.ref bv352, .int (0 : Int32), .int (0 : Int32), .int (nI ((([] : List Int32) ++ txt k x) ++ kT 38).length)]))], [(bv352, yA g bm353 bf354)], t0] [1, 2, 0, 3] rfl rfl rfl ?_
        have bn363 : (((([] : List Int32) ++ txt k x) ++ kT 38) ++ txt k y).length ≤ (((0 + (12 * 2 ^ k - 7)) + 1) + (12 * 2 ^ k - 7)) := lnA (L := ((([] : List Int32) ++ txt k x) ++ kT 38)) (L2 := txt k y) (n := ((0 + (12 * 2 ^ k - 7)) + 1)) (n2 := (12 * 2 ^ k - 7)) bn356 (txt_len (by omega) (by omega) k y hy)
        refine k_V (x := 7) (y := 20953) (rest := []) 0 dX11_text_433 kv_X11_113 (cj_apX (L2 := txt k y) (z := zz357) hz358 bh355 (Nat.le_trans bn363 (by omega))) rfl rfl rfl rfl (Nat.le_of_ble_eq_true rfl) (by omega) (by decide) ?_
        rintro ⟨bv359, bm360, bf361⟩ bh362
        try dsimp only at bh362
        show R g mX11_text (k + 1 + 8) 7 20953 436 [(4, .ref q4), (3, .ref q3), (2, .ref q2), (1, .ref q1), (0, .ref a)] [.ref q16] ((q16, .inr (13, [.ref bv359, .int (0 : Int32), .int (0 : Int32), .int (nI (((([] : List Int32) ++ txt k x) ++ kT 38) ++ txt k y).length)])) :: ((bv359, yA g bm360 bf361) :: ((sw g (txt k y).length zz357) ++ t0))) _
        refine r_seg (ws2 := ((q16, .inr (13, [.ref bv359, .int (0 : Int32), .int (0 : Int32), .int (nI (((([] : List Int32) ++ txt k x) ++ kT 38) ++ txt k y).length)])) :: ((bv359, yA g bm360 bf361) :: t0))) [[(q16, .inr (13, [.ref bv359, .int (0 : Int32), .int (0 : Int32), .int (nI (((([] : List Int32) ++ txt k x) ++ kT 38) ++ txt k y).length)]))], [(bv359, yA g bm360 bf361)], sw g (txt k y).length zz357, t0] [0, 1, 3] rfl rfl rfl ?_
        refine k_V (x := 5) (y := 16947) (rest := []) 0 dX11_text_436 kv_X11_120 (cj_strB bh362) rfl rfl rfl rfl (Nat.le_of_ble_eq_true rfl) (by omega) (by decide) ?_
        rintro ⟨ts364, tb365, tf366⟩ th367
        try dsimp only at th367
        show R g mX11_text (k + 1 + 8) 5 16947 439 [(4, .ref q4), (3, .ref q3), (2, .ref q2), (1, .ref q1), (0, .ref a)] [.ref ts364] ((ts364, .inr (12, [.ref tb365, .int (0 : Int32), .int (0 : Int32), .int (0 : Int32)])) :: ((tb365, yA g (((([] : List Int32) ++ txt k x) ++ kT 38) ++ txt k y).length tf366) :: ((q16, .inr (13, [.ref bv359, .int (0 : Int32), .int (0 : Int32), .int (nI (((([] : List Int32) ++ txt k x) ++ kT 38) ++ txt k y).length)])) :: ((bv359, yA g bm360 bf361) :: t0)))) _
        rw [e0]
        refine r_seg (ws2 := ((ts364, .inr (12, [.ref tb365, .int (0 : Int32), .int (0 : Int32), .int (0 : Int32)])) :: ((tb365, yA g (((([] : List Int32) ++ txt k x) ++ kT 38) ++ txt k y).length tf366) :: t))) [[(ts364, .inr (12, [.ref tb365, .int (0 : Int32), .int (0 : Int32), .int (0 : Int32)]))], [(tb365, yA g (((([] : List Int32) ++ txt k x) ++ kT 38) ++ txt k y).length tf366)], [(q16, .inr (13, [.ref bv359, .int (0 : Int32), .int (0 : Int32), .int (nI (((([] : List Int32) ++ txt k x) ++ kT 38) ++ txt k y).length)]))], [(bv359, yA g bm360 bf361)], [(q4, qA g 7 4 (va_up (va_up (va_up (va_up (fun _ => none) 0 (some (gK g 43))) 1 (some (gK g 44))) 2 (some (gK g 45))) 3 (some (gK g 46))))], [(q3, qA g 7 5 (va_up (va_up (va_up (va_up (va_up (fun _ => none) 0 (some (gK g 38))) 1 (some (gK g 39))) 2 (some (gK g 40))) 3 (some (gK g 41))) 4 (some (gK g 42))))], [(q2, qA g 7 6 (va_up (va_up (va_up (va_up (va_up (va_up (fun _ => none) 0 (some (gK g 32))) 1 (some (gK g 33))) 2 (some (gK g 34))) 3 (some (gK g 35))) 4 (some (gK g 36))) 5 (some (gK g 37))))], [(q1, qA g 7 6 (va_up (va_up (va_up (va_up (va_up (va_up (fun _ => none) 0 (some (gK g iE))) 1 (some (gK g 27))) 2 (some (gK g 28))) 3 (some (gK g 29))) 4 (some (gK g 30))) 5 (some (gK g 31))))], t] [0, 1, 8] rfl rfl rfl ?_
        refine r_aret dX11_text_439 rfl rfl (Or.inr ⟨_, rfl⟩) ?_
        exact Dq.mk (Sum.inr (ts364, tb365, tf366)) rfl rfl th367
      · have hoK : (a, .inr (11, [.int (21 : Int32), .int (nI n), .int (nI o), .ref (tA k x), .ref (tA k y)])) ∈ t0 := mt _ ho
        have hE : txt (k + 1) ((a, 21, n, o), some x, some y) = (((([] : List Int32) ++ (txt k x)) ++ kT 39) ++ (txt k y)) := rfl
        rw [hE]
        show R g mX11_text (k + 1 + 8) ((16 * 2 ^ k - 16) + (16 * 2 ^ k - 16) + 12) ((33000 * 2 ^ k - 33000) + (33000 * 2 ^ k - 33000) + 32979) 128 [(4, .ref q4), (3, .ref q3), (2, .ref q2), (1, .ref q1), (0, .ref a)] [] t0 _
        refine r_aload_n 4 dX11_text_128 rfl ?_
        refine r_getm (v := .int (21 : Int32)) (ci := 11) (fs := [.int (21 : Int32), .int (nI n), .int (nI o), .ref (tA k x), .ref (tA k y)]) dX11_text_129 fl_X11_7 hoK rfl ?_
        refine r_if_ne (tgt := 158) dX11_text_132 (by decide) (fun _ => ?_) (fun hc => absurd hc (by decide))
        refine r_aload_n 4 dX11_text_158 rfl ?_
        refine r_getm (v := .int (21 : Int32)) (ci := 11) (fs := [.int (21 : Int32), .int (nI n), .int (nI o), .ref (tA k x), .ref (tA k y)]) dX11_text_159 fl_X11_7 hoK rfl ?_
        refine r_iconst (v := (4 : Int32)) dX11_text_162 (by decide) ?_
        refine r_icmp_ge (tgt := 173) dX11_text_163 (by decide) (fun _ => ?_) (fun hc => absurd (by decide) hc)
        refine r_aload_n 4 dX11_text_173 rfl ?_
        refine r_getm (v := .int (21 : Int32)) (ci := 11) (fs := [.int (21 : Int32), .int (nI n), .int (nI o), .ref (tA k x), .ref (tA k y)]) dX11_text_174 fl_X11_7 hoK rfl ?_
        refine r_bipush (v := (6 : Int32)) dX11_text_177 (by decide) ?_
        refine r_icmp_ge (tgt := 214) dX11_text_179 (by decide) (fun _ => ?_) (fun hc => absurd (by decide) hc)
        refine r_aload_n 4 dX11_text_214 rfl ?_
        refine r_getm (v := .int (21 : Int32)) (ci := 11) (fs := [.int (21 : Int32), .int (nI n), .int (nI o), .ref (tA k x), .ref (tA k y)]) dX11_text_215 fl_X11_7 hoK rfl ?_
        refine r_bipush (v := (6 : Int32)) dX11_text_218 (by decide) ?_
        refine r_icmp_ne (tgt := 254) dX11_text_220 (by decide) (fun _ => ?_) (fun hc => absurd hc (by decide))
        refine r_aload_n 4 dX11_text_254 rfl ?_
        refine r_getm (v := .int (21 : Int32)) (ci := 11) (fs := [.int (21 : Int32), .int (nI n), .int (nI o), .ref (tA k x), .ref (tA k y)]) dX11_text_255 fl_X11_7 hoK rfl ?_
        refine r_bipush (v := (11 : Int32)) dX11_text_258 (by decide) ?_
        refine r_icmp_ge (tgt := 326) dX11_text_260 (by decide) (fun _ => ?_) (fun hc => absurd (by decide) hc)
        refine r_aload_n 4 dX11_text_326 rfl ?_
        refine r_getm (v := .int (21 : Int32)) (ci := 11) (fs := [.int (21 : Int32), .int (nI n), .int (nI o), .ref (tA k x), .ref (tA k y)]) dX11_text_327 fl_X11_7 hoK rfl ?_
        refine r_bipush (v := (13 : Int32)) dX11_text_330 (by decide) ?_
        refine r_icmp_ge (tgt := 388) dX11_text_332 (by decide) (fun _ => ?_) (fun hc => absurd (by decide) hc)
        refine r_aload_n 4 dX11_text_388 rfl ?_
        refine r_getm (v := .int (21 : Int32)) (ci := 11) (fs := [.int (21 : Int32), .int (nI n), .int (nI o), .ref (tA k x), .ref (tA k y)]) dX11_text_389 fl_X11_7 hoK rfl ?_
        refine r_bipush (v := (25 : Int32)) dX11_text_392 (by decide) ?_
        refine r_icmp_ge (tgt := 440) dX11_text_394 (by decide) (fun hc => absurd hc (by decide)) (fun _ => ?_)
        refine r_new (N := 4) (x := ((16 * 2 ^ k - 16) + (16 * 2 ^ k - 16) + 11)) (y := ((33000 * 2 ^ k - 33000) + (33000 * 2 ^ k - 33000) + 32975)) dX11_text_397 nl_X11_110 (fun q17 => ?_)
        refine r_dup dX11_text_400 rfl ?_
        refine k_I (x := ((16 * 2 ^ k - 16) + (16 * 2 ^ k - 16) + 10)) (y := ((33000 * 2 ^ k - 33000) + (33000 * 2 ^ k - 33000) + 32959)) (rest := [.ref q17]) dX11_text_401 ki_X11_112 (cj_sb) rfl rfl (Nat.le_of_ble_eq_true rfl) (by omega) (by decide) ?_
        rintro bv368 -
        show R g mX11_text (k + 1 + 8) ((16 * 2 ^ k - 16) + (16 * 2 ^ k - 16) + 10) ((33000 * 2 ^ k - 33000) + (33000 * 2 ^ k - 33000) + 32959) 404 [(4, .ref q4), (3, .ref q3), (2, .ref q2), (1, .ref q1), (0, .ref a)] [.ref q17] ((q17, .inr (13, [.ref bv368, .int (0 : Int32), .int (0 : Int32), .int (nI ([] : List Int32).length)])) :: ((bv368, yA g 16 (fun _ => 0)) :: t0)) _
        refine r_aload_n 4 dX11_text_404 rfl ?_
        refine r_getm (v := .ref (tA k x)) (ci := 11) (fs := [.int (21 : Int32), .int (nI n), .int (nI o), .ref (tA k x), .ref (tA k y)]) dX11_text_405 fl_X11_40 (List.mem_cons_of_mem _ (List.mem_cons_of_mem _ hoK)) rfl ?_
        obtain ⟨fszz369, hfzz369⟩ := TM.cell k x (hma x rfl)
        refine r_room (x2 := ((16 * 2 ^ k - 16) + 10) + (16 * 2 ^ k - 16)) (y2 := ((33000 * 2 ^ k - 33000) + 32959) + (33000 * 2 ^ k - 33000)) (by omega) (by omega) ?_
        refine k_Vm (x := ((16 * 2 ^ k - 16) + 10)) (y := ((33000 * 2 ^ k - 33000) + 32959)) (rest := [.ref q17]) dX11_text_408 kv_X11_128 (cl_text hn hne k x _ (by omega) (TM.mono (fun p hp => (List.mem_cons_of_mem _ (List.mem_cons_of_mem _ (mt p hp)))) k x (hma x rfl)) hx) rfl rfl (List.mem_cons_of_mem _ (List.mem_cons_of_mem _ (mt _ hfzz369))) rfl (Nat.le_of_ble_eq_true rfl) (by omega) (by decide) ?_
        rintro zz369 hz370
        refine r_seg (ws2 := ((q17, .inr (13, [.ref bv368, .int (0 : Int32), .int (0 : Int32), .int (nI ([] : List Int32).length)])) :: ((bv368, yA g 16 (fun _ => 0)) :: ((sw g (txt k x).length zz369) ++ t0)))) [sw g (txt k x).length zz369, [(q17, .inr (13, [.ref bv368, .int (0 : Int32), .int (0 : Int32), .int (nI ([] : List Int32).length)]))], [(bv368, yA g 16 (fun _ => 0))], t0] [1, 2, 0, 3] rfl rfl rfl ?_
        have bn375 : (([] : List Int32) ++ txt k x).length ≤ (0 + (12 * 2 ^ k - 7)) := lnA (L := ([] : List Int32)) (L2 := txt k x) (n := 0) (n2 := (12 * 2 ^ k - 7)) (Nat.le_refl 0) (txt_len (by omega) (by omega) k x hx)
        refine k_V (x := ((16 * 2 ^ k - 16) + 9)) (y := ((33000 * 2 ^ k - 33000) + 28957)) (rest := []) 0 dX11_text_411 kv_X11_113 (cj_apX (L2 := txt k x) (z := zz369) hz370 BL.nil (Nat.le_trans bn375 (by omega))) rfl rfl rfl rfl (Nat.le_of_ble_eq_true rfl) (by omega) (by decide) ?_
        rintro ⟨bv371, bm372, bf373⟩ bh374
        try dsimp only at bh374
        show R g mX11_text (k + 1 + 8) ((16 * 2 ^ k - 16) + 9) ((33000 * 2 ^ k - 33000) + 28957) 414 [(4, .ref q4), (3, .ref q3), (2, .ref q2), (1, .ref q1), (0, .ref a)] [.ref q17] ((q17, .inr (13, [.ref bv371, .int (0 : Int32), .int (0 : Int32), .int (nI (([] : List Int32) ++ txt k x).length)])) :: ((bv371, yA g bm372 bf373) :: ((sw g (txt k x).length zz369) ++ t0))) _
        refine r_seg (ws2 := ((q17, .inr (13, [.ref bv371, .int (0 : Int32), .int (0 : Int32), .int (nI (([] : List Int32) ++ txt k x).length)])) :: ((bv371, yA g bm372 bf373) :: t0))) [[(q17, .inr (13, [.ref bv371, .int (0 : Int32), .int (0 : Int32), .int (nI (([] : List Int32) ++ txt k x).length)]))], [(bv371, yA g bm372 bf373)], sw g (txt k x).length zz369, t0] [0, 1, 3] rfl rfl rfl ?_
        refine r_aload_n 1 dX11_text_414 rfl ?_
        refine r_aload_n 4 dX11_text_415 rfl ?_
        refine r_getm (v := .int (21 : Int32)) (ci := 11) (fs := [.int (21 : Int32), .int (nI n), .int (nI o), .ref (tA k x), .ref (tA k y)]) dX11_text_416 fl_X11_7 (List.mem_cons_of_mem _ (List.mem_cons_of_mem _ hoK)) rfl ?_
        refine r_bipush (v := (20 : Int32)) dX11_text_419 (by decide) ?_
        refine r_isub dX11_text_421 ?_
        refine r_aaldm (t := 7) (n := 5) (f := (va_up (va_up (va_up (va_up (va_up (fun _ => none) 0 (some (gK g 38))) 1 (some (gK g 39))) 2 (some (gK g 40))) 3 (some (gK g 41))) 4 (some (gK g 42)))) (v := .ref (gK g 39)) dX11_text_422 rfl rfl (List.mem_cons_of_mem _ (List.mem_cons_of_mem _ m1)) (by decide) (by rfl) ?_
        have bn380 : ((([] : List Int32) ++ txt k x) ++ kT 39).length ≤ ((0 + (12 * 2 ^ k - 7)) + 1) := lnA (L := (([] : List Int32) ++ txt k x)) (L2 := kT 39) (n := (0 + (12 * 2 ^ k - 7))) (n2 := 1) bn375 (by decide)
        refine k_V (x := ((16 * 2 ^ k - 16) + 8)) (y := ((33000 * 2 ^ k - 33000) + 24955)) (rest := []) 0 dX11_text_423 kv_X11_113 (cj_apK (i := 39) (by decide) bh374 (Nat.le_trans bn380 (by omega))) rfl rfl rfl rfl (Nat.le_of_ble_eq_true rfl) (by omega) (by decide) ?_
        rintro ⟨bv376, bm377, bf378⟩ bh379
        try dsimp only at bh379
        show R g mX11_text (k + 1 + 8) ((16 * 2 ^ k - 16) + 8) ((33000 * 2 ^ k - 33000) + 24955) 426 [(4, .ref q4), (3, .ref q3), (2, .ref q2), (1, .ref q1), (0, .ref a)] [.ref q17] ((q17, .inr (13, [.ref bv376, .int (0 : Int32), .int (0 : Int32), .int (nI ((([] : List Int32) ++ txt k x) ++ kT 39).length)])) :: ((bv376, yA g bm377 bf378) :: t0)) _
        refine r_aload_n 4 dX11_text_426 rfl ?_
        refine r_getm (v := .ref (tA k y)) (ci := 11) (fs := [.int (21 : Int32), .int (nI n), .int (nI o), .ref (tA k x), .ref (tA k y)]) dX11_text_427 fl_X11_59 (List.mem_cons_of_mem _ (List.mem_cons_of_mem _ hoK)) rfl ?_
        obtain ⟨fszz381, hfzz381⟩ := TM.cell k y (hmb y rfl)
        refine r_room (x2 := 8 + (16 * 2 ^ k - 16)) (y2 := 24955 + (33000 * 2 ^ k - 33000)) (by omega) (by omega) ?_
        refine k_Vm (x := 8) (y := 24955) (rest := [.ref q17]) dX11_text_430 kv_X11_128 (cl_text hn hne k y _ (by omega) (TM.mono (fun p hp => (List.mem_cons_of_mem _ (List.mem_cons_of_mem _ (mt p hp)))) k y (hmb y rfl)) hy) rfl rfl (List.mem_cons_of_mem _ (List.mem_cons_of_mem _ (mt _ hfzz381))) rfl (Nat.le_of_ble_eq_true rfl) (by omega) (by decide) ?_
        rintro zz381 hz382
        refine r_seg (ws2 := ((q17, .inr (13, [.ref bv376, .int (0 : Int32), .int (0 : Int32), .int (nI ((([] : List Int32) ++ txt k x) ++ kT 39).length)])) :: ((bv376, yA g bm377 bf378) :: ((sw g (txt k y).length zz381) ++ t0)))) [sw g (txt k y).length zz381, [(q17, .inr (13, [.ref bv376, .int (0 : Int32), .int (0 : Int32), .int (nI ((([] : List Int32) ++ txt k x) ++ kT 39).length)]))], [(bv376, yA g bm377 bf378)], t0] [1, 2, 0, 3] rfl rfl rfl ?_
        have bn387 : (((([] : List Int32) ++ txt k x) ++ kT 39) ++ txt k y).length ≤ (((0 + (12 * 2 ^ k - 7)) + 1) + (12 * 2 ^ k - 7)) := lnA (L := ((([] : List Int32) ++ txt k x) ++ kT 39)) (L2 := txt k y) (n := ((0 + (12 * 2 ^ k - 7)) + 1)) (n2 := (12 * 2 ^ k - 7)) bn380 (txt_len (by omega) (by omega) k y hy)
        refine k_V (x := 7) (y := 20953) (rest := []) 0 dX11_text_433 kv_X11_113 (cj_apX (L2 := txt k y) (z := zz381) hz382 bh379 (Nat.le_trans bn387 (by omega))) rfl rfl rfl rfl (Nat.le_of_ble_eq_true rfl) (by omega) (by decide) ?_
        rintro ⟨bv383, bm384, bf385⟩ bh386
        try dsimp only at bh386
        show R g mX11_text (k + 1 + 8) 7 20953 436 [(4, .ref q4), (3, .ref q3), (2, .ref q2), (1, .ref q1), (0, .ref a)] [.ref q17] ((q17, .inr (13, [.ref bv383, .int (0 : Int32), .int (0 : Int32), .int (nI (((([] : List Int32) ++ txt k x) ++ kT 39) ++ txt k y).length)])) :: ((bv383, yA g bm384 bf385) :: ((sw g (txt k y).length zz381) ++ t0))) _
        refine r_seg (ws2 := ((q17, .inr (13, [.ref bv383, .int (0 : Int32), .int (0 : Int32), .int (nI (((([] : List Int32) ++ txt k x) ++ kT 39) ++ txt k y).length)])) :: ((bv383, yA g bm384 bf385) :: t0))) [[(q17, .inr (13, [.ref bv383, .int (0 : Int32), .int (0 : Int32), .int (nI (((([] : List Int32) ++ txt k x) ++ kT 39) ++ txt k y).length)]))], [(bv383, yA g bm384 bf385)], sw g (txt k y).length zz381, t0] [0, 1, 3] rfl rfl rfl ?_
        refine k_V (x := 5) (y := 16947) (rest := []) 0 dX11_text_436 kv_X11_120 (cj_strB bh386) rfl rfl rfl rfl (Nat.le_of_ble_eq_true rfl) (by omega) (by decide) ?_
        rintro ⟨ts388, tb389, tf390⟩ th391
        try dsimp only at th391
        show R g mX11_text (k + 1 + 8) 5 16947 439 [(4, .ref q4), (3, .ref q3), (2, .ref q2), (1, .ref q1), (0, .ref a)] [.ref ts388] ((ts388, .inr (12, [.ref tb389, .int (0 : Int32), .int (0 : Int32), .int (0 : Int32)])) :: ((tb389, yA g (((([] : List Int32) ++ txt k x) ++ kT 39) ++ txt k y).length tf390) :: ((q17, .inr (13, [.ref bv383, .int (0 : Int32), .int (0 : Int32), .int (nI (((([] : List Int32) ++ txt k x) ++ kT 39) ++ txt k y).length)])) :: ((bv383, yA g bm384 bf385) :: t0)))) _
        rw [e0]
        refine r_seg (ws2 := ((ts388, .inr (12, [.ref tb389, .int (0 : Int32), .int (0 : Int32), .int (0 : Int32)])) :: ((tb389, yA g (((([] : List Int32) ++ txt k x) ++ kT 39) ++ txt k y).length tf390) :: t))) [[(ts388, .inr (12, [.ref tb389, .int (0 : Int32), .int (0 : Int32), .int (0 : Int32)]))], [(tb389, yA g (((([] : List Int32) ++ txt k x) ++ kT 39) ++ txt k y).length tf390)], [(q17, .inr (13, [.ref bv383, .int (0 : Int32), .int (0 : Int32), .int (nI (((([] : List Int32) ++ txt k x) ++ kT 39) ++ txt k y).length)]))], [(bv383, yA g bm384 bf385)], [(q4, qA g 7 4 (va_up (va_up (va_up (va_up (fun _ => none) 0 (some (gK g 43))) 1 (some (gK g 44))) 2 (some (gK g 45))) 3 (some (gK g 46))))], [(q3, qA g 7 5 (va_up (va_up (va_up (va_up (va_up (fun _ => none) 0 (some (gK g 38))) 1 (some (gK g 39))) 2 (some (gK g 40))) 3 (some (gK g 41))) 4 (some (gK g 42))))], [(q2, qA g 7 6 (va_up (va_up (va_up (va_up (va_up (va_up (fun _ => none) 0 (some (gK g 32))) 1 (some (gK g 33))) 2 (some (gK g 34))) 3 (some (gK g 35))) 4 (some (gK g 36))) 5 (some (gK g 37))))], [(q1, qA g 7 6 (va_up (va_up (va_up (va_up (va_up (va_up (fun _ => none) 0 (some (gK g iE))) 1 (some (gK g 27))) 2 (some (gK g 28))) 3 (some (gK g 29))) 4 (some (gK g 30))) 5 (some (gK g 31))))], t] [0, 1, 8] rfl rfl rfl ?_
        refine r_aret dX11_text_439 rfl rfl (Or.inr ⟨_, rfl⟩) ?_
        exact Dq.mk (Sum.inr (ts388, tb389, tf390)) rfl rfl th391
      · have hoK : (a, .inr (11, [.int (22 : Int32), .int (nI n), .int (nI o), .ref (tA k x), .ref (tA k y)])) ∈ t0 := mt _ ho
        have hE : txt (k + 1) ((a, 22, n, o), some x, some y) = (((([] : List Int32) ++ (txt k x)) ++ kT 40) ++ (txt k y)) := rfl
        rw [hE]
        show R g mX11_text (k + 1 + 8) ((16 * 2 ^ k - 16) + (16 * 2 ^ k - 16) + 12) ((33000 * 2 ^ k - 33000) + (33000 * 2 ^ k - 33000) + 32979) 128 [(4, .ref q4), (3, .ref q3), (2, .ref q2), (1, .ref q1), (0, .ref a)] [] t0 _
        refine r_aload_n 4 dX11_text_128 rfl ?_
        refine r_getm (v := .int (22 : Int32)) (ci := 11) (fs := [.int (22 : Int32), .int (nI n), .int (nI o), .ref (tA k x), .ref (tA k y)]) dX11_text_129 fl_X11_7 hoK rfl ?_
        refine r_if_ne (tgt := 158) dX11_text_132 (by decide) (fun _ => ?_) (fun hc => absurd hc (by decide))
        refine r_aload_n 4 dX11_text_158 rfl ?_
        refine r_getm (v := .int (22 : Int32)) (ci := 11) (fs := [.int (22 : Int32), .int (nI n), .int (nI o), .ref (tA k x), .ref (tA k y)]) dX11_text_159 fl_X11_7 hoK rfl ?_
        refine r_iconst (v := (4 : Int32)) dX11_text_162 (by decide) ?_
        refine r_icmp_ge (tgt := 173) dX11_text_163 (by decide) (fun _ => ?_) (fun hc => absurd (by decide) hc)
        refine r_aload_n 4 dX11_text_173 rfl ?_
        refine r_getm (v := .int (22 : Int32)) (ci := 11) (fs := [.int (22 : Int32), .int (nI n), .int (nI o), .ref (tA k x), .ref (tA k y)]) dX11_text_174 fl_X11_7 hoK rfl ?_
        refine r_bipush (v := (6 : Int32)) dX11_text_177 (by decide) ?_
        refine r_icmp_ge (tgt := 214) dX11_text_179 (by decide) (fun _ => ?_) (fun hc => absurd (by decide) hc)
        refine r_aload_n 4 dX11_text_214 rfl ?_
        refine r_getm (v := .int (22 : Int32)) (ci := 11) (fs := [.int (22 : Int32), .int (nI n), .int (nI o), .ref (tA k x), .ref (tA k y)]) dX11_text_215 fl_X11_7 hoK rfl ?_
        refine r_bipush (v := (6 : Int32)) dX11_text_218 (by decide) ?_
        refine r_icmp_ne (tgt := 254) dX11_text_220 (by decide) (fun _ => ?_) (fun hc => absurd hc (by decide))
        refine r_aload_n 4 dX11_text_254 rfl ?_
        refine r_getm (v := .int (22 : Int32)) (ci := 11) (fs := [.int (22 : Int32), .int (nI n), .int (nI o), .ref (tA k x), .ref (tA k y)]) dX11_text_255 fl_X11_7 hoK rfl ?_
        refine r_bipush (v := (11 : Int32)) dX11_text_258 (by decide) ?_
        refine r_icmp_ge (tgt := 326) dX11_text_260 (by decide) (fun _ => ?_) (fun hc => absurd (by decide) hc)
        refine r_aload_n 4 dX11_text_326 rfl ?_
        refine r_getm (v := .int (22 : Int32)) (ci := 11) (fs := [.int (22 : Int32), .int (nI n), .int (nI o), .ref (tA k x), .ref (tA k y)]) dX11_text_327 fl_X11_7 hoK rfl ?_
        refine r_bipush (v := (13 : Int32)) dX11_text_330 (by decide) ?_
        refine r_icmp_ge (tgt := 388) dX11_text_332 (by decide) (fun _ => ?_) (fun hc => absurd (by decide) hc)
        refine r_aload_n 4 dX11_text_388 rfl ?_
        refine r_getm (v := .int (22 : Int32)) (ci := 11) (fs := [.int (22 : Int32), .int (nI n), .int (nI o), .ref (tA k x), .ref (tA k y)]) dX11_text_389 fl_X11_7 hoK rfl ?_
        refine r_bipush (v := (25 : Int32)) dX11_text_392 (by decide) ?_
        refine r_icmp_ge (tgt := 440) dX11_text_394 (by decide) (fun hc => absurd hc (by decide)) (fun _ => ?_)
        refine r_new (N := 4) (x := ((16 * 2 ^ k - 16) + (16 * 2 ^ k - 16) + 11)) (y := ((33000 * 2 ^ k - 33000) + (33000 * 2 ^ k - 33000) + 32975)) dX11_text_397 nl_X11_110 (fun q18 => ?_)
        refine r_dup dX11_text_400 rfl ?_
        refine k_I (x := ((16 * 2 ^ k - 16) + (16 * 2 ^ k - 16) + 10)) (y := ((33000 * 2 ^ k - 33000) + (33000 * 2 ^ k - 33000) + 32959)) (rest := [.ref q18]) dX11_text_401 ki_X11_112 (cj_sb) rfl rfl (Nat.le_of_ble_eq_true rfl) (by omega) (by decide) ?_
        rintro bv392 -
        show R g mX11_text (k + 1 + 8) ((16 * 2 ^ k - 16) + (16 * 2 ^ k - 16) + 10) ((33000 * 2 ^ k - 33000) + (33000 * 2 ^ k - 33000) + 32959) 404 [(4, .ref q4), (3, .ref q3), (2, .ref q2), (1, .ref q1), (0, .ref a)] [.ref q18] ((q18, .inr (13, [.ref bv392, .int (0 : Int32), .int (0 : Int32), .int (nI ([] : List Int32).length)])) :: ((bv392, yA g 16 (fun _ => 0)) :: t0)) _
        refine r_aload_n 4 dX11_text_404 rfl ?_
        refine r_getm (v := .ref (tA k x)) (ci := 11) (fs := [.int (22 : Int32), .int (nI n), .int (nI o), .ref (tA k x), .ref (tA k y)]) dX11_text_405 fl_X11_40 (List.mem_cons_of_mem _ (List.mem_cons_of_mem _ hoK)) rfl ?_
        obtain ⟨fszz393, hfzz393⟩ := TM.cell k x (hma x rfl)
        refine r_room (x2 := ((16 * 2 ^ k - 16) + 10) + (16 * 2 ^ k - 16)) (y2 := ((33000 * 2 ^ k - 33000) + 32959) + (33000 * 2 ^ k - 33000)) (by omega) (by omega) ?_
        refine k_Vm (x := ((16 * 2 ^ k - 16) + 10)) (y := ((33000 * 2 ^ k - 33000) + 32959)) (rest := [.ref q18]) dX11_text_408 kv_X11_128 (cl_text hn hne k x _ (by omega) (TM.mono (fun p hp => (List.mem_cons_of_mem _ (List.mem_cons_of_mem _ (mt p hp)))) k x (hma x rfl)) hx) rfl rfl (List.mem_cons_of_mem _ (List.mem_cons_of_mem _ (mt _ hfzz393))) rfl (Nat.le_of_ble_eq_true rfl) (by omega) (by decide) ?_
        rintro zz393 hz394
        refine r_seg (ws2 := ((q18, .inr (13, [.ref bv392, .int (0 : Int32), .int (0 : Int32), .int (nI ([] : List Int32).length)])) :: ((bv392, yA g 16 (fun _ => 0)) :: ((sw g (txt k x).length zz393) ++ t0)))) [sw g (txt k x).length zz393, [(q18, .inr (13, [.ref bv392, .int (0 : Int32), .int (0 : Int32), .int (nI ([] : List Int32).length)]))], [(bv392, yA g 16 (fun _ => 0))], t0] [1, 2, 0, 3] rfl rfl rfl ?_
        have bn399 : (([] : List Int32) ++ txt k x).length ≤ (0 + (12 * 2 ^ k - 7)) := lnA (L := ([] : List Int32)) (L2 := txt k x) (n := 0) (n2 := (12 * 2 ^ k - 7)) (Nat.le_refl 0) (txt_len (by omega) (by omega) k x hx)
        refine k_V (x := ((16 * 2 ^ k - 16) + 9)) (y := ((33000 * 2 ^ k - 33000) + 28957)) (rest := []) 0 dX11_text_411 kv_X11_113 (cj_apX (L2 := txt k x) (z := zz393) hz394 BL.nil (Nat.le_trans bn399 (by omega))) rfl rfl rfl rfl (Nat.le_of_ble_eq_true rfl) (by omega) (by decide) ?_
        rintro ⟨bv395, bm396, bf397⟩ bh398
        try dsimp only at bh398
        show R g mX11_text (k + 1 + 8) ((16 * 2 ^ k - 16) + 9) ((33000 * 2 ^ k - 33000) + 28957) 414 [(4, .ref q4), (3, .ref q3), (2, .ref q2), (1, .ref q1), (0, .ref a)] [.ref q18] ((q18, .inr (13, [.ref bv395, .int (0 : Int32), .int (0 : Int32), .int (nI (([] : List Int32) ++ txt k x).length)])) :: ((bv395, yA g bm396 bf397) :: ((sw g (txt k x).length zz393) ++ t0))) _
        refine r_seg (ws2 := ((q18, .inr (13, [.ref bv395, .int (0 : Int32), .int (0 : Int32), .int (nI (([] : List Int32) ++ txt k x).length)])) :: ((bv395, yA g bm396 bf397) :: t0))) [[(q18, .inr (13, [.ref bv395, .int (0 : Int32), .int (0 : Int32), .int (nI (([] : List Int32) ++ txt k x).length)]))], [(bv395, yA g bm396 bf397)], sw g (txt k x).length zz393, t0] [0, 1, 3] rfl rfl rfl ?_
        refine r_aload_n 1 dX11_text_414 rfl ?_
        refine r_aload_n 4 dX11_text_415 rfl ?_
        refine r_getm (v := .int (22 : Int32)) (ci := 11) (fs := [.int (22 : Int32), .int (nI n), .int (nI o), .ref (tA k x), .ref (tA k y)]) dX11_text_416 fl_X11_7 (List.mem_cons_of_mem _ (List.mem_cons_of_mem _ hoK)) rfl ?_
        refine r_bipush (v := (20 : Int32)) dX11_text_419 (by decide) ?_
        refine r_isub dX11_text_421 ?_
        refine r_aaldm (t := 7) (n := 5) (f := (va_up (va_up (va_up (va_up (va_up (fun _ => none) 0 (some (gK g 38))) 1 (some (gK g 39))) 2 (some (gK g 40))) 3 (some (gK g 41))) 4 (some (gK g 42)))) (v := .ref (gK g 40)) dX11_text_422 rfl rfl (List.mem_cons_of_mem _ (List.mem_cons_of_mem _ m1)) (by decide) (by rfl) ?_
        have bn404 : ((([] : List Int32) ++ txt k x) ++ kT 40).length ≤ ((0 + (12 * 2 ^ k - 7)) + 1) := lnA (L := (([] : List Int32) ++ txt k x)) (L2 := kT 40) (n := (0 + (12 * 2 ^ k - 7))) (n2 := 1) bn399 (by decide)
        refine k_V (x := ((16 * 2 ^ k - 16) + 8)) (y := ((33000 * 2 ^ k - 33000) + 24955)) (rest := []) 0 dX11_text_423 kv_X11_113 (cj_apK (i := 40) (by decide) bh398 (Nat.le_trans bn404 (by omega))) rfl rfl rfl rfl (Nat.le_of_ble_eq_true rfl) (by omega) (by decide) ?_
        rintro ⟨bv400, bm401, bf402⟩ bh403
        try dsimp only at bh403
        show R g mX11_text (k + 1 + 8) ((16 * 2 ^ k - 16) + 8) ((33000 * 2 ^ k - 33000) + 24955) 426 [(4, .ref q4), (3, .ref q3), (2, .ref q2), (1, .ref q1), (0, .ref a)] [.ref q18] ((q18, .inr (13, [.ref bv400, .int (0 : Int32), .int (0 : Int32), .int (nI ((([] : List Int32) ++ txt k x) ++ kT 40).length)])) :: ((bv400, yA g bm401 bf402) :: t0)) _
        refine r_aload_n 4 dX11_text_426 rfl ?_
        refine r_getm (v := .ref (tA k y)) (ci := 11) (fs := [.int (22 : Int32), .int (nI n), .int (nI o), .ref (tA k x), .ref (tA k y)]) dX11_text_427 fl_X11_59 (List.mem_cons_of_mem _ (List.mem_cons_of_mem _ hoK)) rfl ?_
        obtain ⟨fszz405, hfzz405⟩ := TM.cell k y (hmb y rfl)
        refine r_room (x2 := 8 + (16 * 2 ^ k - 16)) (y2 := 24955 + (33000 * 2 ^ k - 33000)) (by omega) (by omega) ?_
        refine k_Vm (x := 8) (y := 24955) (rest := [.ref q18]) dX11_text_430 kv_X11_128 (cl_text hn hne k y _ (by omega) (TM.mono (fun p hp => (List.mem_cons_of_mem _ (List.mem_cons_of_mem _ (mt p hp)))) k y (hmb y rfl)) hy) rfl rfl (List.mem_cons_of_mem _ (List.mem_cons_of_mem _ (mt _ hfzz405))) rfl (Nat.le_of_ble_eq_true rfl) (by omega) (by decide) ?_
        rintro zz405 hz406
        refine r_seg (ws2 := ((q18, .inr (13, [.ref bv400, .int (0 : Int32), .int (0 : Int32), .int (nI ((([] : List Int32) ++ txt k x) ++ kT 40).length)])) :: ((bv400, yA g bm401 bf402) :: ((sw g (txt k y).length zz405) ++ t0)))) [sw g (txt k y).length zz405, [(q18, .inr (13, [.ref bv400, .int (0 : Int32), .int (0 : Int32), .int (nI ((([] : List Int32) ++ txt k x) ++ kT 40).length)]))], [(bv400, yA g bm401 bf402)], t0] [1, 2, 0, 3] rfl rfl rfl ?_
        have bn411 : (((([] : List Int32) ++ txt k x) ++ kT 40) ++ txt k y).length ≤ (((0 + (12 * 2 ^ k - 7)) + 1) + (12 * 2 ^ k - 7)) := lnA (L := ((([] : List Int32) ++ txt k x) ++ kT 40)) (L2 := txt k y) (n := ((0 + (12 * 2 ^ k - 7)) + 1)) (n2 := (12 * 2 ^ k - 7)) bn404 (txt_len (by omega) (by omega) k y hy)
        refine k_V (x := 7) (y := 20953) (rest := []) 0 dX11_text_433 kv_X11_113 (cj_apX (L2 := txt k y) (z := zz405) hz406 bh403 (Nat.le_trans bn411 (by omega))) rfl rfl rfl rfl (Nat.le_of_ble_eq_true rfl) (by omega) (by decide) ?_
        rintro ⟨bv407, bm408, bf409⟩ bh410
        try dsimp only at bh410
        show R g mX11_text (k + 1 + 8) 7 20953 436 [(4, .ref q4), (3, .ref q3), (2, .ref q2), (1, .ref q1), (0, .ref a)] [.ref q18] ((q18, .inr (13, [.ref bv407, .int (0 : Int32), .int (0 : Int32), .int (nI (((([] : List Int32) ++ txt k x) ++ kT 40) ++ txt k y).length)])) :: ((bv407, yA g bm408 bf409) :: ((sw g (txt k y).length zz405) ++ t0))) _
        refine r_seg (ws2 := ((q18, .inr (13, [.ref bv407, .int (0 : Int32), .int (0 : Int32), .int (nI (((([] : List Int32) ++ txt k x) ++ kT 40) ++ txt k y).length)])) :: ((bv407, yA g bm408 bf409) :: t0))) [[(q18, .inr (13, [.ref bv407, .int (0 : Int32), .int (0 : Int32), .int (nI (((([] : List Int32) ++ txt k x) ++ kT 40) ++ txt k y).length)]))], [(bv407, yA g bm408 bf409)], sw g (txt k y).length zz405, t0] [0, 1, 3] rfl rfl rfl ?_
        refine k_V (x := 5) (y := 16947) (rest := []) 0 dX11_text_436 kv_X11_120 (cj_strB bh410) rfl rfl rfl rfl (Nat.le_of_ble_eq_true rfl) (by omega) (by decide) ?_
        rintro ⟨ts412, tb413, tf414⟩ th415
        try dsimp only at th415
        show R g mX11_text (k + 1 + 8) 5 16947 439 [(4, .ref q4), (3, .ref q3), (2, .ref q2), (1, .ref q1), (0, .ref a)] [.ref ts412] ((ts412, .inr (12, [.ref tb413, .int (0 : Int32), .int (0 : Int32), .int (0 : Int32)])) :: ((tb413, yA g (((([] : List Int32) ++ txt k x) ++ kT 40) ++ txt k y).length tf414) :: ((q18, .inr (13, [.ref bv407, .int (0 : Int32), .int (0 : Int32), .int (nI (((([] : List Int32) ++ txt k x) ++ kT 40) ++ txt k y).length)])) :: ((bv407, yA g bm408 bf409) :: t0)))) _
        rw [e0]
        refine r_seg (ws2 := ((ts412, .inr (12, [.ref tb413, .int (0 : Int32), .int (0 : Int32), .int (0 : Int32)])) :: ((tb413, yA g (((([] : List Int32) ++ txt k x) ++ kT 40) ++ txt k y).length tf414) :: t))) [[(ts412, .inr (12, [.ref tb413, .int (0 : Int32), .int (0 : Int32), .int (0 : Int32)]))], [(tb413, yA g (((([] : List Int32) ++ txt k x) ++ kT 40) ++ txt k y).length tf414)], [(q18, .inr (13, [.ref bv407, .int (0 : Int32), .int (0 : Int32), .int (nI (((([] : List Int32) ++ txt k x) ++ kT 40) ++ txt k y).length)]))], [(bv407, yA g bm408 bf409)], [(q4, qA g 7 4 (va_up (va_up (va_up (va_up (fun _ => none) 0 (some (gK g 43))) 1 (some (gK g 44))) 2 (some (gK g 45))) 3 (some (gK g 46))))], [(q3, qA g 7 5 (va_up (va_up (va_up (va_up (va_up (fun _ => none) 0 (some (gK g 38))) 1 (some (gK g 39))) 2 (some (gK g 40))) 3 (some (gK g 41))) 4 (some (gK g 42))))], [(q2, qA g 7 6 (va_up (va_up (va_up (va_up (va_up (va_up (fun _ => none) 0 (some (gK g 32))) 1 (some (gK g 33))) 2 (some (gK g 34))) 3 (some (gK g 35))) 4 (some (gK g 36))) 5 (some (gK g 37))))], [(q1, qA g 7 6 (va_up (va_up (va_up (va_up (va_up (va_up (fun _ => none) 0 (some (gK g iE))) 1 (some (gK g 27))) 2 (some (gK g 28))) 3 (some (gK g 29))) 4 (some (gK g 30))) 5 (some (gK g 31))))], t] [0, 1, 8] rfl rfl rfl ?_
        refine r_aret dX11_text_439 rfl rfl (Or.inr ⟨_, rfl⟩) ?_
        exact Dq.mk (Sum.inr (ts412, tb413, tf414)) rfl rfl th415
      · have hoK : (a, .inr (11, [.int (23 : Int32), .int (nI n), .int (nI o), .ref (tA k x), .ref (tA k y)])) ∈ t0 := mt _ ho
        have hE : txt (k + 1) ((a, 23, n, o), some x, some y) = (((([] : List Int32) ++ (txt k x)) ++ kT 41) ++ (txt k y)) := rfl
        rw [hE]
        show R g mX11_text (k + 1 + 8) ((16 * 2 ^ k - 16) + (16 * 2 ^ k - 16) + 12) ((33000 * 2 ^ k - 33000) + (33000 * 2 ^ k - 33000) + 32979) 128 [(4, .ref q4), (3, .ref q3), (2, .ref q2), (1, .ref q1), (0, .ref a)] [] t0 _
        refine r_aload_n 4 dX11_text_128 rfl ?_
        refine r_getm (v := .int (23 : Int32)) (ci := 11) (fs := [.int (23 : Int32), .int (nI n), .int (nI o), .ref (tA k x), .ref (tA k y)]) dX11_text_129 fl_X11_7 hoK rfl ?_
        refine r_if_ne (tgt := 158) dX11_text_132 (by decide) (fun _ => ?_) (fun hc => absurd hc (by decide))
        refine r_aload_n 4 dX11_text_158 rfl ?_
        refine r_getm (v := .int (23 : Int32)) (ci := 11) (fs := [.int (23 : Int32), .int (nI n), .int (nI o), .ref (tA k x), .ref (tA k y)]) dX11_text_159 fl_X11_7 hoK rfl ?_
        refine r_iconst (v := (4 : Int32)) dX11_text_162 (by decide) ?_
        refine r_icmp_ge (tgt := 173) dX11_text_163 (by decide) (fun _ => ?_) (fun hc => absurd (by decide) hc)
        refine r_aload_n 4 dX11_text_173 rfl ?_
        refine r_getm (v := .int (23 : Int32)) (ci := 11) (fs := [.int (23 : Int32), .int (nI n), .int (nI o), .ref (tA k x), .ref (tA k y)]) dX11_text_174 fl_X11_7 hoK rfl ?_
        refine r_bipush (v := (6 : Int32)) dX11_text_177 (by decide) ?_
        refine r_icmp_ge (tgt := 214) dX11_text_179 (by decide) (fun _ => ?_) (fun hc => absurd (by decide) hc)
        refine r_aload_n 4 dX11_text_214 rfl ?_
        refine r_getm (v := .int (23 : Int32)) (ci := 11) (fs := [.int (23 : Int32), .int (nI n), .int (nI o), .ref (tA k x), .ref (tA k y)]) dX11_text_215 fl_X11_7 hoK rfl ?_
        refine r_bipush (v := (6 : Int32)) dX11_text_218 (by decide) ?_
        refine r_icmp_ne (tgt := 254) dX11_text_220 (by decide) (fun _ => ?_) (fun hc => absurd hc (by decide))
        refine r_aload_n 4 dX11_text_254 rfl ?_
        refine r_getm (v := .int (23 : Int32)) (ci := 11) (fs := [.int (23 : Int32), .int (nI n), .int (nI o), .ref (tA k x), .ref (tA k y)]) dX11_text_255 fl_X11_7 hoK rfl ?_
        refine r_bipush (v := (11 : Int32)) dX11_text_258 (by decide) ?_
        refine r_icmp_ge (tgt := 326) dX11_text_260 (by decide) (fun _ => ?_) (fun hc => absurd (by decide) hc)
        refine r_aload_n 4 dX11_text_326 rfl ?_
        refine r_getm (v := .int (23 : Int32)) (ci := 11) (fs := [.int (23 : Int32), .int (nI n), .int (nI o), .ref (tA k x), .ref (tA k y)]) dX11_text_327 fl_X11_7 hoK rfl ?_
        refine r_bipush (v := (13 : Int32)) dX11_text_330 (by decide) ?_
        refine r_icmp_ge (tgt := 388) dX11_text_332 (by decide) (fun _ => ?_) (fun hc => absurd (by decide) hc)
        refine r_aload_n 4 dX11_text_388 rfl ?_
        refine r_getm (v := .int (23 : Int32)) (ci := 11) (fs := [.int (23 : Int32), .int (nI n), .int (nI o), .ref (tA k x), .ref (tA k y)]) dX11_text_389 fl_X11_7 hoK rfl ?_
        refine r_bipush (v := (25 : Int32)) dX11_text_392 (by decide) ?_
        refine r_icmp_ge (tgt := 440) dX11_text_394 (by decide) (fun hc => absurd hc (by decide)) (fun _ => ?_)
        refine r_new (N := 4) (x := ((16 * 2 ^ k - 16) + (16 * 2 ^ k - 16) + 11)) (y := ((33000 * 2 ^ k - 33000) + (33000 * 2 ^ k - 33000) + 32975)) dX11_text_397 nl_X11_110 (fun q19 => ?_)
        refine r_dup dX11_text_400 rfl ?_
        refine k_I (x := ((16 * 2 ^ k - 16) + (16 * 2 ^ k - 16) + 10)) (y := ((33000 * 2 ^ k - 33000) + (33000 * 2 ^ k - 33000) + 32959)) (rest := [.ref q19]) dX11_text_401 ki_X11_112 (cj_sb) rfl rfl (Nat.le_of_ble_eq_true rfl) (by omega) (by decide) ?_
        rintro bv416 -
        show R g mX11_text (k + 1 + 8) ((16 * 2 ^ k - 16) + (16 * 2 ^ k - 16) + 10) ((33000 * 2 ^ k - 33000) + (33000 * 2 ^ k - 33000) + 32959) 404 [(4, .ref q4), (3, .ref q3), (2, .ref q2), (1, .ref q1), (0, .ref a)] [.ref q19] ((q19, .inr (13, [.ref bv416, .int (0 : Int32), .int (0 : Int32), .int (nI ([] : List Int32).length)])) :: ((bv416, yA g 16 (fun _ => 0)) :: t0)) _
        refine r_aload_n 4 dX11_text_404 rfl ?_
        refine r_getm (v := .ref (tA k x)) (ci := 11) (fs := [.int (23 : Int32), .int (nI n), .int (nI o), .ref (tA k x), .ref (tA k y)]) dX11_text_405 fl_X11_40 (List.mem_cons_of_mem _ (List.mem_cons_of_mem _ hoK)) rfl ?_
        obtain ⟨fszz417, hfzz417⟩ := TM.cell k x (hma x rfl)
        refine r_room (x2 := ((16 * 2 ^ k - 16) + 10) + (16 * 2 ^ k - 16)) (y2 := ((33000 * 2 ^ k - 33000) + 32959) + (33000 * 2 ^ k - 33000)) (by omega) (by omega) ?_
        refine k_Vm (x := ((16 * 2 ^ k - 16) + 10)) (y := ((33000 * 2 ^ k - 33000) + 32959)) (rest := [.ref q19]) dX11_text_408 kv_X11_128 (cl_text hn hne k x _ (by omega) (TM.mono (fun p hp => (List.mem_cons_of_mem _ (List.mem_cons_of_mem _ (mt p hp)))) k x (hma x rfl)) hx) rfl rfl (List.mem_cons_of_mem _ (List.mem_cons_of_mem _ (mt _ hfzz417))) rfl (Nat.le_of_ble_eq_true rfl) (by omega) (by decide) ?_
        rintro zz417 hz418
        refine r_seg (ws2 := ((q19, .inr (13, [.ref bv416, .int (0 : Int32), .int (0 : Int32), .int (nI ([] : List Int32).length)])) :: ((bv416, yA g 16 (fun _ => 0)) :: ((sw g (txt k x).length zz417) ++ t0)))) [sw g (txt k x).length zz417, [(q19, .inr (13, [.ref bv416, .int (0 : Int32), .int (0 : Int32), .int (nI ([] : List Int32).length)]))], [(bv416, yA g 16 (fun _ => 0))], t0] [1, 2, 0, 3] rfl rfl rfl ?_
        have bn423 : (([] : List Int32) ++ txt k x).length ≤ (0 + (12 * 2 ^ k - 7)) := lnA (L := ([] : List Int32)) (L2 := txt k x) (n := 0) (n2 := (12 * 2 ^ k - 7)) (Nat.le_refl 0) (txt_len (by omega) (by omega) k x hx)
        refine k_V (x := ((16 * 2 ^ k - 16) + 9)) (y := ((33000 * 2 ^ k - 33000) + 28957)) (rest := []) 0 dX11_text_411 kv_X11_113 (cj_apX (L2 := txt k x) (z := zz417) hz418 BL.nil (Nat.le_trans bn423 (by omega))) rfl rfl rfl rfl (Nat.le_of_ble_eq_true rfl) (by omega) (by decide) ?_
        rintro ⟨bv419, bm420, bf421⟩ bh422
        try dsimp only at bh422
        show R g mX11_text (k + 1 + 8) ((16 * 2 ^ k - 16) + 9) ((33000 * 2 ^ k - 33000) + 28957) 414 [(4, .ref q4), (3, .ref q3), (2, .ref q2), (1, .ref q1), (0, .ref a)] [.ref q19] ((q19, .inr (13, [.ref bv419, .int (0 : Int32), .int (0 : Int32), .int (nI (([] : List Int32) ++ txt k x).length)])) :: ((bv419, yA g bm420 bf421) :: ((sw g (txt k x).length zz417) ++ t0))) _
        refine r_seg (ws2 := ((q19, .inr (13, [.ref bv419, .int (0 : Int32), .int (0 : Int32), .int (nI (([] : List Int32) ++ txt k x).length)])) :: ((bv419, yA g bm420 bf421) :: t0))) [[(q19, .inr (13, [.ref bv419, .int (0 : Int32), .int (0 : Int32), .int (nI (([] : List Int32) ++ txt k x).length)]))], [(bv419, yA g bm420 bf421)], sw g (txt k x).length zz417, t0] [0, 1, 3] rfl rfl rfl ?_
        refine r_aload_n 1 dX11_text_414 rfl ?_
        refine r_aload_n 4 dX11_text_415 rfl ?_
        refine r_getm (v := .int (23 : Int32)) (ci := 11) (fs := [.int (23 : Int32), .int (nI n), .int (nI o), .ref (tA k x), .ref (tA k y)]) dX11_text_416 fl_X11_7 (List.mem_cons_of_mem _ (List.mem_cons_of_mem _ hoK)) rfl ?_
        refine r_bipush (v := (20 : Int32)) dX11_text_419 (by decide) ?_
        refine r_isub dX11_text_421 ?_
        refine r_aaldm (t := 7) (n := 5) (f := (va_up (va_up (va_up (va_up (va_up (fun _ => none) 0 (some (gK g 38))) 1 (some (gK g 39))) 2 (some (gK g 40))) 3 (some (gK g 41))) 4 (some (gK g 42)))) (v := .ref (gK g 41)) dX11_text_422 rfl rfl (List.mem_cons_of_mem _ (List.mem_cons_of_mem _ m1)) (by decide) (by rfl) ?_
        have bn428 : ((([] : List Int32) ++ txt k x) ++ kT 41).length ≤ ((0 + (12 * 2 ^ k - 7)) + 2) := lnA (L := (([] : List Int32) ++ txt k x)) (L2 := kT 41) (n := (0 + (12 * 2 ^ k - 7))) (n2 := 2) bn423 (by decide)
        refine k_V (x := ((16 * 2 ^ k - 16) + 8)) (y := ((33000 * 2 ^ k - 33000) + 24955)) (rest := []) 0 dX11_text_423 kv_X11_113 (cj_apK (i := 41) (by decide) bh422 (Nat.le_trans bn428 (by omega))) rfl rfl rfl rfl (Nat.le_of_ble_eq_true rfl) (by omega) (by decide) ?_
        rintro ⟨bv424, bm425, bf426⟩ bh427
        try dsimp only at bh427
        show R g mX11_text (k + 1 + 8) ((16 * 2 ^ k - 16) + 8) ((33000 * 2 ^ k - 33000) + 24955) 426 [(4, .ref q4), (3, .ref q3), (2, .ref q2), (1, .ref q1), (0, .ref a)] [.ref q19] ((q19, .inr (13, [.ref bv424, .int (0 : Int32), .int (0 : Int32), .int (nI ((([] : List Int32) ++ txt k x) ++ kT 41).length)])) :: ((bv424, yA g bm425 bf426) :: t0)) _
        refine r_aload_n 4 dX11_text_426 rfl ?_
        refine r_getm (v := .ref (tA k y)) (ci := 11) (fs := [.int (23 : Int32), .int (nI n), .int (nI o), .ref (tA k x), .ref (tA k y)]) dX11_text_427 fl_X11_59 (List.mem_cons_of_mem _ (List.mem_cons_of_mem _ hoK)) rfl ?_
        obtain ⟨fszz429, hfzz429⟩ := TM.cell k y (hmb y rfl)
        refine r_room (x2 := 8 + (16 * 2 ^ k - 16)) (y2 := 24955 + (33000 * 2 ^ k - 33000)) (by omega) (by omega) ?_
        refine k_Vm (x := 8) (y := 24955) (rest := [.ref q19]) dX11_text_430 kv_X11_128 (cl_text hn hne k y _ (by omega) (TM.mono (fun p hp => (List.mem_cons_of_mem _ (List.mem_cons_of_mem _ (mt p hp)))) k y (hmb y rfl)) hy) rfl rfl (List.mem_cons_of_mem _ (List.mem_cons_of_mem _ (mt _ hfzz429))) rfl (Nat.le_of_ble_eq_true rfl) (by omega) (by decide) ?_
        rintro zz429 hz430
        refine r_seg (ws2 := ((q19, .inr (13, [.ref bv424, .int (0 : Int32), .int (0 : Int32), .int (nI ((([] : List Int32) ++ txt k x) ++ kT 41).length)])) :: ((bv424, yA g bm425 bf426) :: ((sw g (txt k y).length zz429) ++ t0)))) [sw g (txt k y).length zz429, [(q19, .inr (13, [.ref bv424, .int (0 : Int32), .int (0 : Int32), .int (nI ((([] : List Int32) ++ txt k x) ++ kT 41).length)]))], [(bv424, yA g bm425 bf426)], t0] [1, 2, 0, 3] rfl rfl rfl ?_
        have bn435 : (((([] : List Int32) ++ txt k x) ++ kT 41) ++ txt k y).length ≤ (((0 + (12 * 2 ^ k - 7)) + 2) + (12 * 2 ^ k - 7)) := lnA (L := ((([] : List Int32) ++ txt k x) ++ kT 41)) (L2 := txt k y) (n := ((0 + (12 * 2 ^ k - 7)) + 2)) (n2 := (12 * 2 ^ k - 7)) bn428 (txt_len (by omega) (by omega) k y hy)
        refine k_V (x := 7) (y := 20953) (rest := []) 0 dX11_text_433 kv_X11_113 (cj_apX (L2 := txt k y) (z := zz429) hz430 bh427 (Nat.le_trans bn435 (by omega))) rfl rfl rfl rfl (Nat.le_of_ble_eq_true rfl) (by omega) (by decide) ?_
        rintro ⟨bv431, bm432, bf433⟩ bh434
        try dsimp only at bh434
        show R g mX11_text (k + 1 + 8) 7 20953 436 [(4, .ref q4), (3, .ref q3), (2, .ref q2), (1, .ref q1), (0, .ref a)] [.ref q19] ((q19, .inr (13, [.ref bv431, .int (0 : Int32), .int (0 : Int32), .int (nI (((([] : List Int32) ++ txt k x) ++ kT 41) ++ txt k y).length)])) :: ((bv431, yA g bm432 bf433) :: ((sw g (txt k y).length zz429) ++ t0))) _
        refine r_seg (ws2 := ((q19, .inr (13, [.ref bv431, .int (0 : Int32), .int (0 : Int32), .int (nI (((([] : List Int32) ++ txt k x) ++ kT 41) ++ txt k y).length)])) :: ((bv431, yA g bm432 bf433) :: t0))) [[(q19, .inr (13, [.ref bv431, .int (0 : Int32), .int (0 : Int32), .int (nI (((([] : List Int32) ++ txt k x) ++ kT 41) ++ txt k y).length)]))], [(bv431, yA g bm432 bf433)], sw g (txt k y).length zz429, t0] [0, 1, 3] rfl rfl rfl ?_
        refine k_V (x := 5) (y := 16947) (rest := []) 0 dX11_text_436 kv_X11_120 (cj_strB bh434) rfl rfl rfl rfl (Nat.le_of_ble_eq_true rfl) (by omega) (by decide) ?_
        rintro ⟨ts436, tb437, tf438⟩ th439
        try dsimp only at th439
        show R g mX11_text (k + 1 + 8) 5 16947 439 [(4, .ref q4), (3, .ref q3), (2, .ref q2), (1, .ref q1), (0, .ref a)] [.ref ts436] ((ts436, .inr (12, [.ref tb437, .int (0 : Int32), .int (0 : Int32), .int (0 : Int32)])) :: ((tb437, yA g (((([] : List Int32) ++ txt k x) ++ kT 41) ++ txt k y).length tf438) :: ((q19, .inr (13, [.ref bv431, .int (0 : Int32), .int (0 : Int32), .int (nI (((([] : List Int32) ++ txt k x) ++ kT 41) ++ txt k y).length)])) :: ((bv431, yA g bm432 bf433) :: t0)))) _
        rw [e0]
        refine r_seg (ws2 := ((ts436, .inr (12, [.ref tb437, .int (0 : Int32), .int (0 : Int32), .int (0 : Int32)])) :: ((tb437, yA g (((([] : List Int32) ++ txt k x) ++ kT 41) ++ txt k y).length tf438) :: t))) [[(ts436, .inr (12, [.ref tb437, .int (0 : Int32), .int (0 : Int32), .int (0 : Int32)]))], [(tb437, yA g (((([] : List Int32) ++ txt k x) ++ kT 41) ++ txt k y).length tf438)], [(q19, .inr (13, [.ref bv431, .int (0 : Int32), .int (0 : Int32), .int (nI (((([] : List Int32) ++ txt k x) ++ kT 41) ++ txt k y).length)]))], [(bv431, yA g bm432 bf433)], [(q4, qA g 7 4 (va_up (va_up (va_up (va_up (fun _ => none) 0 (some (gK g 43))) 1 (some (gK g 44))) 2 (some (gK g 45))) 3 (some (gK g 46))))], [(q3, qA g 7 5 (va_up (va_up (va_up (va_up (va_up (fun _ => none) 0 (some (gK g 38))) 1 (some (gK g 39))) 2 (some (gK g 40))) 3 (some (gK g 41))) 4 (some (gK g 42))))], [(q2, qA g 7 6 (va_up (va_up (va_up (va_up (va_up (va_up (fun _ => none) 0 (some (gK g 32))) 1 (some (gK g 33))) 2 (some (gK g 34))) 3 (some (gK g 35))) 4 (some (gK g 36))) 5 (some (gK g 37))))], [(q1, qA g 7 6 (va_up (va_up (va_up (va_up (va_up (va_up (fun _ => none) 0 (some (gK g iE))) 1 (some (gK g 27))) 2 (some (gK g 28))) 3 (some (gK g 29))) 4 (some (gK g 30))) 5 (some (gK g 31))))], t] [0, 1, 8] rfl rfl rfl ?_
        refine r_aret dX11_text_439 rfl rfl (Or.inr ⟨_, rfl⟩) ?_
        exact Dq.mk (Sum.inr (ts436, tb437, tf438)) rfl rfl th439
      · have hoK : (a, .inr (11, [.int (24 : Int32), .int (nI n), .int (nI o), .ref (tA k x), .ref (tA k y)])) ∈ t0 := mt _ ho
        have hE : txt (k + 1) ((a, 24, n, o), some x, some y) = (((([] : List Int32) ++ (txt k x)) ++ kT 42) ++ (txt k y)) := rfl
        rw [hE]
        show R g mX11_text (k + 1 + 8) ((16 * 2 ^ k - 16) + (16 * 2 ^ k - 16) + 12) ((33000 * 2 ^ k - 33000) + (33000 * 2 ^ k - 33000) + 32979) 128 [(4, .ref q4), (3, .ref q3), (2, .ref q2), (1, .ref q1), (0, .ref a)] [] t0 _
        refine r_aload_n 4 dX11_text_128 rfl ?_
        refine r_getm (v := .int (24 : Int32)) (ci := 11) (fs := [.int (24 : Int32), .int (nI n), .int (nI o), .ref (tA k x), .ref (tA k y)]) dX11_text_129 fl_X11_7 hoK rfl ?_
        refine r_if_ne (tgt := 158) dX11_text_132 (by decide) (fun _ => ?_) (fun hc => absurd hc (by decide))
        refine r_aload_n 4 dX11_text_158 rfl ?_
        refine r_getm (v := .int (24 : Int32)) (ci := 11) (fs := [.int (24 : Int32), .int (nI n), .int (nI o), .ref (tA k x), .ref (tA k y)]) dX11_text_159 fl_X11_7 hoK rfl ?_
        refine r_iconst (v := (4 : Int32)) dX11_text_162 (by decide) ?_
        refine r_icmp_ge (tgt := 173) dX11_text_163 (by decide) (fun _ => ?_) (fun hc => absurd (by decide) hc)
        refine r_aload_n 4 dX11_text_173 rfl ?_
        refine r_getm (v := .int (24 : Int32)) (ci := 11) (fs := [.int (24 : Int32), .int (nI n), .int (nI o), .ref (tA k x), .ref (tA k y)]) dX11_text_174 fl_X11_7 hoK rfl ?_
        refine r_bipush (v := (6 : Int32)) dX11_text_177 (by decide) ?_
        refine r_icmp_ge (tgt := 214) dX11_text_179 (by decide) (fun _ => ?_) (fun hc => absurd (by decide) hc)
        refine r_aload_n 4 dX11_text_214 rfl ?_
        refine r_getm (v := .int (24 : Int32)) (ci := 11) (fs := [.int (24 : Int32), .int (nI n), .int (nI o), .ref (tA k x), .ref (tA k y)]) dX11_text_215 fl_X11_7 hoK rfl ?_
        refine r_bipush (v := (6 : Int32)) dX11_text_218 (by decide) ?_
        refine r_icmp_ne (tgt := 254) dX11_text_220 (by decide) (fun _ => ?_) (fun hc => absurd hc (by decide))
        refine r_aload_n 4 dX11_text_254 rfl ?_
        refine r_getm (v := .int (24 : Int32)) (ci := 11) (fs := [.int (24 : Int32), .int (nI n), .int (nI o), .ref (tA k x), .ref (tA k y)]) dX11_text_255 fl_X11_7 hoK rfl ?_
        refine r_bipush (v := (11 : Int32)) dX11_text_258 (by decide) ?_
        refine r_icmp_ge (tgt := 326) dX11_text_260 (by decide) (fun _ => ?_) (fun hc => absurd (by decide) hc)
        refine r_aload_n 4 dX11_text_326 rfl ?_
        refine r_getm (v := .int (24 : Int32)) (ci := 11) (fs := [.int (24 : Int32), .int (nI n), .int (nI o), .ref (tA k x), .ref (tA k y)]) dX11_text_327 fl_X11_7 hoK rfl ?_
        refine r_bipush (v := (13 : Int32)) dX11_text_330 (by decide) ?_
        refine r_icmp_ge (tgt := 388) dX11_text_332 (by decide) (fun _ => ?_) (fun hc => absurd (by decide) hc)
        refine r_aload_n 4 dX11_text_388 rfl ?_
        refine r_getm (v := .int (24 : Int32)) (ci := 11) (fs := [.int (24 : Int32), .int (nI n), .int (nI o), .ref (tA k x), .ref (tA k y)]) dX11_text_389 fl_X11_7 hoK rfl ?_
        refine r_bipush (v := (25 : Int32)) dX11_text_392 (by decide) ?_
        refine r_icmp_ge (tgt := 440) dX11_text_394 (by decide) (fun hc => absurd hc (by decide)) (fun _ => ?_)
        refine r_new (N := 4) (x := ((16 * 2 ^ k - 16) + (16 * 2 ^ k - 16) + 11)) (y := ((33000 * 2 ^ k - 33000) + (33000 * 2 ^ k - 33000) + 32975)) dX11_text_397 nl_X11_110 (fun q20 => ?_)
        refine r_dup dX11_text_400 rfl ?_
        refine k_I (x := ((16 * 2 ^ k - 16) + (16 * 2 ^ k - 16) + 10)) (y := ((33000 * 2 ^ k - 33000) + (33000 * 2 ^ k - 33000) + 32959)) (rest := [.ref q20]) dX11_text_401 ki_X11_112 (cj_sb) rfl rfl (Nat.le_of_ble_eq_true rfl) (by omega) (by decide) ?_
        rintro bv440 -
        show R g mX11_text (k + 1 + 8) ((16 * 2 ^ k - 16) + (16 * 2 ^ k - 16) + 10) ((33000 * 2 ^ k - 33000) + (33000 * 2 ^ k - 33000) + 32959) 404 [(4, .ref q4), (3, .ref q3), (2, .ref q2), (1, .ref q1), (0, .ref a)] [.ref q20] ((q20, .inr (13, [.ref bv440, .int (0 : Int32), .int (0 : Int32), .int (nI ([] : List Int32).length)])) :: ((bv440, yA g 16 (fun _ => 0)) :: t0)) _
        refine r_aload_n 4 dX11_text_404 rfl ?_
        refine r_getm (v := .ref (tA k x)) (ci := 11) (fs := [.int (24 : Int32), .int (nI n), .int (nI o), .ref (tA k x), .ref (tA k y)]) dX11_text_405 fl_X11_40 (List.mem_cons_of_mem _ (List.mem_cons_of_mem _ hoK)) rfl ?_
        obtain ⟨fszz441, hfzz441⟩ := TM.cell k x (hma x rfl)
        refine r_room (x2 := ((16 * 2 ^ k - 16) + 10) + (16 * 2 ^ k - 16)) (y2 := ((33000 * 2 ^ k - 33000) + 32959) + (33000 * 2 ^ k - 33000)) (by omega) (by omega) ?_
        refine k_Vm (x := ((16 * 2 ^ k - 16) + 10)) (y := ((33000 * 2 ^ k - 33000) + 32959)) (rest := [.ref q20]) dX11_text_408 kv_X11_128 (cl_text hn hne k x _ (by omega) (TM.mono (fun p hp => (List.mem_cons_of_mem _ (List.mem_cons_of_mem _ (mt p hp)))) k x (hma x rfl)) hx) rfl rfl (List.mem_cons_of_mem _ (List.mem_cons_of_mem _ (mt _ hfzz441))) rfl (Nat.le_of_ble_eq_true rfl) (by omega) (by decide) ?_
        rintro zz441 hz442
        refine r_seg (ws2 := ((q20, .inr (13, [.ref bv440, .int (0 : Int32), .int (0 : Int32), .int (nI ([] : List Int32).length)])) :: ((bv440, yA g 16 (fun _ => 0)) :: ((sw g (txt k x).length zz441) ++ t0)))) [sw g (txt k x).length zz441, [(q20, .inr (13, [.ref bv440, .int (0 : Int32), .int (0 : Int32), .int (nI ([] : List Int32).length)]))], [(bv440, yA g 16 (fun _ => 0))], t0] [1, 2, 0, 3] rfl rfl rfl ?_
        have bn447 : (([] : List Int32) ++ txt k x).length ≤ (0 + (12 * 2 ^ k - 7)) := lnA (L := ([] : List Int32)) (L2 := txt k x) (n := 0) (n2 := (12 * 2 ^ k - 7)) (Nat.le_refl 0) (txt_len (by omega) (by omega) k x hx)
        refine k_V (x := ((16 * 2 ^ k - 16) + 9)) (y := ((33000 * 2 ^ k - 33000) + 28957)) (rest := []) 0 dX11_text_411 kv_X11_113 (cj_apX (L2 := txt k x) (z := zz441) hz442 BL.nil (Nat.le_trans bn447 (by omega))) rfl rfl rfl rfl (Nat.le_of_ble_eq_true rfl) (by omega) (by decide) ?_
        rintro ⟨bv443, bm444, bf445⟩ bh446
        try dsimp only at bh446
        show R g mX11_text (k + 1 + 8) ((16 * 2 ^ k - 16) + 9) ((33000 * 2 ^ k - 33000) + 28957) 414 [(4, .ref q4), (3, .ref q3), (2, .ref q2), (1, .ref q1), (0, .ref a)] [.ref q20] ((q20, .inr (13, [.ref bv443, .int (0 : Int32), .int (0 : Int32), .int (nI (([] : List Int32) ++ txt k x).length)])) :: ((bv443, yA g bm444 bf445) :: ((sw g (txt k x).length zz441) ++ t0))) _
        refine r_seg (ws2 := ((q20, .inr (13, [.ref bv443, .int (0 : Int32), .int (0 : Int32), .int (nI (([] : List Int32) ++ txt k x).length)])) :: ((bv443, yA g bm444 bf445) :: t0))) [[(q20, .inr (13, [.ref bv443, .int (0 : Int32), .int (0 : Int32), .int (nI (([] : List Int32) ++ txt k x).length)]))], [(bv443, yA g bm444 bf445)], sw g (txt k x).length zz441, t0] [0, 1, 3] rfl rfl rfl ?_
        refine r_aload_n 1 dX11_text_414 rfl ?_
        refine r_aload_n 4 dX11_text_415 rfl ?_
        refine r_getm (v := .int (24 : Int32)) (ci := 11) (fs := [.int (24 : Int32), .int (nI n), .int (nI o), .ref (tA k x), .ref (tA k y)]) dX11_text_416 fl_X11_7 (List.mem_cons_of_mem _ (List.mem_cons_of_mem _ hoK)) rfl ?_
        refine r_bipush (v := (20 : Int32)) dX11_text_419 (by decide) ?_
        refine r_isub dX11_text_421 ?_
        refine r_aaldm (t := 7) (n := 5) (f := (va_up (va_up (va_up (va_up (va_up (fun _ => none) 0 (some (gK g 38))) 1 (some (gK g 39))) 2 (some (gK g 40))) 3 (some (gK g 41))) 4 (some (gK g 42)))) (v := .ref (gK g 42)) dX11_text_422 rfl rfl (List.mem_cons_of_mem _ (List.mem_cons_of_mem _ m1)) (by decide) (by rfl) ?_
        have bn452 : ((([] : List Int32) ++ txt k x) ++ kT 42).length ≤ ((0 + (12 * 2 ^ k - 7)) + 2) := lnA (L := (([] : List Int32) ++ txt k x)) (L2 := kT 42) (n := (0 + (12 * 2 ^ k - 7))) (n2 := 2) bn447 (by decide)
        refine k_V (x := ((16 * 2 ^ k - 16) + 8)) (y := ((33000 * 2 ^ k - 33000) + 24955)) (rest := []) 0 dX11_text_423 kv_X11_113 (cj_apK (i := 42) (by decide) bh446 (Nat.le_trans bn452 (by omega))) rfl rfl rfl rfl (Nat.le_of_ble_eq_true rfl) (by omega) (by decide) ?_
        rintro ⟨bv448, bm449, bf450⟩ bh451
        try dsimp only at bh451
        show R g mX11_text (k + 1 + 8) ((16 * 2 ^ k - 16) + 8) ((33000 * 2 ^ k - 33000) + 24955) 426 [(4, .ref q4), (3, .ref q3), (2, .ref q2), (1, .ref q1), (0, .ref a)] [.ref q20] ((q20, .inr (13, [.ref bv448, .int (0 : Int32), .int (0 : Int32), .int (nI ((([] : List Int32) ++ txt k x) ++ kT 42).length)])) :: ((bv448, yA g bm449 bf450) :: t0)) _
        refine r_aload_n 4 dX11_text_426 rfl ?_
        refine r_getm (v := .ref (tA k y)) (ci := 11) (fs := [.int (24 : Int32), .int (nI n), .int (nI o), .ref (tA k x), .ref (tA k y)]) dX11_text_427 fl_X11_59 (List.mem_cons_of_mem _ (List.mem_cons_of_mem _ hoK)) rfl ?_
        obtain ⟨fszz453, hfzz453⟩ := TM.cell k y (hmb y rfl)
        refine r_room (x2 := 8 + (16 * 2 ^ k - 16)) (y2 := 24955 + (33000 * 2 ^ k - 33000)) (by omega) (by omega) ?_
        refine k_Vm (x := 8) (y := 24955) (rest := [.ref q20]) dX11_text_430 kv_X11_128 (cl_text hn hne k y _ (by omega) (TM.mono (fun p hp => (List.mem_cons_of_mem _ (List.mem_cons_of_mem _ (mt p hp)))) k y (hmb y rfl)) hy) rfl rfl (List.mem_cons_of_mem _ (List.mem_cons_of_mem _ (mt _ hfzz453))) rfl (Nat.le_of_ble_eq_true rfl) (by omega) (by decide) ?_
        rintro zz453 hz454
        refine r_seg (ws2 := ((q20, .inr (13, [.ref bv448, .int (0 : Int32), .int (0 : Int32), .int (nI ((([] : List Int32) ++ txt k x) ++ kT 42).length)])) :: ((bv448, yA g bm449 bf450) :: ((sw g (txt k y).length zz453) ++ t0)))) [sw g (txt k y).length zz453, [(q20, .inr (13, [.ref bv448, .int (0 : Int32), .int (0 : Int32), .int (nI ((([] : List Int32) ++ txt k x) ++ kT 42).length)]))], [(bv448, yA g bm449 bf450)], t0] [1, 2, 0, 3] rfl rfl rfl ?_
        have bn459 : (((([] : List Int32) ++ txt k x) ++ kT 42) ++ txt k y).length ≤ (((0 + (12 * 2 ^ k - 7)) + 2) + (12 * 2 ^ k - 7)) := lnA (L := ((([] : List Int32) ++ txt k x) ++ kT 42)) (L2 := txt k y) (n := ((0 + (12 * 2 ^ k - 7)) + 2)) (n2 := (12 * 2 ^ k - 7)) bn452 (txt_len (by omega) (by omega) k y hy)
        refine k_V (x := 7) (y := 20953) (rest := []) 0 dX11_text_433 kv_X11_113 (cj_apX (L2 := txt k y) (z := zz453) hz454 bh451 (Nat.le_trans bn459 (by omega))) rfl rfl rfl rfl (Nat.le_of_ble_eq_true rfl) (by omega) (by decide) ?_
        rintro ⟨bv455, bm456, bf457⟩ bh458
        try dsimp only at bh458
        show R g mX11_text (k + 1 + 8) 7 20953 436 [(4, .ref q4), (3, .ref q3), (2, .ref q2), (1, .ref q1), (0, .ref a)] [.ref q20] ((q20, .inr (13, [.ref bv455, .int (0 : Int32), .int (0 : Int32), .int (nI (((([] : List Int32) ++ txt k x) ++ kT 42) ++ txt k y).length)])) :: ((bv455, yA g bm456 bf457) :: ((sw g (txt k y).length zz453) ++ t0))) _
        refine r_seg (ws2 := ((q20, .inr (13, [.ref bv455, .int (0 : Int32), .int (0 : Int32), .int (nI (((([] : List Int32) ++ txt k x) ++ kT 42) ++ txt k y).length)])) :: ((bv455, yA g bm456 bf457) :: t0))) [[(q20, .inr (13, [.ref bv455, .int (0 : Int32), .int (0 : Int32), .int (nI (((([] : List Int32) ++ txt k x) ++ kT 42) ++ txt k y).length)]))], [(bv455, yA g bm456 bf457)], sw g (txt k y).length zz453, t0] [0, 1, 3] rfl rfl rfl ?_
        refine k_V (x := 5) (y := 16947) (rest := []) 0 dX11_text_436 kv_X11_120 (cj_strB bh458) rfl rfl rfl rfl (Nat.le_of_ble_eq_true rfl) (by omega) (by decide) ?_
        rintro ⟨ts460, tb461, tf462⟩ th463
        try dsimp only at th463
        show R g mX11_text (k + 1 + 8) 5 16947 439 [(4, .ref q4), (3, .ref q3), (2, .ref q2), (1, .ref q1), (0, .ref a)] [.ref ts460] ((ts460, .inr (12, [.ref tb461, .int (0 : Int32), .int (0 : Int32), .int (0 : Int32)])) :: ((tb461, yA g (((([] : List Int32) ++ txt k x) ++ kT 42) ++ txt k y).length tf462) :: ((q20, .inr (13, [.ref bv455, .int (0 : Int32), .int (0 : Int32), .int (nI (((([] : List Int32) ++ txt k x) ++ kT 42) ++ txt k y).length)])) :: ((bv455, yA g bm456 bf457) :: t0)))) _
        rw [e0]
        refine r_seg (ws2 := ((ts460, .inr (12, [.ref tb461, .int (0 : Int32), .int (0 : Int32), .int (0 : Int32)])) :: ((tb461, yA g (((([] : List Int32) ++ txt k x) ++ kT 42) ++ txt k y).length tf462) :: t))) [[(ts460, .inr (12, [.ref tb461, .int (0 : Int32), .int (0 : Int32), .int (0 : Int32)]))], [(tb461, yA g (((([] : List Int32) ++ txt k x) ++ kT 42) ++ txt k y).length tf462)], [(q20, .inr (13, [.ref bv455, .int (0 : Int32), .int (0 : Int32), .int (nI (((([] : List Int32) ++ txt k x) ++ kT 42) ++ txt k y).length)]))], [(bv455, yA g bm456 bf457)], [(q4, qA g 7 4 (va_up (va_up (va_up (va_up (fun _ => none) 0 (some (gK g 43))) 1 (some (gK g 44))) 2 (some (gK g 45))) 3 (some (gK g 46))))], [(q3, qA g 7 5 (va_up (va_up (va_up (va_up (va_up (fun _ => none) 0 (some (gK g 38))) 1 (some (gK g 39))) 2 (some (gK g 40))) 3 (some (gK g 41))) 4 (some (gK g 42))))], [(q2, qA g 7 6 (va_up (va_up (va_up (va_up (va_up (va_up (fun _ => none) 0 (some (gK g 32))) 1 (some (gK g 33))) 2 (some (gK g 34))) 3 (some (gK g 35))) 4 (some (gK g 36))) 5 (some (gK g 37))))], [(q1, qA g 7 6 (va_up (va_up (va_up (va_up (va_up (va_up (fun _ => none) 0 (some (gK g iE))) 1 (some (gK g 27))) 2 (some (gK g 28))) 3 (some (gK g 29))) 4 (some (gK g 30))) 5 (some (gK g 31))))], t] [0, 1, 8] rfl rfl rfl ?_
        refine r_aret dX11_text_439 rfl rfl (Or.inr ⟨_, rfl⟩) ?_
        exact Dq.mk (Sum.inr (ts460, tb461, tf462)) rfl rfl th463
      · have hoK : (a, .inr (11, [.int (30 : Int32), .int (nI n), .int (nI o), .ref (tA k x), .ref (tA k y)])) ∈ t0 := mt _ ho
        have hE : txt (k + 1) ((a, 30, n, o), some x, some y) = (((((((([] : List Int32) ++ kT 55) ++ (txt k x)) ++ kT 54) ++ kT 56) ++ kT 55) ++ (txt k y)) ++ kT 54) := rfl
        rw [hE]
        show R g mX11_text (k + 1 + 8) ((16 * 2 ^ k - 16) + (16 * 2 ^ k - 16) + 12) ((33000 * 2 ^ k - 33000) + (33000 * 2 ^ k - 33000) + 32979) 128 [(4, .ref q4), (3, .ref q3), (2, .ref q2), (1, .ref q1), (0, .ref a)] [] t0 _
        refine r_aload_n 4 dX11_text_128 rfl ?_
        refine r_getm (v := .int (30 : Int32)) (ci := 11) (fs := [.int (30 : Int32), .int (nI n), .int (nI o), .ref (tA k x), .ref (tA k y)]) dX11_text_129 fl_X11_7 hoK rfl ?_
        refine r_if_ne (tgt := 158) dX11_text_132 (by decide) (fun _ => ?_) (fun hc => absurd hc (by decide))
        refine r_aload_n 4 dX11_text_158 rfl ?_
        refine r_getm (v := .int (30 : Int32)) (ci := 11) (fs := [.int (30 : Int32), .int (nI n), .int (nI o), .ref (tA k x), .ref (tA k y)]) dX11_text_159 fl_X11_7 hoK rfl ?_
        refine r_iconst (v := (4 : Int32)) dX11_text_162 (by decide) ?_
        refine r_icmp_ge (tgt := 173) dX11_text_163 (by decide) (fun _ => ?_) (fun hc => absurd (by decide) hc)
        refine r_aload_n 4 dX11_text_173 rfl ?_
        refine r_getm (v := .int (30 : Int32)) (ci := 11) (fs := [.int (30 : Int32), .int (nI n), .int (nI o), .ref (tA k x), .ref (tA k y)]) dX11_text_174 fl_X11_7 hoK rfl ?_
        refine r_bipush (v := (6 : Int32)) dX11_text_177 (by decide) ?_
        refine r_icmp_ge (tgt := 214) dX11_text_179 (by decide) (fun _ => ?_) (fun hc => absurd (by decide) hc)
        refine r_aload_n 4 dX11_text_214 rfl ?_
        refine r_getm (v := .int (30 : Int32)) (ci := 11) (fs := [.int (30 : Int32), .int (nI n), .int (nI o), .ref (tA k x), .ref (tA k y)]) dX11_text_215 fl_X11_7 hoK rfl ?_
        refine r_bipush (v := (6 : Int32)) dX11_text_218 (by decide) ?_
        refine r_icmp_ne (tgt := 254) dX11_text_220 (by decide) (fun _ => ?_) (fun hc => absurd hc (by decide))
        refine r_aload_n 4 dX11_text_254 rfl ?_
        refine r_getm (v := .int (30 : Int32)) (ci := 11) (fs := [.int (30 : Int32), .int (nI n), .int (nI o), .ref (tA k x), .ref (tA k y)]) dX11_text_255 fl_X11_7 hoK rfl ?_
        refine r_bipush (v := (11 : Int32)) dX11_text_258 (by decide) ?_
        refine r_icmp_ge (tgt := 326) dX11_text_260 (by decide) (fun _ => ?_) (fun hc => absurd (by decide) hc)
        refine r_aload_n 4 dX11_text_326 rfl ?_
        refine r_getm (v := .int (30 : Int32)) (ci := 11) (fs := [.int (30 : Int32), .int (nI n), .int (nI o), .ref (tA k x), .ref (tA k y)]) dX11_text_327 fl_X11_7 hoK rfl ?_
        refine r_bipush (v := (13 : Int32)) dX11_text_330 (by decide) ?_
        refine r_icmp_ge (tgt := 388) dX11_text_332 (by decide) (fun _ => ?_) (fun hc => absurd (by decide) hc)
        refine r_aload_n 4 dX11_text_388 rfl ?_
        refine r_getm (v := .int (30 : Int32)) (ci := 11) (fs := [.int (30 : Int32), .int (nI n), .int (nI o), .ref (tA k x), .ref (tA k y)]) dX11_text_389 fl_X11_7 hoK rfl ?_
        refine r_bipush (v := (25 : Int32)) dX11_text_392 (by decide) ?_
        refine r_icmp_ge (tgt := 440) dX11_text_394 (by decide) (fun _ => ?_) (fun hc => absurd (by decide) hc)
        refine r_aload_n 4 dX11_text_440 rfl ?_
        refine r_getm (v := .int (30 : Int32)) (ci := 11) (fs := [.int (30 : Int32), .int (nI n), .int (nI o), .ref (tA k x), .ref (tA k y)]) dX11_text_441 fl_X11_7 hoK rfl ?_
        refine r_bipush (v := (25 : Int32)) dX11_text_444 (by decide) ?_
        refine r_icmp_ne (tgt := 491) dX11_text_446 (by decide) (fun _ => ?_) (fun hc => absurd hc (by decide))
        refine r_aload_n 4 dX11_text_491 rfl ?_
        refine r_getm (v := .int (30 : Int32)) (ci := 11) (fs := [.int (30 : Int32), .int (nI n), .int (nI o), .ref (tA k x), .ref (tA k y)]) dX11_text_492 fl_X11_7 hoK rfl ?_
        refine r_bipush (v := (29 : Int32)) dX11_text_495 (by decide) ?_
        refine r_icmp_ge (tgt := 536) dX11_text_497 (by decide) (fun _ => ?_) (fun hc => absurd (by decide) hc)
        refine r_aload_n 4 dX11_text_536 rfl ?_
        refine r_getm (v := .int (30 : Int32)) (ci := 11) (fs := [.int (30 : Int32), .int (nI n), .int (nI o), .ref (tA k x), .ref (tA k y)]) dX11_text_537 fl_X11_7 hoK rfl ?_
        refine r_bipush (v := (29 : Int32)) dX11_text_540 (by decide) ?_
        refine r_icmp_ne (tgt := 578) dX11_text_542 (by decide) (fun _ => ?_) (fun hc => absurd hc (by decide))
        refine r_new (N := 4) (x := ((16 * 2 ^ k - 16) + (16 * 2 ^ k - 16) + 11)) (y := ((33000 * 2 ^ k - 33000) + (33000 * 2 ^ k - 33000) + 32975)) dX11_text_578 nl_X11_110 (fun q21 => ?_)
        refine r_dup dX11_text_581 rfl ?_
        refine k_I (x := ((16 * 2 ^ k - 16) + (16 * 2 ^ k - 16) + 10)) (y := ((33000 * 2 ^ k - 33000) + (33000 * 2 ^ k - 33000) + 32959)) (rest := [.ref q21]) dX11_text_582 ki_X11_112 (cj_sb) rfl rfl (Nat.le_of_ble_eq_true rfl) (by omega) (by decide) ?_
        rintro bv464 -
        show R g mX11_text (k + 1 + 8) ((16 * 2 ^ k - 16) + (16 * 2 ^ k - 16) + 10) ((33000 * 2 ^ k - 33000) + (33000 * 2 ^ k - 33000) + 32959) 585 [(4, .ref q4), (3, .ref q3), (2, .ref q2), (1, .ref q1), (0, .ref a)] [.ref q21] ((q21, .inr (13, [.ref bv464, .int (0 : Int32), .int (0 : Int32), .int (nI ([] : List Int32).length)])) :: ((bv464, yA g 16 (fun _ => 0)) :: t0)) _
        refine r_ldcS (i := 55) dX11_text_585 rfl ?_
        have bn469 : (([] : List Int32) ++ kT 55).length ≤ 1 := lnA (L := ([] : List Int32)) (L2 := kT 55) (n := 0) (n2 := 1) (Nat.le_refl 0) (by decide)
        refine k_V (x := ((16 * 2 ^ k - 16) + (16 * 2 ^ k - 16) + 9)) (y := ((33000 * 2 ^ k - 33000) + (33000 * 2 ^ k - 33000) + 28957)) (rest := []) 0 dX11_text_587 kv_X11_113 (cj_apK (i := 55) (by decide) BL.nil (Nat.le_trans bn469 (by omega))) rfl rfl rfl rfl (Nat.le_of_ble_eq_true rfl) (by omega) (by decide) ?_
        rintro ⟨bv465, bm466, bf467⟩ bh468
        try dsimp only at bh468
        show R g mX11_text (k + 1 + 8) ((16 * 2 ^ k - 16) + (16 * 2 ^ k - 16) + 9) ((33000 * 2 ^ k - 33000) + (33000 * 2 ^ k - 33000) + 28957) 590 [(4, .ref q4), (3, .ref q3), (2, .ref q2), (1, .ref q1), (0, .ref a)] [.ref q21] ((q21, .inr (13, [.ref bv465, .int (0 : Int32), .int (0 : Int32), .int (nI (([] : List Int32) ++ kT 55).length)])) :: ((bv465, yA g bm466 bf467) :: t0)) _
        refine r_aload_n 4 dX11_text_590 rfl ?_
        refine r_getm (v := .ref (tA k x)) (ci := 11) (fs := [.int (30 : Int32), .int (nI n), .int (nI o), .ref (tA k x), .ref (tA k y)]) dX11_text_591 fl_X11_40 (List.mem_cons_of_mem _ (List.mem_cons_of_mem _ hoK)) rfl ?_
        obtain ⟨fszz470, hfzz470⟩ := TM.cell k x (hma x rfl)
        refine r_room (x2 := ((16 * 2 ^ k - 16) + 9) + (16 * 2 ^ k - 16)) (y2 := ((33000 * 2 ^ k - 33000) + 28957) + (33000 * 2 ^ k - 33000)) (by omega) (by omega) ?_
        refine k_Vm (x := ((16 * 2 ^ k - 16) + 9)) (y := ((33000 * 2 ^ k - 33000) + 28957)) (rest := [.ref q21]) dX11_text_594 kv_X11_128 (cl_text hn hne k x _ (by omega) (TM.mono (fun p hp => (List.mem_cons_of_mem _ (List.mem_cons_of_mem _ (mt p hp)))) k x (hma x rfl)) hx) rfl rfl (List.mem_cons_of_mem _ (List.mem_cons_of_mem _ (mt _ hfzz470))) rfl (Nat.le_of_ble_eq_true rfl) (by omega) (by decide) ?_
        rintro zz470 hz471
        refine r_seg (ws2 := ((q21, .inr (13, [.ref bv465, .int (0 : Int32), .int (0 : Int32), .int (nI (([] : List Int32) ++ kT 55).length)])) :: ((bv465, yA g bm466 bf467) :: ((sw g (txt k x).length zz470) ++ t0)))) [sw g (txt k x).length zz470, [(q21, .inr (13, [.ref bv465, .int (0 : Int32), .int (0 : Int32), .int (nI (([] : List Int32) ++ kT 55).length)]))], [(bv465, yA g bm466 bf467)], t0] [1, 2, 0, 3] rfl rfl rfl ?_
        have bn476 : ((([] : List Int32) ++ kT 55) ++ txt k x).length ≤ (1 + (12 * 2 ^ k - 7)) := lnA (L := (([] : List Int32) ++ kT 55)) (L2 := txt k x) (n := 1) (n2 := (12 * 2 ^ k - 7)) bn469 (txt_len (by omega) (by omega) k x hx)
        refine k_V (x := ((16 * 2 ^ k - 16) + 8)) (y := ((33000 * 2 ^ k - 33000) + 24955)) (rest := []) 0 dX11_text_597 kv_X11_113 (cj_apX (L2 := txt k x) (z := zz470) hz471 bh468 (Nat.le_trans bn476 (by omega))) rfl rfl rfl rfl (Nat.le_of_ble_eq_true rfl) (by omega) (by decide) ?_
        rintro ⟨bv472, bm473, bf474⟩ bh475
        try dsimp only at bh475
        show R g mX11_text (k + 1 + 8) ((16 * 2 ^ k - 16) + 8) ((33000 * 2 ^ k - 33000) + 24955) 600 [(4, .ref q4), (3, .ref q3), (2, .ref q2), (1, .ref q1), (0, .ref a)] [.ref q21] ((q21, .inr (13, [.ref bv472, .int (0 : Int32), .int (0 : Int32), .int (nI ((([] : List Int32) ++ kT 55) ++ txt k x).length)])) :: ((bv472, yA g bm473 bf474) :: ((sw g (txt k x).length zz470) ++ t0))) _
        refine r_seg (ws2 := ((q21, .inr (13, [.ref bv472, .int (0 : Int32), .int (0 : Int32), .int (nI ((([] : List Int32) ++ kT 55) ++ txt k x).length)])) :: ((bv472, yA g bm473 bf474) :: t0))) [[(q21, .inr (13, [.ref bv472, .int (0 : Int32), .int (0 : Int32), .int (nI ((([] : List Int32) ++ kT 55) ++ txt k x).length)]))], [(bv472, yA g bm473 bf474)], sw g (txt k x).length zz470, t0] [0, 1, 3] rfl rfl rfl ?_
        refine r_ldcS (i := 54) dX11_text_600 rfl ?_
        have bn481 : (((([] : List Int32) ++ kT 55) ++ txt k x) ++ kT 54).length ≤ ((1 + (12 * 2 ^ k - 7)) + 1) := lnA (L := ((([] : List Int32) ++ kT 55) ++ txt k x)) (L2 := kT 54) (n := (1 + (12 * 2 ^ k - 7))) (n2 := 1) bn476 (by decide)
        refine k_V (x := ((16 * 2 ^ k - 16) + 7)) (y := ((33000 * 2 ^ k - 33000) + 20953)) (rest := []) 0 dX11_text_602 kv_X11_113 (cj_apK (i := 54) (by decide) bh475 (Nat.le_trans bn481 (by omega))) rfl rfl rfl rfl (Nat.le_of_ble_eq_true rfl) (by omega) (by decide) ?_
        rintro ⟨bv477, bm478, bf479⟩ bh480
        try dsimp only at bh480
        show R g mX11_text (k + 1 + 8) ((16 * 2 ^ k - 16) + 7) ((33000 * 2 ^ k - 33000) + 20953) 605 [(4, .ref q4), (3, .ref q3), (2, .ref q2), (1, .ref q1), (0, .ref a)] [.ref q21] ((q21, .inr (13, [.ref bv477, .int (0 : Int32), .int (0 : Int32), .int (nI (((([] : List Int32) ++ kT 55) ++ txt k x) ++ kT 54).length)])) :: ((bv477, yA g bm478 bf479) :: t0)) _
        refine r_aload_n 4 dX11_text_605 rfl ?_
        refine r_getm (v := .int (30 : Int32)) (ci := 11) (fs := [.int (30 : Int32), .int (nI n), .int (nI o), .ref (tA k x), .ref (tA k y)]) dX11_text_606 fl_X11_7 (List.mem_cons_of_mem _ (List.mem_cons_of_mem _ hoK)) rfl ?_
        refine r_bipush (v := (30 : Int32)) dX11_text_609 (by decide) ?_
        refine r_icmp_ne (tgt := 619) dX11_text_611 (by decide) (fun hc => absurd (by decide) hc) (fun _ => ?_)
        refine r_ldcS (i := 56) dX11_text_614 rfl ?_
        refine r_goto (tgt := 621) dX11_text_616 (by decide) ?_
        have bn486 : ((((([] : List Int32) ++ kT 55) ++ txt k x) ++ kT 54) ++ kT 56).length ≤ (((1 + (12 * 2 ^ k - 7)) + 1) + 3) := lnA (L := (((([] : List Int32) ++ kT 55) ++ txt k x) ++ kT 54)) (L2 := kT 56) (n := ((1 + (12 * 2 ^ k - 7)) + 1)) (n2 := 3) bn481 (by decide)
        refine k_V (x := ((16 * 2 ^ k - 16) + 6)) (y := ((33000 * 2 ^ k - 33000) + 16951)) (rest := []) 0 dX11_text_621 kv_X11_113 (cj_apK (i := 56) (by decide) bh480 (Nat.le_trans bn486 (by omega))) rfl rfl rfl rfl (Nat.le_of_ble_eq_true rfl) (by omega) (by decide) ?_
        rintro ⟨bv482, bm483, bf484⟩ bh485
        try dsimp only at bh485
        show R g mX11_text (k + 1 + 8) ((16 * 2 ^ k - 16) + 6) ((33000 * 2 ^ k - 33000) + 16951) 624 [(4, .ref q4), (3, .ref q3), (2, .ref q2), (1, .ref q1), (0, .ref a)] [.ref q21] ((q21, .inr (13, [.ref bv482, .int (0 : Int32), .int (0 : Int32), .int (nI ((((([] : List Int32) ++ kT 55) ++ txt k x) ++ kT 54) ++ kT 56).length)])) :: ((bv482, yA g bm483 bf484) :: t0)) _
        refine r_ldcS (i := 55) dX11_text_624 rfl ?_
        have bn491 : (((((([] : List Int32) ++ kT 55) ++ txt k x) ++ kT 54) ++ kT 56) ++ kT 55).length ≤ ((((1 + (12 * 2 ^ k - 7)) + 1) + 3) + 1) := lnA (L := ((((([] : List Int32) ++ kT 55) ++ txt k x) ++ kT 54) ++ kT 56)) (L2 := kT 55) (n := (((1 + (12 * 2 ^ k - 7)) + 1) + 3)) (n2 := 1) bn486 (by decide)
        refine k_V (x := ((16 * 2 ^ k - 16) + 5)) (y := ((33000 * 2 ^ k - 33000) + 12949)) (rest := []) 0 dX11_text_626 kv_X11_113 (cj_apK (i := 55) (by decide) bh485 (Nat.le_trans bn491 (by omega))) rfl rfl rfl rfl (Nat.le_of_ble_eq_true rfl) (by omega) (by decide) ?_
        rintro ⟨bv487, bm488, bf489⟩ bh490
        try dsimp only at bh490
        show R g mX11_text (k + 1 + 8) ((16 * 2 ^ k - 16) + 5) ((33000 * 2 ^ k - 33000) + 12949) 629 [(4, .ref q4), (3, .ref q3), (2, .ref q2), (1, .ref q1), (0, .ref a)] [.ref q21] ((q21, .inr (13, [.ref bv487, .int (0 : Int32), .int (0 : Int32), .int (nI (((((([] : List Int32) ++ kT 55) ++ txt k x) ++ kT 54) ++ kT 56) ++ kT 55).length)])) :: ((bv487, yA g bm488 bf489) :: t0)) _
        refine r_aload_n 4 dX11_text_629 rfl ?_
        refine r_getm (v := .ref (tA k y)) (ci := 11) (fs := [.int (30 : Int32), .int (nI n), .int (nI o), .ref (tA k x), .ref (tA k y)]) dX11_text_630 fl_X11_59 (List.mem_cons_of_mem _ (List.mem_cons_of_mem _ hoK)) rfl ?_
        obtain ⟨fszz492, hfzz492⟩ := TM.cell k y (hmb y rfl)
        refine r_room (x2 := 5 + (16 * 2 ^ k - 16)) (y2 := 12949 + (33000 * 2 ^ k - 33000)) (by omega) (by omega) ?_
        refine k_Vm (x := 5) (y := 12949) (rest := [.ref q21]) dX11_text_633 kv_X11_128 (cl_text hn hne k y _ (by omega) (TM.mono (fun p hp => (List.mem_cons_of_mem _ (List.mem_cons_of_mem _ (mt p hp)))) k y (hmb y rfl)) hy) rfl rfl (List.mem_cons_of_mem _ (List.mem_cons_of_mem _ (mt _ hfzz492))) rfl (Nat.le_of_ble_eq_true rfl) (by omega) (by decide) ?_
        rintro zz492 hz493
        refine r_seg (ws2 := ((q21, .inr (13, [.ref bv487, .int (0 : Int32), .int (0 : Int32), .int (nI (((((([] : List Int32) ++ kT 55) ++ txt k x) ++ kT 54) ++ kT 56) ++ kT 55).length)])) :: ((bv487, yA g bm488 bf489) :: ((sw g (txt k y).length zz492) ++ t0)))) [sw g (txt k y).length zz492, [(q21, .inr (13, [.ref bv487, .int (0 : Int32), .int (0 : Int32), .int (nI (((((([] : List Int32) ++ kT 55) ++ txt k x) ++ kT 54) ++ kT 56) ++ kT 55).length)]))], [(bv487, yA g bm488 bf489)], t0] [1, 2, 0, 3] rfl rfl rfl ?_
        have bn498 : ((((((([] : List Int32) ++ kT 55) ++ txt k x) ++ kT 54) ++ kT 56) ++ kT 55) ++ txt k y).length ≤ (((((1 + (12 * 2 ^ k - 7)) + 1) + 3) + 1) + (12 * 2 ^ k - 7)) := lnA (L := (((((([] : List Int32) ++ kT 55) ++ txt k x) ++ kT 54) ++ kT 56) ++ kT 55)) (L2 := txt k y) (n := ((((1 + (12 * 2 ^ k - 7)) + 1) + 3) + 1)) (n2 := (12 * 2 ^ k - 7)) bn491 (txt_len (by omega) (by omega) k y hy)
        refine k_V (x := 4) (y := 8947) (rest := []) 0 dX11_text_636 kv_X11_113 (cj_apX (L2 := txt k y) (z := zz492) hz493 bh490 (Nat.le_trans bn498 (by omega))) rfl rfl rfl rfl (Nat.le_of_ble_eq_true rfl) (by omega) (by decide) ?_
        rintro ⟨bv494, bm495, bf496⟩ bh497
        try dsimp only at bh497
        show R g mX11_text (k + 1 + 8) 4 8947 639 [(4, .ref q4), (3, .ref q3), (2, .ref q2), (1, .ref q1), (0, .ref a)] [.ref q21] ((q21, .inr (13, [.ref bv494, .int (0 : Int32), .int (0 : Int32), .int (nI ((((((([] : List Int32) ++ kT 55) ++ txt k x) ++ kT 54) ++ kT 56) ++ kT 55) ++ txt k y).length)])) :: ((bv494, yA g bm495 bf496) :: ((sw g (txt k y).length zz492) ++ t0))) _
        refine r_seg (ws2 := ((q21, .inr (13, [.ref bv494, .int (0 : Int32), .int (0 : Int32), .int (nI ((((((([] : List Int32) ++ kT 55) ++ txt k x) ++ kT 54) ++ kT 56) ++ kT 55) ++ txt k y).length)])) :: ((bv494, yA g bm495 bf496) :: t0))) [[(q21, .inr (13, [.ref bv494, .int (0 : Int32), .int (0 : Int32), .int (nI ((((((([] : List Int32) ++ kT 55) ++ txt k x) ++ kT 54) ++ kT 56) ++ kT 55) ++ txt k y).length)]))], [(bv494, yA g bm495 bf496)], sw g (txt k y).length zz492, t0] [0, 1, 3] rfl rfl rfl ?_
        refine r_ldcS (i := 54) dX11_text_639 rfl ?_
        have bn503 : (((((((([] : List Int32) ++ kT 55) ++ txt k x) ++ kT 54) ++ kT 56) ++ kT 55) ++ txt k y) ++ kT 54).length ≤ ((((((1 + (12 * 2 ^ k - 7)) + 1) + 3) + 1) + (12 * 2 ^ k - 7)) + 1) := lnA (L := ((((((([] : List Int32) ++ kT 55) ++ txt k x) ++ kT 54) ++ kT 56) ++ kT 55) ++ txt k y)) (L2 := kT 54) (n := (((((1 + (12 * 2 ^ k - 7)) + 1) + 3) + 1) + (12 * 2 ^ k - 7))) (n2 := 1) bn498 (by decide)
        refine k_V (x := 3) (y := 4945) (rest := []) 0 dX11_text_641 kv_X11_113 (cj_apK (i := 54) (by decide) bh497 (Nat.le_trans bn503 (by omega))) rfl rfl rfl rfl (Nat.le_of_ble_eq_true rfl) (by omega) (by decide) ?_
        rintro ⟨bv499, bm500, bf501⟩ bh502
        try dsimp only at bh502
        show R g mX11_text (k + 1 + 8) 3 4945 644 [(4, .ref q4), (3, .ref q3), (2, .ref q2), (1, .ref q1), (0, .ref a)] [.ref q21] ((q21, .inr (13, [.ref bv499, .int (0 : Int32), .int (0 : Int32), .int (nI (((((((([] : List Int32) ++ kT 55) ++ txt k x) ++ kT 54) ++ kT 56) ++ kT 55) ++ txt k y) ++ kT 54).length)])) :: ((bv499, yA g bm500 bf501) :: t0)) _
        refine k_V (x := 1) (y := 939) (rest := []) 0 dX11_text_644 kv_X11_120 (cj_strB bh502) rfl rfl rfl rfl (Nat.le_of_ble_eq_true rfl) (by omega) (by decide) ?_
        rintro ⟨ts504, tb505, tf506⟩ th507
        try dsimp only at th507
        show R g mX11_text (k + 1 + 8) 1 939 647 [(4, .ref q4), (3, .ref q3), (2, .ref q2), (1, .ref q1), (0, .ref a)] [.ref ts504] ((ts504, .inr (12, [.ref tb505, .int (0 : Int32), .int (0 : Int32), .int (0 : Int32)])) :: ((tb505, yA g (((((((([] : List Int32) ++ kT 55) ++ txt k x) ++ kT 54) ++ kT 56) ++ kT 55) ++ txt k y) ++ kT 54).length tf506) :: ((q21, .inr (13, [.ref bv499, .int (0 : Int32), .int (0 : Int32), .int (nI (((((((([] : List Int32) ++ kT 55) ++ txt k x) ++ kT 54) ++ kT 56) ++ kT 55) ++ txt k y) ++ kT 54).length)])) :: ((bv499, yA g bm500 bf501) :: t0)))) _
        rw [e0]
        refine r_seg (ws2 := ((ts504, .inr (12, [.ref tb505, .int (0 : Int32), .int (0 : Int32), .int (0 : Int32)])) :: ((tb505, yA g (((((((([] : List Int32) ++ kT 55) ++ txt k x) ++ kT 54) ++ kT 56) ++ kT 55) ++ txt k y) ++ kT 54).length tf506) :: t))) [[(ts504, .inr (12, [.ref tb505, .int (0 : Int32), .int (0 : Int32), .int (0 : Int32)]))], [(tb505, yA g (((((((([] : List Int32) ++ kT 55) ++ txt k x) ++ kT 54) ++ kT 56) ++ kT 55) ++ txt k y) ++ kT 54).length tf506)], [(q21, .inr (13, [.ref bv499, .int (0 : Int32), .int (0 : Int32), .int (nI (((((((([] : List Int32) ++ kT 55) ++ txt k x) ++ kT 54) ++ kT 56) ++ kT 55) ++ txt k y) ++ kT 54).length)]))], [(bv499, yA g bm500 bf501)], [(q4, qA g 7 4 (va_up (va_up (va_up (va_up (fun _ => none) 0 (some (gK g 43))) 1 (some (gK g 44))) 2 (some (gK g 45))) 3 (some (gK g 46))))], [(q3, qA g 7 5 (va_up (va_up (va_up (va_up (va_up (fun _ => none) 0 (some (gK g 38))) 1 (some (gK g 39))) 2 (some (gK g 40))) 3 (some (gK g 41))) 4 (some (gK g 42))))], [(q2, qA g 7 6 (va_up (va_up (va_up (va_up (va_up (va_up (fun _ => none) 0 (some (gK g 32))) 1 (some (gK g 33))) 2 (some (gK g 34))) 3 (some (gK g 35))) 4 (some (gK g 36))) 5 (some (gK g 37))))], [(q1, qA g 7 6 (va_up (va_up (va_up (va_up (va_up (va_up (fun _ => none) 0 (some (gK g iE))) 1 (some (gK g 27))) 2 (some (gK g 28))) 3 (some (gK g 29))) 4 (some (gK g 30))) 5 (some (gK g 31))))], t] [0, 1, 8] rfl rfl rfl ?_
        refine r_aret dX11_text_647 rfl rfl (Or.inr ⟨_, rfl⟩) ?_
        exact Dq.mk (Sum.inr (ts504, tb505, tf506)) rfl rfl th507
      · have hoK : (a, .inr (11, [.int (31 : Int32), .int (nI n), .int (nI o), .ref (tA k x), .ref (tA k y)])) ∈ t0 := mt _ ho
        have hE : txt (k + 1) ((a, 31, n, o), some x, some y) = (((((((([] : List Int32) ++ kT 55) ++ (txt k x)) ++ kT 54) ++ kT 57) ++ kT 55) ++ (txt k y)) ++ kT 54) := rfl
        rw [hE]
        show R g mX11_text (k + 1 + 8) ((16 * 2 ^ k - 16) + (16 * 2 ^ k - 16) + 12) ((33000 * 2 ^ k - 33000) + (33000 * 2 ^ k - 33000) + 32979) 128 [(4, .ref q4), (3, .ref q3), (2, .ref q2), (1, .ref q1), (0, .ref a)] [] t0 _
        refine r_aload_n 4 dX11_text_128 rfl ?_
        refine r_getm (v := .int (31 : Int32)) (ci := 11) (fs := [.int (31 : Int32), .int (nI n), .int (nI o), .ref (tA k x), .ref (tA k y)]) dX11_text_129 fl_X11_7 hoK rfl ?_
        refine r_if_ne (tgt := 158) dX11_text_132 (by decide) (fun _ => ?_) (fun hc => absurd hc (by decide))
        refine r_aload_n 4 dX11_text_158 rfl ?_
        refine r_getm (v := .int (31 : Int32)) (ci := 11) (fs := [.int (31 : Int32), .int (nI n), .int (nI o), .ref (tA k x), .ref (tA k y)]) dX11_text_159 fl_X11_7 hoK rfl ?_
        refine r_iconst (v := (4 : Int32)) dX11_text_162 (by decide) ?_
        refine r_icmp_ge (tgt := 173) dX11_text_163 (by decide) (fun _ => ?_) (fun hc => absurd (by decide) hc)
        refine r_aload_n 4 dX11_text_173 rfl ?_
        refine r_getm (v := .int (31 : Int32)) (ci := 11) (fs := [.int (31 : Int32), .int (nI n), .int (nI o), .ref (tA k x), .ref (tA k y)]) dX11_text_174 fl_X11_7 hoK rfl ?_
        refine r_bipush (v := (6 : Int32)) dX11_text_177 (by decide) ?_
        refine r_icmp_ge (tgt := 214) dX11_text_179 (by decide) (fun _ => ?_) (fun hc => absurd (by decide) hc)
        refine r_aload_n 4 dX11_text_214 rfl ?_
        refine r_getm (v := .int (31 : Int32)) (ci := 11) (fs := [.int (31 : Int32), .int (nI n), .int (nI o), .ref (tA k x), .ref (tA k y)]) dX11_text_215 fl_X11_7 hoK rfl ?_
        refine r_bipush (v := (6 : Int32)) dX11_text_218 (by decide) ?_
        refine r_icmp_ne (tgt := 254) dX11_text_220 (by decide) (fun _ => ?_) (fun hc => absurd hc (by decide))
        refine r_aload_n 4 dX11_text_254 rfl ?_
        refine r_getm (v := .int (31 : Int32)) (ci := 11) (fs := [.int (31 : Int32), .int (nI n), .int (nI o), .ref (tA k x), .ref (tA k y)]) dX11_text_255 fl_X11_7 hoK rfl ?_
        refine r_bipush (v := (11 : Int32)) dX11_text_258 (by decide) ?_
        refine r_icmp_ge (tgt := 326) dX11_text_260 (by decide) (fun _ => ?_) (fun hc => absurd (by decide) hc)
        refine r_aload_n 4 dX11_text_326 rfl ?_
        refine r_getm (v := .int (31 : Int32)) (ci := 11) (fs := [.int (31 : Int32), .int (nI n), .int (nI o), .ref (tA k x), .ref (tA k y)]) dX11_text_327 fl_X11_7 hoK rfl ?_
        refine r_bipush (v := (13 : Int32)) dX11_text_330 (by decide) ?_
        refine r_icmp_ge (tgt := 388) dX11_text_332 (by decide) (fun _ => ?_) (fun hc => absurd (by decide) hc)
        refine r_aload_n 4 dX11_text_388 rfl ?_
        refine r_getm (v := .int (31 : Int32)) (ci := 11) (fs := [.int (31 : Int32), .int (nI n), .int (nI o), .ref (tA k x), .ref (tA k y)]) dX11_text_389 fl_X11_7 hoK rfl ?_
        refine r_bipush (v := (25 : Int32)) dX11_text_392 (by decide) ?_
        refine r_icmp_ge (tgt := 440) dX11_text_394 (by decide) (fun _ => ?_) (fun hc => absurd (by decide) hc)
        refine r_aload_n 4 dX11_text_440 rfl ?_
        refine r_getm (v := .int (31 : Int32)) (ci := 11) (fs := [.int (31 : Int32), .int (nI n), .int (nI o), .ref (tA k x), .ref (tA k y)]) dX11_text_441 fl_X11_7 hoK rfl ?_
        refine r_bipush (v := (25 : Int32)) dX11_text_444 (by decide) ?_
        refine r_icmp_ne (tgt := 491) dX11_text_446 (by decide) (fun _ => ?_) (fun hc => absurd hc (by decide))
        refine r_aload_n 4 dX11_text_491 rfl ?_
        refine r_getm (v := .int (31 : Int32)) (ci := 11) (fs := [.int (31 : Int32), .int (nI n), .int (nI o), .ref (tA k x), .ref (tA k y)]) dX11_text_492 fl_X11_7 hoK rfl ?_
        refine r_bipush (v := (29 : Int32)) dX11_text_495 (by decide) ?_
        refine r_icmp_ge (tgt := 536) dX11_text_497 (by decide) (fun _ => ?_) (fun hc => absurd (by decide) hc)
        refine r_aload_n 4 dX11_text_536 rfl ?_
        refine r_getm (v := .int (31 : Int32)) (ci := 11) (fs := [.int (31 : Int32), .int (nI n), .int (nI o), .ref (tA k x), .ref (tA k y)]) dX11_text_537 fl_X11_7 hoK rfl ?_
        refine r_bipush (v := (29 : Int32)) dX11_text_540 (by decide) ?_
        refine r_icmp_ne (tgt := 578) dX11_text_542 (by decide) (fun _ => ?_) (fun hc => absurd hc (by decide))
        refine r_new (N := 4) (x := ((16 * 2 ^ k - 16) + (16 * 2 ^ k - 16) + 11)) (y := ((33000 * 2 ^ k - 33000) + (33000 * 2 ^ k - 33000) + 32975)) dX11_text_578 nl_X11_110 (fun q22 => ?_)
        refine r_dup dX11_text_581 rfl ?_
        refine k_I (x := ((16 * 2 ^ k - 16) + (16 * 2 ^ k - 16) + 10)) (y := ((33000 * 2 ^ k - 33000) + (33000 * 2 ^ k - 33000) + 32959)) (rest := [.ref q22]) dX11_text_582 ki_X11_112 (cj_sb) rfl rfl (Nat.le_of_ble_eq_true rfl) (by omega) (by decide) ?_
        rintro bv508 -
        show R g mX11_text (k + 1 + 8) ((16 * 2 ^ k - 16) + (16 * 2 ^ k - 16) + 10) ((33000 * 2 ^ k - 33000) + (33000 * 2 ^ k - 33000) + 32959) 585 [(4, .ref q4), (3, .ref q3), (2, .ref q2), (1, .ref q1), (0, .ref a)] [.ref q22] ((q22, .inr (13, [.ref bv508, .int (0 : Int32), .int (0 : Int32), .int (nI ([] : List Int32).length)])) :: ((bv508, yA g 16 (fun _ => 0)) :: t0)) _
        refine r_ldcS (i := 55) dX11_text_585 rfl ?_
        have bn513 : (([] : List Int32) ++ kT 55).length ≤ 1 := lnA (L := ([] : List Int32)) (L2 := kT 55) (n := 0) (n2 := 1) (Nat.le_refl 0) (by decide)
        refine k_V (x := ((16 * 2 ^ k - 16) + (16 * 2 ^ k - 16) + 9)) (y := ((33000 * 2 ^ k - 33000) + (33000 * 2 ^ k - 33000) + 28957)) (rest := []) 0 dX11_text_587 kv_X11_113 (cj_apK (i := 55) (by decide) BL.nil (Nat.le_trans bn513 (by omega))) rfl rfl rfl rfl (Nat.le_of_ble_eq_true rfl) (by omega) (by decide) ?_
        rintro ⟨bv509, bm510, bf511⟩ bh512
        try dsimp only at bh512
        show R g mX11_text (k + 1 + 8) ((16 * 2 ^ k - 16) + (16 * 2 ^ k - 16) + 9) ((33000 * 2 ^ k - 33000) + (33000 * 2 ^ k - 33000) + 28957) 590 [(4, .ref q4), (3, .ref q3), (2, .ref q2), (1, .ref q1), (0, .ref a)] [.ref q22] ((q22, .inr (13, [.ref bv509, .int (0 : Int32), .int (0 : Int32), .int (nI (([] : List Int32) ++ kT 55).length)])) :: ((bv509, yA g bm510 bf511) :: t0)) _
        refine r_aload_n 4 dX11_text_590 rfl ?_
        refine r_getm (v := .ref (tA k x)) (ci := 11) (fs := [.int (31 : Int32), .int (nI n), .int (nI o), .ref (tA k x), .ref (tA k y)]) dX11_text_591 fl_X11_40 (List.mem_cons_of_mem _ (List.mem_cons_of_mem _ hoK)) rfl ?_
        obtain ⟨fszz514, hfzz514⟩ := TM.cell k x (hma x rfl)
        refine r_room (x2 := ((16 * 2 ^ k - 16) + 9) + (16 * 2 ^ k - 16)) (y2 := ((33000 * 2 ^ k - 33000) + 28957) + (33000 * 2 ^ k - 33000)) (by omega) (by omega) ?_
        refine k_Vm (x := ((16 * 2 ^ k - 16) + 9)) (y := ((33000 * 2 ^ k - 33000) + 28957)) (rest := [.ref q22]) dX11_text_594 kv_X11_128 (cl_text hn hne k x _ (by omega) (TM.mono (fun p hp => (List.mem_cons_of_mem _ (List.mem_cons_of_mem _ (mt p hp)))) k x (hma x rfl)) hx) rfl rfl (List.mem_cons_of_mem _ (List.mem_cons_of_mem _ (mt _ hfzz514))) rfl (Nat.le_of_ble_eq_true rfl) (by omega) (by decide) ?_
        rintro zz514 hz515
        refine r_seg (ws2 := ((q22, .inr (13, [.ref bv509, .int (0 : Int32), .int (0 : Int32), .int (nI (([] : List Int32) ++ kT 55).length)])) :: ((bv509, yA g bm510 bf511) :: ((sw g (txt k x).length zz514) ++ t0)))) [sw g (txt k x).length zz514, [(q22, .inr (13, [.ref bv509, .int (0 : Int32), .int (0 : Int32), .int (nI (([] : List Int32) ++ kT 55).length)]))], [(bv509, yA g bm510 bf511)], t0] [1, 2, 0, 3] rfl rfl rfl ?_
        have bn520 : ((([] : List Int32) ++ kT 55) ++ txt k x).length ≤ (1 + (12 * 2 ^ k - 7)) := lnA (L := (([] : List Int32) ++ kT 55)) (L2 := txt k x) (n := 1) (n2 := (12 * 2 ^ k - 7)) bn513 (txt_len (by omega) (by omega) k x hx)
        refine k_V (x := ((16 * 2 ^ k - 16) + 8)) (y := ((33000 * 2 ^ k - 33000) + 24955)) (rest := []) 0 dX11_text_597 kv_X11_113 (cj_apX (L2 := txt k x) (z := zz514) hz515 bh512 (Nat.le_trans bn520 (by omega))) rfl rfl rfl rfl (Nat.le_of_ble_eq_true rfl) (by omega) (by decide) ?_
        rintro ⟨bv516, bm517, bf518⟩ bh519
        try dsimp only at bh519
        show R g mX11_text (k + 1 + 8) ((16 * 2 ^ k - 16) + 8) ((33000 * 2 ^ k - 33000) + 24955) 600 [(4, .ref q4), (3, .ref q3), (2, .ref q2), (1, .ref q1), (0, .ref a)] [.ref q22] ((q22, .inr (13, [.ref bv516, .int (0 : Int32), .int (0 : Int32), .int (nI ((([] : List Int32) ++ kT 55) ++ txt k x).length)])) :: ((bv516, yA g bm517 bf518) :: ((sw g (txt k x).length zz514) ++ t0))) _
        refine r_seg (ws2 := ((q22, .inr (13, [.ref bv516, .int (0 : Int32), .int (0 : Int32), .int (nI ((([] : List Int32) ++ kT 55) ++ txt k x).length)])) :: ((bv516, yA g bm517 bf518) :: t0))) [[(q22, .inr (13, [.ref bv516, .int (0 : Int32), .int (0 : Int32), .int (nI ((([] : List Int32) ++ kT 55) ++ txt k x).length)]))], [(bv516, yA g bm517 bf518)], sw g (txt k x).length zz514, t0] [0, 1, 3] rfl rfl rfl ?_
        refine r_ldcS (i := 54) dX11_text_600 rfl ?_
        have bn525 : (((([] : List Int32) ++ kT 55) ++ txt k x) ++ kT 54).length ≤ ((1 + (12 * 2 ^ k - 7)) + 1) := lnA (L := ((([] : List Int32) ++ kT 55) ++ txt k x)) (L2 := kT 54) (n := (1 + (12 * 2 ^ k - 7))) (n2 := 1) bn520 (by decide)
        refine k_V (x := ((16 * 2 ^ k - 16) + 7)) (y := ((33000 * 2 ^ k - 33000) + 20953)) (rest := []) 0 dX11_text_602 kv_X11_113 (cj_apK (i := 54) (by decide) bh519 (Nat.le_trans bn525 (by omega))) rfl rfl rfl rfl (Nat.le_of_ble_eq_true rfl) (by omega) (by decide) ?_
        rintro ⟨bv521, bm522, bf523⟩ bh524
        try dsimp only at bh524
        show R g mX11_text (k + 1 + 8) ((16 * 2 ^ k - 16) + 7) ((33000 * 2 ^ k - 33000) + 20953) 605 [(4, .ref q4), (3, .ref q3), (2, .ref q2), (1, .ref q1), (0, .ref a)] [.ref q22] ((q22, .inr (13, [.ref bv521, .int (0 : Int32), .int (0 : Int32), .int (nI (((([] : List Int32) ++ kT 55) ++ txt k x) ++ kT 54).length)])) :: ((bv521, yA g bm522 bf523) :: t0)) _
        refine r_aload_n 4 dX11_text_605 rfl ?_
        refine r_getm (v := .int (31 : Int32)) (ci := 11) (fs := [.int (31 : Int32), .int (nI n), .int (nI o), .ref (tA k x), .ref (tA k y)]) dX11_text_606 fl_X11_7 (List.mem_cons_of_mem _ (List.mem_cons_of_mem _ hoK)) rfl ?_
        refine r_bipush (v := (30 : Int32)) dX11_text_609 (by decide) ?_
        refine r_icmp_ne (tgt := 619) dX11_text_611 (by decide) (fun _ => ?_) (fun hc => absurd hc (by decide))
        refine r_ldcS (i := 57) dX11_text_619 rfl ?_
        have bn530 : ((((([] : List Int32) ++ kT 55) ++ txt k x) ++ kT 54) ++ kT 57).length ≤ (((1 + (12 * 2 ^ k - 7)) + 1) + 2) := lnA (L := (((([] : List Int32) ++ kT 55) ++ txt k x) ++ kT 54)) (L2 := kT 57) (n := ((1 + (12 * 2 ^ k - 7)) + 1)) (n2 := 2) bn525 (by decide)
        refine k_V (x := ((16 * 2 ^ k - 16) + 6)) (y := ((33000 * 2 ^ k - 33000) + 16951)) (rest := []) 0 dX11_text_621 kv_X11_113 (cj_apK (i := 57) (by decide) bh524 (Nat.le_trans bn530 (by omega))) rfl rfl rfl rfl (Nat.le_of_ble_eq_true rfl) (by omega) (by decide) ?_
        rintro ⟨bv526, bm527, bf528⟩ bh529
        try dsimp only at bh529
        show R g mX11_text (k + 1 + 8) ((16 * 2 ^ k - 16) + 6) ((33000 * 2 ^ k - 33000) + 16951) 624 [(4, .ref q4), (3, .ref q3), (2, .ref q2), (1, .ref q1), (0, .ref a)] [.ref q22] ((q22, .inr (13, [.ref bv526, .int (0 : Int32), .int (0 : Int32), .int (nI ((((([] : List Int32) ++ kT 55) ++ txt k x) ++ kT 54) ++ kT 57).length)])) :: ((bv526, yA g bm527 bf528) :: t0)) _
        refine r_ldcS (i := 55) dX11_text_624 rfl ?_
        have bn535 : (((((([] : List Int32) ++ kT 55) ++ txt k x) ++ kT 54) ++ kT 57) ++ kT 55).length ≤ ((((1 + (12 * 2 ^ k - 7)) + 1) + 2) + 1) := lnA (L := ((((([] : List Int32) ++ kT 55) ++ txt k x) ++ kT 54) ++ kT 57)) (L2 := kT 55) (n := (((1 + (12 * 2 ^ k - 7)) + 1) + 2)) (n2 := 1) bn530 (by decide)
        refine k_V (x := ((16 * 2 ^ k - 16) + 5)) (y := ((33000 * 2 ^ k - 33000) + 12949)) (rest := []) 0 dX11_text_626 kv_X11_113 (cj_apK (i := 55) (by decide) bh529 (Nat.le_trans bn535 (by omega))) rfl rfl rfl rfl (Nat.le_of_ble_eq_true rfl) (by omega) (by decide) ?_
        rintro ⟨bv531, bm532, bf533⟩ bh534
        try dsimp only at bh534
        show R g mX11_text (k + 1 + 8) ((16 * 2 ^ k - 16) + 5) ((33000 * 2 ^ k - 33000) + 12949) 629 [(4, .ref q4), (3, .ref q3), (2, .ref q2), (1, .ref q1), (0, .ref a)] [.ref q22] ((q22, .inr (13, [.ref bv531, .int (0 : Int32), .int (0 : Int32), .int (nI (((((([] : List Int32) ++ kT 55) ++ txt k x) ++ kT 54) ++ kT 57) ++ kT 55).length)])) :: ((bv531, yA g bm532 bf533) :: t0)) _
        refine r_aload_n 4 dX11_text_629 rfl ?_
        refine r_getm (v := .ref (tA k y)) (ci := 11) (fs := [.int (31 : Int32), .int (nI n), .int (nI o), .ref (tA k x), .ref (tA k y)]) dX11_text_630 fl_X11_59 (List.mem_cons_of_mem _ (List.mem_cons_of_mem _ hoK)) rfl ?_
        obtain ⟨fszz536, hfzz536⟩ := TM.cell k y (hmb y rfl)
        refine r_room (x2 := 5 + (16 * 2 ^ k - 16)) (y2 := 12949 + (33000 * 2 ^ k - 33000)) (by omega) (by omega) ?_
        refine k_Vm (x := 5) (y := 12949) (rest := [.ref q22]) dX11_text_633 kv_X11_128 (cl_text hn hne k y _ (by omega) (TM.mono (fun p hp => (List.mem_cons_of_mem _ (List.mem_cons_of_mem _ (mt p hp)))) k y (hmb y rfl)) hy) rfl rfl (List.mem_cons_of_mem _ (List.mem_cons_of_mem _ (mt _ hfzz536))) rfl (Nat.le_of_ble_eq_true rfl) (by omega) (by decide) ?_
        rintro zz536 hz537
        refine r_seg (ws2 := ((q22, .inr (13, [.ref bv531, .int (0 : Int32), .int (0 : Int32), .int (nI (((((([] : List Int32) ++ kT 55) ++ txt k x) ++ kT 54) ++ kT 57) ++ kT 55).length)])) :: ((bv531, yA g bm532 bf533) :: ((sw g (txt k y).length zz536) ++ t0)))) [sw g (txt k y).length zz536, [(q22, .inr (13, [.ref bv531, .int (0 : Int32), .int (0 : Int32), .int (nI (((((([] : List Int32) ++ kT 55) ++ txt k x) ++ kT 54) ++ kT 57) ++ kT 55).length)]))], [(bv531, yA g bm532 bf533)], t0] [1, 2, 0, 3] rfl rfl rfl ?_
        have bn542 : ((((((([] : List Int32) ++ kT 55) ++ txt k x) ++ kT 54) ++ kT 57) ++ kT 55) ++ txt k y).length ≤ (((((1 + (12 * 2 ^ k - 7)) + 1) + 2) + 1) + (12 * 2 ^ k - 7)) := lnA (L := (((((([] : List Int32) ++ kT 55) ++ txt k x) ++ kT 54) ++ kT 57) ++ kT 55)) (L2 := txt k y) (n := ((((1 + (12 * 2 ^ k - 7)) + 1) + 2) + 1)) (n2 := (12 * 2 ^ k - 7)) bn535 (txt_len (by omega) (by omega) k y hy)
        refine k_V (x := 4) (y := 8947) (rest := []) 0 dX11_text_636 kv_X11_113 (cj_apX (L2 := txt k y) (z := zz536) hz537 bh534 (Nat.le_trans bn542 (by omega))) rfl rfl rfl rfl (Nat.le_of_ble_eq_true rfl) (by omega) (by decide) ?_
        rintro ⟨bv538, bm539, bf540⟩ bh541
        try dsimp only at bh541
        show R g mX11_text (k + 1 + 8) 4 8947 639 [(4, .ref q4), (3, .ref q3), (2, .ref q2), (1, .ref q1), (0, .ref a)] [.ref q22] ((q22, .inr (13, [.ref bv538, .int (0 : Int32), .int (0 : Int32), .int (nI ((((((([] : List Int32) ++ kT 55) ++ txt k x) ++ kT 54) ++ kT 57) ++ kT 55) ++ txt k y).length)])) :: ((bv538, yA g bm539 bf540) :: ((sw g (txt k y).length zz536) ++ t0))) _
        refine r_seg (ws2 := ((q22, .inr (13, [.ref bv538, .int (0 : Int32), .int (0 : Int32), .int (nI ((((((([] : List Int32) ++ kT 55) ++ txt k x) ++ kT 54) ++ kT 57) ++ kT 55) ++ txt k y).length)])) :: ((bv538, yA g bm539 bf540) :: t0))) [[(q22, .inr (13, [.ref bv538, .int (0 : Int32), .int (0 : Int32), .int (nI ((((((([] : List Int32) ++ kT 55) ++ txt k x) ++ kT 54) ++ kT 57) ++ kT 55) ++ txt k y).length)]))], [(bv538, yA g bm539 bf540)], sw g (txt k y).length zz536, t0] [0, 1, 3] rfl rfl rfl ?_
        refine r_ldcS (i := 54) dX11_text_639 rfl ?_
        have bn547 : (((((((([] : List Int32) ++ kT 55) ++ txt k x) ++ kT 54) ++ kT 57) ++ kT 55) ++ txt k y) ++ kT 54).length ≤ ((((((1 + (12 * 2 ^ k - 7)) + 1) + 2) + 1) + (12 * 2 ^ k - 7)) + 1) := lnA (L := ((((((([] : List Int32) ++ kT 55) ++ txt k x) ++ kT 54) ++ kT 57) ++ kT 55) ++ txt k y)) (L2 := kT 54) (n := (((((1 + (12 * 2 ^ k - 7)) + 1) + 2) + 1) + (12 * 2 ^ k - 7))) (n2 := 1) bn542 (by decide)
        refine k_V (x := 3) (y := 4945) (rest := []) 0 dX11_text_641 kv_X11_113 (cj_apK (i := 54) (by decide) bh541 (Nat.le_trans bn547 (by omega))) rfl rfl rfl rfl (Nat.le_of_ble_eq_true rfl) (by omega) (by decide) ?_
        rintro ⟨bv543, bm544, bf545⟩ bh546
        try dsimp only at bh546
        show R g mX11_text (k + 1 + 8) 3 4945 644 [(4, .ref q4), (3, .ref q3), (2, .ref q2), (1, .ref q1), (0, .ref a)] [.ref q22] ((q22, .inr (13, [.ref bv543, .int (0 : Int32), .int (0 : Int32), .int (nI (((((((([] : List Int32) ++ kT 55) ++ txt k x) ++ kT 54) ++ kT 57) ++ kT 55) ++ txt k y) ++ kT 54).length)])) :: ((bv543, yA g bm544 bf545) :: t0)) _
        refine k_V (x := 1) (y := 939) (rest := []) 0 dX11_text_644 kv_X11_120 (cj_strB bh546) rfl rfl rfl rfl (Nat.le_of_ble_eq_true rfl) (by omega) (by decide) ?_
        rintro ⟨ts548, tb549, tf550⟩ th551
        try dsimp only at th551
        show R g mX11_text (k + 1 + 8) 1 939 647 [(4, .ref q4), (3, .ref q3), (2, .ref q2), (1, .ref q1), (0, .ref a)] [.ref ts548] ((ts548, .inr (12, [.ref tb549, .int (0 : Int32), .int (0 : Int32), .int (0 : Int32)])) :: ((tb549, yA g (((((((([] : List Int32) ++ kT 55) ++ txt k x) ++ kT 54) ++ kT 57) ++ kT 55) ++ txt k y) ++ kT 54).length tf550) :: ((q22, .inr (13, [.ref bv543, .int (0 : Int32), .int (0 : Int32), .int (nI (((((((([] : List Int32) ++ kT 55) ++ txt k x) ++ kT 54) ++ kT 57) ++ kT 55) ++ txt k y) ++ kT 54).length)])) :: ((bv543, yA g bm544 bf545) :: t0)))) _
        rw [e0]
        refine r_seg (ws2 := ((ts548, .inr (12, [.ref tb549, .int (0 : Int32), .int (0 : Int32), .int (0 : Int32)])) :: ((tb549, yA g (((((((([] : List Int32) ++ kT 55) ++ txt k x) ++ kT 54) ++ kT 57) ++ kT 55) ++ txt k y) ++ kT 54).length tf550) :: t))) [[(ts548, .inr (12, [.ref tb549, .int (0 : Int32), .int (0 : Int32), .int (0 : Int32)]))], [(tb549, yA g (((((((([] : List Int32) ++ kT 55) ++ txt k x) ++ kT 54) ++ kT 57) ++ kT 55) ++ txt k y) ++ kT 54).length tf550)], [(q22, .inr (13, [.ref bv543, .int (0 : Int32), .int (0 : Int32), .int (nI (((((((([] : List Int32) ++ kT 55) ++ txt k x) ++ kT 54) ++ kT 57) ++ kT 55) ++ txt k y) ++ kT 54).length)]))], [(bv543, yA g bm544 bf545)], [(q4, qA g 7 4 (va_up (va_up (va_up (va_up (fun _ => none) 0 (some (gK g 43))) 1 (some (gK g 44))) 2 (some (gK g 45))) 3 (some (gK g 46))))], [(q3, qA g 7 5 (va_up (va_up (va_up (va_up (va_up (fun _ => none) 0 (some (gK g 38))) 1 (some (gK g 39))) 2 (some (gK g 40))) 3 (some (gK g 41))) 4 (some (gK g 42))))], [(q2, qA g 7 6 (va_up (va_up (va_up (va_up (va_up (va_up (fun _ => none) 0 (some (gK g 32))) 1 (some (gK g 33))) 2 (some (gK g 34))) 3 (some (gK g 35))) 4 (some (gK g 36))) 5 (some (gK g 37))))], [(q1, qA g 7 6 (va_up (va_up (va_up (va_up (va_up (va_up (fun _ => none) 0 (some (gK g iE))) 1 (some (gK g 27))) 2 (some (gK g 28))) 3 (some (gK g 29))) 4 (some (gK g 30))) 5 (some (gK g 31))))], t] [0, 1, 8] rfl rfl rfl ?_
        refine r_aret dX11_text_647 rfl rfl (Or.inr ⟨_, rfl⟩) ?_
        exact Dq.mk (Sum.inr (ts548, tb549, tf550)) rfl rfl th551
    · have hoK : (a, .inr (11, [.int (25 : Int32), .int (nI n), .int (nI o), (tv k ta), (tv k tb)])) ∈ t0 := mt _ ho
      have hE : txt (k + 1) ((a, 25, n, o), ta, tb) = (((((([] : List Int32) ++ kT 43) ++ dgL n) ++ kT 52) ++ dgL o) ++ kT 47) := rfl
      rw [hE]
      show R g mX11_text (k + 1 + 8) ((16 * 2 ^ k - 16) + (16 * 2 ^ k - 16) + 12) ((33000 * 2 ^ k - 33000) + (33000 * 2 ^ k - 33000) + 32979) 128 [(4, .ref q4), (3, .ref q3), (2, .ref q2), (1, .ref q1), (0, .ref a)] [] t0 _
      refine r_aload_n 4 dX11_text_128 rfl ?_
      refine r_getm (v := .int (25 : Int32)) (ci := 11) (fs := [.int (25 : Int32), .int (nI n), .int (nI o), (tv k ta), (tv k tb)]) dX11_text_129 fl_X11_7 hoK rfl ?_
      refine r_if_ne (tgt := 158) dX11_text_132 (by decide) (fun _ => ?_) (fun hc => absurd hc (by decide))
      refine r_aload_n 4 dX11_text_158 rfl ?_
      refine r_getm (v := .int (25 : Int32)) (ci := 11) (fs := [.int (25 : Int32), .int (nI n), .int (nI o), (tv k ta), (tv k tb)]) dX11_text_159 fl_X11_7 hoK rfl ?_
      refine r_iconst (v := (4 : Int32)) dX11_text_162 (by decide) ?_
      refine r_icmp_ge (tgt := 173) dX11_text_163 (by decide) (fun _ => ?_) (fun hc => absurd (by decide) hc)
      refine r_aload_n 4 dX11_text_173 rfl ?_
      refine r_getm (v := .int (25 : Int32)) (ci := 11) (fs := [.int (25 : Int32), .int (nI n), .int (nI o), (tv k ta), (tv k tb)]) dX11_text_174 fl_X11_7 hoK rfl ?_
      refine r_bipush (v := (6 : Int32)) dX11_text_177 (by decide) ?_
      refine r_icmp_ge (tgt := 214) dX11_text_179 (by decide) (fun _ => ?_) (fun hc => absurd (by decide) hc)
      refine r_aload_n 4 dX11_text_214 rfl ?_
      refine r_getm (v := .int (25 : Int32)) (ci := 11) (fs := [.int (25 : Int32), .int (nI n), .int (nI o), (tv k ta), (tv k tb)]) dX11_text_215 fl_X11_7 hoK rfl ?_
      refine r_bipush (v := (6 : Int32)) dX11_text_218 (by decide) ?_
      refine r_icmp_ne (tgt := 254) dX11_text_220 (by decide) (fun _ => ?_) (fun hc => absurd hc (by decide))
      refine r_aload_n 4 dX11_text_254 rfl ?_
      refine r_getm (v := .int (25 : Int32)) (ci := 11) (fs := [.int (25 : Int32), .int (nI n), .int (nI o), (tv k ta), (tv k tb)]) dX11_text_255 fl_X11_7 hoK rfl ?_
      refine r_bipush (v := (11 : Int32)) dX11_text_258 (by decide) ?_
      refine r_icmp_ge (tgt := 326) dX11_text_260 (by decide) (fun _ => ?_) (fun hc => absurd (by decide) hc)
      refine r_aload_n 4 dX11_text_326 rfl ?_
      refine r_getm (v := .int (25 : Int32)) (ci := 11) (fs := [.int (25 : Int32), .int (nI n), .int (nI o), (tv k ta), (tv k tb)]) dX11_text_327 fl_X11_7 hoK rfl ?_
      refine r_bipush (v := (13 : Int32)) dX11_text_330 (by decide) ?_
      refine r_icmp_ge (tgt := 388) dX11_text_332 (by decide) (fun _ => ?_) (fun hc => absurd (by decide) hc)
      refine r_aload_n 4 dX11_text_388 rfl ?_
      refine r_getm (v := .int (25 : Int32)) (ci := 11) (fs := [.int (25 : Int32), .int (nI n), .int (nI o), (tv k ta), (tv k tb)]) dX11_text_389 fl_X11_7 hoK rfl ?_
      refine r_bipush (v := (25 : Int32)) dX11_text_392 (by decide) ?_
      refine r_icmp_ge (tgt := 440) dX11_text_394 (by decide) (fun _ => ?_) (fun hc => absurd (by decide) hc)
      refine r_aload_n 4 dX11_text_440 rfl ?_
      refine r_getm (v := .int (25 : Int32)) (ci := 11) (fs := [.int (25 : Int32), .int (nI n), .int (nI o), (tv k ta), (tv k tb)]) dX11_text_441 fl_X11_7 hoK rfl ?_
      refine r_bipush (v := (25 : Int32)) dX11_text_444 (by decide) ?_
      refine r_icmp_ne (tgt := 491) dX11_text_446 (by decide) (fun hc => absurd (by decide) hc) (fun _ => ?_)
      refine r_new (N := 4) (x := ((16 * 2 ^ k - 16) + (16 * 2 ^ k - 16) + 11)) (y := ((33000 * 2 ^ k - 33000) + (33000 * 2 ^ k - 33000) + 32975)) dX11_text_449 nl_X11_110 (fun q23 => ?_)
      refine r_dup dX11_text_452 rfl ?_
      refine k_I (x := ((16 * 2 ^ k - 16) + (16 * 2 ^ k - 16) + 10)) (y := ((33000 * 2 ^ k - 33000) + (33000 * 2 ^ k - 33000) + 32959)) (rest := [.ref q23]) dX11_text_453 ki_X11_112 (cj_sb) rfl rfl (Nat.le_of_ble_eq_true rfl) (by omega) (by decide) ?_
      rintro bv552 -
      show R g mX11_text (k + 1 + 8) ((16 * 2 ^ k - 16) + (16 * 2 ^ k - 16) + 10) ((33000 * 2 ^ k - 33000) + (33000 * 2 ^ k - 33000) + 32959) 456 [(4, .ref q4), (3, .ref q3), (2, .ref q2), (1, .ref q1), (0, .ref a)] [.ref q23] ((q23, .inr (13, [.ref bv552, .int (0 : Int32), .int (0 : Int32), .int (nI ([] : List Int32).length)])) :: ((bv552, yA g 16 (fun _ => 0)) :: t0)) _
      refine r_aload 0 dX11_text_456 rfl ?_
      refine r_iconst (v := (0 : Int32)) dX11_text_458 (by decide) ?_
      refine r_aaldm (t := 7) (n := 4) (f := (va_up (va_up (va_up (va_up (fun _ => none) 0 (some (gK g 43))) 1 (some (gK g 44))) 2 (some (gK g 45))) 3 (some (gK g 46)))) (v := .ref (gK g 43)) dX11_text_459 rfl rfl (List.mem_cons_of_mem _ (List.mem_cons_of_mem _ m0)) (by decide) (by rfl) ?_
      have bn557 : (([] : List Int32) ++ kT 43).length ≤ 12 := lnA (L := ([] : List Int32)) (L2 := kT 43) (n := 0) (n2 := 12) (Nat.le_refl 0) (by decide)
      refine k_V (x := ((16 * 2 ^ k - 16) + (16 * 2 ^ k - 16) + 9)) (y := ((33000 * 2 ^ k - 33000) + (33000 * 2 ^ k - 33000) + 28957)) (rest := []) 0 dX11_text_460 kv_X11_113 (cj_apK (i := 43) (by decide) BL.nil (Nat.le_trans bn557 (by omega))) rfl rfl rfl rfl (Nat.le_of_ble_eq_true rfl) (by omega) (by decide) ?_
      rintro ⟨bv553, bm554, bf555⟩ bh556
      try dsimp only at bh556
      show R g mX11_text (k + 1 + 8) ((16 * 2 ^ k - 16) + (16 * 2 ^ k - 16) + 9) ((33000 * 2 ^ k - 33000) + (33000 * 2 ^ k - 33000) + 28957) 463 [(4, .ref q4), (3, .ref q3), (2, .ref q2), (1, .ref q1), (0, .ref a)] [.ref q23] ((q23, .inr (13, [.ref bv553, .int (0 : Int32), .int (0 : Int32), .int (nI (([] : List Int32) ++ kT 43).length)])) :: ((bv553, yA g bm554 bf555) :: t0)) _
      refine r_aload_n 4 dX11_text_463 rfl ?_
      refine r_getm (v := .int (nI n)) (ci := 11) (fs := [.int (25 : Int32), .int (nI n), .int (nI o), (tv k ta), (tv k tb)]) dX11_text_464 fl_X11_13 (List.mem_cons_of_mem _ (List.mem_cons_of_mem _ hoK)) rfl ?_
      have bn562 : ((([] : List Int32) ++ kT 43) ++ dgL n).length ≤ 13 := lnA (L := (([] : List Int32) ++ kT 43)) (L2 := dgL n) (n := 12) (n2 := 1) bn557 (dgL_t1 (v := n) (by omega))
      refine k_V (x := ((16 * 2 ^ k - 16) + (16 * 2 ^ k - 16) + 8)) (y := ((33000 * 2 ^ k - 33000) + (33000 * 2 ^ k - 33000) + 24955)) (rest := []) 0 dX11_text_467 kv_X11_117 (cj_apI (x9 := n) (by omega) bh556 (Nat.le_trans bn562 (by omega))) rfl rfl rfl rfl (Nat.le_of_ble_eq_true rfl) (by omega) (by decide) ?_
      rintro ⟨bv558, bm559, bf560⟩ bh561
      try dsimp only at bh561
      show R g mX11_text (k + 1 + 8) ((16 * 2 ^ k - 16) + (16 * 2 ^ k - 16) + 8) ((33000 * 2 ^ k - 33000) + (33000 * 2 ^ k - 33000) + 24955) 470 [(4, .ref q4), (3, .ref q3), (2, .ref q2), (1, .ref q1), (0, .ref a)] [.ref q23] ((q23, .inr (13, [.ref bv558, .int (0 : Int32), .int (0 : Int32), .int (nI ((([] : List Int32) ++ kT 43) ++ dgL n).length)])) :: ((bv558, yA g bm559 bf560) :: t0)) _
      refine r_ldcS (i := 52) dX11_text_470 rfl ?_
      have bn567 : (((([] : List Int32) ++ kT 43) ++ dgL n) ++ kT 52).length ≤ 15 := lnA (L := ((([] : List Int32) ++ kT 43) ++ dgL n)) (L2 := kT 52) (n := 13) (n2 := 2) bn562 (by decide)
      refine k_V (x := ((16 * 2 ^ k - 16) + (16 * 2 ^ k - 16) + 7)) (y := ((33000 * 2 ^ k - 33000) + (33000 * 2 ^ k - 33000) + 20953)) (rest := []) 0 dX11_text_472 kv_X11_113 (cj_apK (i := 52) (by decide) bh561 (Nat.le_trans bn567 (by omega))) rfl rfl rfl rfl (Nat.le_of_ble_eq_true rfl) (by omega) (by decide) ?_
      rintro ⟨bv563, bm564, bf565⟩ bh566
      try dsimp only at bh566
      show R g mX11_text (k + 1 + 8) ((16 * 2 ^ k - 16) + (16 * 2 ^ k - 16) + 7) ((33000 * 2 ^ k - 33000) + (33000 * 2 ^ k - 33000) + 20953) 475 [(4, .ref q4), (3, .ref q3), (2, .ref q2), (1, .ref q1), (0, .ref a)] [.ref q23] ((q23, .inr (13, [.ref bv563, .int (0 : Int32), .int (0 : Int32), .int (nI (((([] : List Int32) ++ kT 43) ++ dgL n) ++ kT 52).length)])) :: ((bv563, yA g bm564 bf565) :: t0)) _
      refine r_aload_n 4 dX11_text_475 rfl ?_
      refine r_getm (v := .int (nI o)) (ci := 11) (fs := [.int (25 : Int32), .int (nI n), .int (nI o), (tv k ta), (tv k tb)]) dX11_text_476 fl_X11_48 (List.mem_cons_of_mem _ (List.mem_cons_of_mem _ hoK)) rfl ?_
      have bn572 : ((((([] : List Int32) ++ kT 43) ++ dgL n) ++ kT 52) ++ dgL o).length ≤ 16 := lnA (L := (((([] : List Int32) ++ kT 43) ++ dgL n) ++ kT 52)) (L2 := dgL o) (n := 15) (n2 := 1) bn567 (dgL_t1 (v := o) (by omega))
      refine k_V (x := ((16 * 2 ^ k - 16) + (16 * 2 ^ k - 16) + 6)) (y := ((33000 * 2 ^ k - 33000) + (33000 * 2 ^ k - 33000) + 16951)) (rest := []) 0 dX11_text_479 kv_X11_117 (cj_apI (x9 := o) (by omega) bh566 (Nat.le_trans bn572 (by omega))) rfl rfl rfl rfl (Nat.le_of_ble_eq_true rfl) (by omega) (by decide) ?_
      rintro ⟨bv568, bm569, bf570⟩ bh571
      try dsimp only at bh571
      show R g mX11_text (k + 1 + 8) ((16 * 2 ^ k - 16) + (16 * 2 ^ k - 16) + 6) ((33000 * 2 ^ k - 33000) + (33000 * 2 ^ k - 33000) + 16951) 482 [(4, .ref q4), (3, .ref q3), (2, .ref q2), (1, .ref q1), (0, .ref a)] [.ref q23] ((q23, .inr (13, [.ref bv568, .int (0 : Int32), .int (0 : Int32), .int (nI ((((([] : List Int32) ++ kT 43) ++ dgL n) ++ kT 52) ++ dgL o).length)])) :: ((bv568, yA g bm569 bf570) :: t0)) _
      refine r_ldcS (i := 47) dX11_text_482 rfl ?_
      have bn577 : (((((([] : List Int32) ++ kT 43) ++ dgL n) ++ kT 52) ++ dgL o) ++ kT 47).length ≤ 17 := lnA (L := ((((([] : List Int32) ++ kT 43) ++ dgL n) ++ kT 52) ++ dgL o)) (L2 := kT 47) (n := 16) (n2 := 1) bn572 (by decide)
      refine k_V (x := ((16 * 2 ^ k - 16) + (16 * 2 ^ k - 16) + 5)) (y := ((33000 * 2 ^ k - 33000) + (33000 * 2 ^ k - 33000) + 12949)) (rest := []) 0 dX11_text_484 kv_X11_113 (cj_apK (i := 47) (by decide) bh571 (Nat.le_trans bn577 (by omega))) rfl rfl rfl rfl (Nat.le_of_ble_eq_true rfl) (by omega) (by decide) ?_
      rintro ⟨bv573, bm574, bf575⟩ bh576
      try dsimp only at bh576
      show R g mX11_text (k + 1 + 8) ((16 * 2 ^ k - 16) + (16 * 2 ^ k - 16) + 5) ((33000 * 2 ^ k - 33000) + (33000 * 2 ^ k - 33000) + 12949) 487 [(4, .ref q4), (3, .ref q3), (2, .ref q2), (1, .ref q1), (0, .ref a)] [.ref q23] ((q23, .inr (13, [.ref bv573, .int (0 : Int32), .int (0 : Int32), .int (nI (((((([] : List Int32) ++ kT 43) ++ dgL n) ++ kT 52) ++ dgL o) ++ kT 47).length)])) :: ((bv573, yA g bm574 bf575) :: t0)) _
      refine k_V (x := ((16 * 2 ^ k - 16) + (16 * 2 ^ k - 16) + 3)) (y := ((33000 * 2 ^ k - 33000) + (33000 * 2 ^ k - 33000) + 8943)) (rest := []) 0 dX11_text_487 kv_X11_120 (cj_strB bh576) rfl rfl rfl rfl (Nat.le_of_ble_eq_true rfl) (by omega) (by decide) ?_
      rintro ⟨ts578, tb579, tf580⟩ th581
      try dsimp only at th581
      show R g mX11_text (k + 1 + 8) ((16 * 2 ^ k - 16) + (16 * 2 ^ k - 16) + 3) ((33000 * 2 ^ k - 33000) + (33000 * 2 ^ k - 33000) + 8943) 490 [(4, .ref q4), (3, .ref q3), (2, .ref q2), (1, .ref q1), (0, .ref a)] [.ref ts578] ((ts578, .inr (12, [.ref tb579, .int (0 : Int32), .int (0 : Int32), .int (0 : Int32)])) :: ((tb579, yA g (((((([] : List Int32) ++ kT 43) ++ dgL n) ++ kT 52) ++ dgL o) ++ kT 47).length tf580) :: ((q23, .inr (13, [.ref bv573, .int (0 : Int32), .int (0 : Int32), .int (nI (((((([] : List Int32) ++ kT 43) ++ dgL n) ++ kT 52) ++ dgL o) ++ kT 47).length)])) :: ((bv573, yA g bm574 bf575) :: t0)))) _
      rw [e0]
      refine r_seg (ws2 := ((ts578, .inr (12, [.ref tb579, .int (0 : Int32), .int (0 : Int32), .int (0 : Int32)])) :: ((tb579, yA g (((((([] : List Int32) ++ kT 43) ++ dgL n) ++ kT 52) ++ dgL o) ++ kT 47).length tf580) :: t))) [[(ts578, .inr (12, [.ref tb579, .int (0 : Int32), .int (0 : Int32), .int (0 : Int32)]))], [(tb579, yA g (((((([] : List Int32) ++ kT 43) ++ dgL n) ++ kT 52) ++ dgL o) ++ kT 47).length tf580)], [(q23, .inr (13, [.ref bv573, .int (0 : Int32), .int (0 : Int32), .int (nI (((((([] : List Int32) ++ kT 43) ++ dgL n) ++ kT 52) ++ dgL o) ++ kT 47).length)]))], [(bv573, yA g bm574 bf575)], [(q4, qA g 7 4 (va_up (va_up (va_up (va_up (fun _ => none) 0 (some (gK g 43))) 1 (some (gK g 44))) 2 (some (gK g 45))) 3 (some (gK g 46))))], [(q3, qA g 7 5 (va_up (va_up (va_up (va_up (va_up (fun _ => none) 0 (some (gK g 38))) 1 (some (gK g 39))) 2 (some (gK g 40))) 3 (some (gK g 41))) 4 (some (gK g 42))))], [(q2, qA g 7 6 (va_up (va_up (va_up (va_up (va_up (va_up (fun _ => none) 0 (some (gK g 32))) 1 (some (gK g 33))) 2 (some (gK g 34))) 3 (some (gK g 35))) 4 (some (gK g 36))) 5 (some (gK g 37))))], [(q1, qA g 7 6 (va_up (va_up (va_up (va_up (va_up (va_up (fun _ => none) 0 (some (gK g iE))) 1 (some (gK g 27))) 2 (some (gK g 28))) 3 (some (gK g 29))) 4 (some (gK g 30))) 5 (some (gK g 31))))], t] [0, 1, 8] rfl rfl rfl ?_
      refine r_aret dX11_text_490 rfl rfl (Or.inr ⟨_, rfl⟩) ?_
      exact Dq.mk (Sum.inr (ts578, tb579, tf580)) rfl rfl th581
    · have hoK : (a, .inr (11, [.int (26 : Int32), .int (nI n), .int (nI o), (tv k ta), (tv k tb)])) ∈ t0 := mt _ ho
      have hE : txt (k + 1) ((a, 26, n, o), ta, tb) = (((([] : List Int32) ++ kT 44) ++ dgL n) ++ kT 47) := rfl
      rw [hE]
      show R g mX11_text (k + 1 + 8) ((16 * 2 ^ k - 16) + (16 * 2 ^ k - 16) + 12) ((33000 * 2 ^ k - 33000) + (33000 * 2 ^ k - 33000) + 32979) 128 [(4, .ref q4), (3, .ref q3), (2, .ref q2), (1, .ref q1), (0, .ref a)] [] t0 _
      refine r_aload_n 4 dX11_text_128 rfl ?_
      refine r_getm (v := .int (26 : Int32)) (ci := 11) (fs := [.int (26 : Int32), .int (nI n), .int (nI o), (tv k ta), (tv k tb)]) dX11_text_129 fl_X11_7 hoK rfl ?_
      refine r_if_ne (tgt := 158) dX11_text_132 (by decide) (fun _ => ?_) (fun hc => absurd hc (by decide))
      refine r_aload_n 4 dX11_text_158 rfl ?_
      refine r_getm (v := .int (26 : Int32)) (ci := 11) (fs := [.int (26 : Int32), .int (nI n), .int (nI o), (tv k ta), (tv k tb)]) dX11_text_159 fl_X11_7 hoK rfl ?_
      refine r_iconst (v := (4 : Int32)) dX11_text_162 (by decide) ?_
      refine r_icmp_ge (tgt := 173) dX11_text_163 (by decide) (fun _ => ?_) (fun hc => absurd (by decide) hc)
      refine r_aload_n 4 dX11_text_173 rfl ?_
      refine r_getm (v := .int (26 : Int32)) (ci := 11) (fs := [.int (26 : Int32), .int (nI n), .int (nI o), (tv k ta), (tv k tb)]) dX11_text_174 fl_X11_7 hoK rfl ?_
      refine r_bipush (v := (6 : Int32)) dX11_text_177 (by decide) ?_
      refine r_icmp_ge (tgt := 214) dX11_text_179 (by decide) (fun _ => ?_) (fun hc => absurd (by decide) hc)
      refine r_aload_n 4 dX11_text_214 rfl ?_
      refine r_getm (v := .int (26 : Int32)) (ci := 11) (fs := [.int (26 : Int32), .int (nI n), .int (nI o), (tv k ta), (tv k tb)]) dX11_text_215 fl_X11_7 hoK rfl ?_
      refine r_bipush (v := (6 : Int32)) dX11_text_218 (by decide) ?_
      refine r_icmp_ne (tgt := 254) dX11_text_220 (by decide) (fun _ => ?_) (fun hc => absurd hc (by decide))
      refine r_aload_n 4 dX11_text_254 rfl ?_
      refine r_getm (v := .int (26 : Int32)) (ci := 11) (fs := [.int (26 : Int32), .int (nI n), .int (nI o), (tv k ta), (tv k tb)]) dX11_text_255 fl_X11_7 hoK rfl ?_
      refine r_bipush (v := (11 : Int32)) dX11_text_258 (by decide) ?_
      refine r_icmp_ge (tgt := 326) dX11_text_260 (by decide) (fun _ => ?_) (fun hc => absurd (by decide) hc)
      refine r_aload_n 4 dX11_text_326 rfl ?_
      refine r_getm (v := .int (26 : Int32)) (ci := 11) (fs := [.int (26 : Int32), .int (nI n), .int (nI o), (tv k ta), (tv k tb)]) dX11_text_327 fl_X11_7 hoK rfl ?_
      refine r_bipush (v := (13 : Int32)) dX11_text_330 (by decide) ?_
      refine r_icmp_ge (tgt := 388) dX11_text_332 (by decide) (fun _ => ?_) (fun hc => absurd (by decide) hc)
      refine r_aload_n 4 dX11_text_388 rfl ?_
      refine r_getm (v := .int (26 : Int32)) (ci := 11) (fs := [.int (26 : Int32), .int (nI n), .int (nI o), (tv k ta), (tv k tb)]) dX11_text_389 fl_X11_7 hoK rfl ?_
      refine r_bipush (v := (25 : Int32)) dX11_text_392 (by decide) ?_
      refine r_icmp_ge (tgt := 440) dX11_text_394 (by decide) (fun _ => ?_) (fun hc => absurd (by decide) hc)
      refine r_aload_n 4 dX11_text_440 rfl ?_
      refine r_getm (v := .int (26 : Int32)) (ci := 11) (fs := [.int (26 : Int32), .int (nI n), .int (nI o), (tv k ta), (tv k tb)]) dX11_text_441 fl_X11_7 hoK rfl ?_
      refine r_bipush (v := (25 : Int32)) dX11_text_444 (by decide) ?_
      refine r_icmp_ne (tgt := 491) dX11_text_446 (by decide) (fun _ => ?_) (fun hc => absurd hc (by decide))
      refine r_aload_n 4 dX11_text_491 rfl ?_
      refine r_getm (v := .int (26 : Int32)) (ci := 11) (fs := [.int (26 : Int32), .int (nI n), .int (nI o), (tv k ta), (tv k tb)]) dX11_text_492 fl_X11_7 hoK rfl ?_
      refine r_bipush (v := (29 : Int32)) dX11_text_495 (by decide) ?_
      refine r_icmp_ge (tgt := 536) dX11_text_497 (by decide) (fun hc => absurd hc (by decide)) (fun _ => ?_)
      refine r_new (N := 4) (x := ((16 * 2 ^ k - 16) + (16 * 2 ^ k - 16) + 11)) (y := ((33000 * 2 ^ k - 33000) + (33000 * 2 ^ k - 33000) + 32975)) dX11_text_500 nl_X11_110 (fun q24 => ?_)
      refine r_dup dX11_text_503 rfl ?_
      refine k_I (x := ((16 * 2 ^ k - 16) + (16 * 2 ^ k - 16) + 10)) (y := ((33000 * 2 ^ k - 33000) + (33000 * 2 ^ k - 33000) + 32959)) (rest := [.ref q24]) dX11_text_504 ki_X11_112 (cj_sb) rfl rfl (Nat.le_of_ble_eq_true rfl) (by omega) (by decide) ?_
      rintro bv582 -
      show R g mX11_text (k + 1 + 8) ((16 * 2 ^ k - 16) + (16 * 2 ^ k - 16) + 10) ((33000 * 2 ^ k - 33000) + (33000 * 2 ^ k - 33000) + 32959) 507 [(4, .ref q4), (3, .ref q3), (2, .ref q2), (1, .ref q1), (0, .ref a)] [.ref q24] ((q24, .inr (13, [.ref bv582, .int (0 : Int32), .int (0 : Int32), .int (nI ([] : List Int32).length)])) :: ((bv582, yA g 16 (fun _ => 0)) :: t0)) _
      refine r_aload 0 dX11_text_507 rfl ?_
      refine r_aload_n 4 dX11_text_509 rfl ?_
      refine r_getm (v := .int (26 : Int32)) (ci := 11) (fs := [.int (26 : Int32), .int (nI n), .int (nI o), (tv k ta), (tv k tb)]) dX11_text_510 fl_X11_7 (List.mem_cons_of_mem _ (List.mem_cons_of_mem _ hoK)) rfl ?_
      refine r_bipush (v := (25 : Int32)) dX11_text_513 (by decide) ?_
      refine r_isub dX11_text_515 ?_
      refine r_aaldm (t := 7) (n := 4) (f := (va_up (va_up (va_up (va_up (fun _ => none) 0 (some (gK g 43))) 1 (some (gK g 44))) 2 (some (gK g 45))) 3 (some (gK g 46)))) (v := .ref (gK g 44)) dX11_text_516 rfl rfl (List.mem_cons_of_mem _ (List.mem_cons_of_mem _ m0)) (by decide) (by rfl) ?_
      have bn587 : (([] : List Int32) ++ kT 44).length ≤ 6 := lnA (L := ([] : List Int32)) (L2 := kT 44) (n := 0) (n2 := 6) (Nat.le_refl 0) (by decide)
      refine k_V (x := ((16 * 2 ^ k - 16) + (16 * 2 ^ k - 16) + 9)) (y := ((33000 * 2 ^ k - 33000) + (33000 * 2 ^ k - 33000) + 28957)) (rest := []) 0 dX11_text_517 kv_X11_113 (cj_apK (i := 44) (by decide) BL.nil (Nat.le_trans bn587 (by omega))) rfl rfl rfl rfl (Nat.le_of_ble_eq_true rfl) (by omega) (by decide) ?_
      rintro ⟨bv583, bm584, bf585⟩ bh586
      try dsimp only at bh586
      show R g mX11_text (k + 1 + 8) ((16 * 2 ^ k - 16) + (16 * 2 ^ k - 16) + 9) ((33000 * 2 ^ k - 33000) + (33000 * 2 ^ k - 33000) + 28957) 520 [(4, .ref q4), (3, .ref q3), (2, .ref q2), (1, .ref q1), (0, .ref a)] [.ref q24] ((q24, .inr (13, [.ref bv583, .int (0 : Int32), .int (0 : Int32), .int (nI (([] : List Int32) ++ kT 44).length)])) :: ((bv583, yA g bm584 bf585) :: t0)) _
      refine r_aload_n 4 dX11_text_520 rfl ?_
      refine r_getm (v := .int (nI n)) (ci := 11) (fs := [.int (26 : Int32), .int (nI n), .int (nI o), (tv k ta), (tv k tb)]) dX11_text_521 fl_X11_13 (List.mem_cons_of_mem _ (List.mem_cons_of_mem _ hoK)) rfl ?_
      have bn592 : ((([] : List Int32) ++ kT 44) ++ dgL n).length ≤ 7 := lnA (L := (([] : List Int32) ++ kT 44)) (L2 := dgL n) (n := 6) (n2 := 1) bn587 (dgL_t1 (v := n) (by omega))
      refine k_V (x := ((16 * 2 ^ k - 16) + (16 * 2 ^ k - 16) + 8)) (y := ((33000 * 2 ^ k - 33000) + (33000 * 2 ^ k - 33000) + 24955)) (rest := []) 0 dX11_text_524 kv_X11_117 (cj_apI (x9 := n) (by omega) bh586 (Nat.le_trans bn592 (by omega))) rfl rfl rfl rfl (Nat.le_of_ble_eq_true rfl) (by omega) (by decide) ?_
      rintro ⟨bv588, bm589, bf590⟩ bh591
      try dsimp only at bh591
      show R g mX11_text (k + 1 + 8) ((16 * 2 ^ k - 16) + (16 * 2 ^ k - 16) + 8) ((33000 * 2 ^ k - 33000) + (33000 * 2 ^ k - 33000) + 24955) 527 [(4, .ref q4), (3, .ref q3), (2, .ref q2), (1, .ref q1), (0, .ref a)] [.ref q24] ((q24, .inr (13, [.ref bv588, .int (0 : Int32), .int (0 : Int32), .int (nI ((([] : List Int32) ++ kT 44) ++ dgL n).length)])) :: ((bv588, yA g bm589 bf590) :: t0)) _
      refine r_ldcS (i := 47) dX11_text_527 rfl ?_
      have bn597 : (((([] : List Int32) ++ kT 44) ++ dgL n) ++ kT 47).length ≤ 8 := lnA (L := ((([] : List Int32) ++ kT 44) ++ dgL n)) (L2 := kT 47) (n := 7) (n2 := 1) bn592 (by decide)
      refine k_V (x := ((16 * 2 ^ k - 16) + (16 * 2 ^ k - 16) + 7)) (y := ((33000 * 2 ^ k - 33000) + (33000 * 2 ^ k - 33000) + 20953)) (rest := []) 0 dX11_text_529 kv_X11_113 (cj_apK (i := 47) (by decide) bh591 (Nat.le_trans bn597 (by omega))) rfl rfl rfl rfl (Nat.le_of_ble_eq_true rfl) (by omega) (by decide) ?_
      rintro ⟨bv593, bm594, bf595⟩ bh596
      try dsimp only at bh596
      show R g mX11_text (k + 1 + 8) ((16 * 2 ^ k - 16) + (16 * 2 ^ k - 16) + 7) ((33000 * 2 ^ k - 33000) + (33000 * 2 ^ k - 33000) + 20953) 532 [(4, .ref q4), (3, .ref q3), (2, .ref q2), (1, .ref q1), (0, .ref a)] [.ref q24] ((q24, .inr (13, [.ref bv593, .int (0 : Int32), .int (0 : Int32), .int (nI (((([] : List Int32) ++ kT 44) ++ dgL n) ++ kT 47).length)])) :: ((bv593, yA g bm594 bf595) :: t0)) _
      refine k_V (x := ((16 * 2 ^ k - 16) + (16 * 2 ^ k - 16) + 5)) (y := ((33000 * 2 ^ k - 33000) + (33000 * 2 ^ k - 33000) + 16947)) (rest := []) 0 dX11_text_532 kv_X11_120 (cj_strB bh596) rfl rfl rfl rfl (Nat.le_of_ble_eq_true rfl) (by omega) (by decide) ?_
      rintro ⟨ts598, tb599, tf600⟩ th601
      try dsimp only at th601
      show R g mX11_text (k + 1 + 8) ((16 * 2 ^ k - 16) + (16 * 2 ^ k - 16) + 5) ((33000 * 2 ^ k - 33000) + (33000 * 2 ^ k - 33000) + 16947) 535 [(4, .ref q4), (3, .ref q3), (2, .ref q2), (1, .ref q1), (0, .ref a)] [.ref ts598] ((ts598, .inr (12, [.ref tb599, .int (0 : Int32), .int (0 : Int32), .int (0 : Int32)])) :: ((tb599, yA g (((([] : List Int32) ++ kT 44) ++ dgL n) ++ kT 47).length tf600) :: ((q24, .inr (13, [.ref bv593, .int (0 : Int32), .int (0 : Int32), .int (nI (((([] : List Int32) ++ kT 44) ++ dgL n) ++ kT 47).length)])) :: ((bv593, yA g bm594 bf595) :: t0)))) _
      rw [e0]
      refine r_seg (ws2 := ((ts598, .inr (12, [.ref tb599, .int (0 : Int32), .int (0 : Int32), .int (0 : Int32)])) :: ((tb599, yA g (((([] : List Int32) ++ kT 44) ++ dgL n) ++ kT 47).length tf600) :: t))) [[(ts598, .inr (12, [.ref tb599, .int (0 : Int32), .int (0 : Int32), .int (0 : Int32)]))], [(tb599, yA g (((([] : List Int32) ++ kT 44) ++ dgL n) ++ kT 47).length tf600)], [(q24, .inr (13, [.ref bv593, .int (0 : Int32), .int (0 : Int32), .int (nI (((([] : List Int32) ++ kT 44) ++ dgL n) ++ kT 47).length)]))], [(bv593, yA g bm594 bf595)], [(q4, qA g 7 4 (va_up (va_up (va_up (va_up (fun _ => none) 0 (some (gK g 43))) 1 (some (gK g 44))) 2 (some (gK g 45))) 3 (some (gK g 46))))], [(q3, qA g 7 5 (va_up (va_up (va_up (va_up (va_up (fun _ => none) 0 (some (gK g 38))) 1 (some (gK g 39))) 2 (some (gK g 40))) 3 (some (gK g 41))) 4 (some (gK g 42))))], [(q2, qA g 7 6 (va_up (va_up (va_up (va_up (va_up (va_up (fun _ => none) 0 (some (gK g 32))) 1 (some (gK g 33))) 2 (some (gK g 34))) 3 (some (gK g 35))) 4 (some (gK g 36))) 5 (some (gK g 37))))], [(q1, qA g 7 6 (va_up (va_up (va_up (va_up (va_up (va_up (fun _ => none) 0 (some (gK g iE))) 1 (some (gK g 27))) 2 (some (gK g 28))) 3 (some (gK g 29))) 4 (some (gK g 30))) 5 (some (gK g 31))))], t] [0, 1, 8] rfl rfl rfl ?_
      refine r_aret dX11_text_535 rfl rfl (Or.inr ⟨_, rfl⟩) ?_
      exact Dq.mk (Sum.inr (ts598, tb599, tf600)) rfl rfl th601
    · have hoK : (a, .inr (11, [.int (27 : Int32), .int (nI n), .int (nI o), (tv k ta), (tv k tb)])) ∈ t0 := mt _ ho
      have hE : txt (k + 1) ((a, 27, n, o), ta, tb) = (((([] : List Int32) ++ kT 45) ++ dgL n) ++ kT 47) := rfl
      rw [hE]
      show R g mX11_text (k + 1 + 8) ((16 * 2 ^ k - 16) + (16 * 2 ^ k - 16) + 12) ((33000 * 2 ^ k - 33000) + (33000 * 2 ^ k - 33000) + 32979) 128 [(4, .ref q4), (3, .ref q3), (2, .ref q2), (1, .ref q1), (0, .ref a)] [] t0 _
      refine r_aload_n 4 dX11_text_128 rfl ?_
      refine r_getm (v := .int (27 : Int32)) (ci := 11) (fs := [.int (27 : Int32), .int (nI n), .int (nI o), (tv k ta), (tv k tb)]) dX11_text_129 fl_X11_7 hoK rfl ?_
      refine r_if_ne (tgt := 158) dX11_text_132 (by decide) (fun _ => ?_) (fun hc => absurd hc (by decide))
      refine r_aload_n 4 dX11_text_158 rfl ?_
      refine r_getm (v := .int (27 : Int32)) (ci := 11) (fs := [.int (27 : Int32), .int (nI n), .int (nI o), (tv k ta), (tv k tb)]) dX11_text_159 fl_X11_7 hoK rfl ?_
      refine r_iconst (v := (4 : Int32)) dX11_text_162 (by decide) ?_
      refine r_icmp_ge (tgt := 173) dX11_text_163 (by decide) (fun _ => ?_) (fun hc => absurd (by decide) hc)
      refine r_aload_n 4 dX11_text_173 rfl ?_
      refine r_getm (v := .int (27 : Int32)) (ci := 11) (fs := [.int (27 : Int32), .int (nI n), .int (nI o), (tv k ta), (tv k tb)]) dX11_text_174 fl_X11_7 hoK rfl ?_
      refine r_bipush (v := (6 : Int32)) dX11_text_177 (by decide) ?_
      refine r_icmp_ge (tgt := 214) dX11_text_179 (by decide) (fun _ => ?_) (fun hc => absurd (by decide) hc)
      refine r_aload_n 4 dX11_text_214 rfl ?_
      refine r_getm (v := .int (27 : Int32)) (ci := 11) (fs := [.int (27 : Int32), .int (nI n), .int (nI o), (tv k ta), (tv k tb)]) dX11_text_215 fl_X11_7 hoK rfl ?_
      refine r_bipush (v := (6 : Int32)) dX11_text_218 (by decide) ?_
      refine r_icmp_ne (tgt := 254) dX11_text_220 (by decide) (fun _ => ?_) (fun hc => absurd hc (by decide))
      refine r_aload_n 4 dX11_text_254 rfl ?_
      refine r_getm (v := .int (27 : Int32)) (ci := 11) (fs := [.int (27 : Int32), .int (nI n), .int (nI o), (tv k ta), (tv k tb)]) dX11_text_255 fl_X11_7 hoK rfl ?_
      refine r_bipush (v := (11 : Int32)) dX11_text_258 (by decide) ?_
      refine r_icmp_ge (tgt := 326) dX11_text_260 (by decide) (fun _ => ?_) (fun hc => absurd (by decide) hc)
      refine r_aload_n 4 dX11_text_326 rfl ?_
      refine r_getm (v := .int (27 : Int32)) (ci := 11) (fs := [.int (27 : Int32), .int (nI n), .int (nI o), (tv k ta), (tv k tb)]) dX11_text_327 fl_X11_7 hoK rfl ?_
      refine r_bipush (v := (13 : Int32)) dX11_text_330 (by decide) ?_
      refine r_icmp_ge (tgt := 388) dX11_text_332 (by decide) (fun _ => ?_) (fun hc => absurd (by decide) hc)
      refine r_aload_n 4 dX11_text_388 rfl ?_
      refine r_getm (v := .int (27 : Int32)) (ci := 11) (fs := [.int (27 : Int32), .int (nI n), .int (nI o), (tv k ta), (tv k tb)]) dX11_text_389 fl_X11_7 hoK rfl ?_
      refine r_bipush (v := (25 : Int32)) dX11_text_392 (by decide) ?_
      refine r_icmp_ge (tgt := 440) dX11_text_394 (by decide) (fun _ => ?_) (fun hc => absurd (by decide) hc)
      refine r_aload_n 4 dX11_text_440 rfl ?_
      refine r_getm (v := .int (27 : Int32)) (ci := 11) (fs := [.int (27 : Int32), .int (nI n), .int (nI o), (tv k ta), (tv k tb)]) dX11_text_441 fl_X11_7 hoK rfl ?_
      refine r_bipush (v := (25 : Int32)) dX11_text_444 (by decide) ?_
      refine r_icmp_ne (tgt := 491) dX11_text_446 (by decide) (fun _ => ?_) (fun hc => absurd hc (by decide))
      refine r_aload_n 4 dX11_text_491 rfl ?_
      refine r_getm (v := .int (27 : Int32)) (ci := 11) (fs := [.int (27 : Int32), .int (nI n), .int (nI o), (tv k ta), (tv k tb)]) dX11_text_492 fl_X11_7 hoK rfl ?_
      refine r_bipush (v := (29 : Int32)) dX11_text_495 (by decide) ?_
      refine r_icmp_ge (tgt := 536) dX11_text_497 (by decide) (fun hc => absurd hc (by decide)) (fun _ => ?_)
      refine r_new (N := 4) (x := ((16 * 2 ^ k - 16) + (16 * 2 ^ k - 16) + 11)) (y := ((33000 * 2 ^ k - 33000) + (33000 * 2 ^ k - 33000) + 32975)) dX11_text_500 nl_X11_110 (fun q25 => ?_)
      refine r_dup dX11_text_503 rfl ?_
      refine k_I (x := ((16 * 2 ^ k - 16) + (16 * 2 ^ k - 16) + 10)) (y := ((33000 * 2 ^ k - 33000) + (33000 * 2 ^ k - 33000) + 32959)) (rest := [.ref q25]) dX11_text_504 ki_X11_112 (cj_sb) rfl rfl (Nat.le_of_ble_eq_true rfl) (by omega) (by decide) ?_
      rintro bv602 -
      show R g mX11_text (k + 1 + 8) ((16 * 2 ^ k - 16) + (16 * 2 ^ k - 16) + 10) ((33000 * 2 ^ k - 33000) + (33000 * 2 ^ k - 33000) + 32959) 507 [(4, .ref q4), (3, .ref q3), (2, .ref q2), (1, .ref q1), (0, .ref a)] [.ref q25] ((q25, .inr (13, [.ref bv602, .int (0 : Int32), .int (0 : Int32), .int (nI ([] : List Int32).length)])) :: ((bv602, yA g 16 (fun _ => 0)) :: t0)) _
      refine r_aload 0 dX11_text_507 rfl ?_
      refine r_aload_n 4 dX11_text_509 rfl ?_
      refine r_getm (v := .int (27 : Int32)) (ci := 11) (fs := [.int (27 : Int32), .int (nI n), .int (nI o), (tv k ta), (tv k tb)]) dX11_text_510 fl_X11_7 (List.mem_cons_of_mem _ (List.mem_cons_of_mem _ hoK)) rfl ?_
      refine r_bipush (v := (25 : Int32)) dX11_text_513 (by decide) ?_
      refine r_isub dX11_text_515 ?_
      refine r_aaldm (t := 7) (n := 4) (f := (va_up (va_up (va_up (va_up (fun _ => none) 0 (some (gK g 43))) 1 (some (gK g 44))) 2 (some (gK g 45))) 3 (some (gK g 46)))) (v := .ref (gK g 45)) dX11_text_516 rfl rfl (List.mem_cons_of_mem _ (List.mem_cons_of_mem _ m0)) (by decide) (by rfl) ?_
      have bn607 : (([] : List Int32) ++ kT 45).length ≤ 9 := lnA (L := ([] : List Int32)) (L2 := kT 45) (n := 0) (n2 := 9) (Nat.le_refl 0) (by decide)
      refine k_V (x := ((16 * 2 ^ k - 16) + (16 * 2 ^ k - 16) + 9)) (y := ((33000 * 2 ^ k - 33000) + (33000 * 2 ^ k - 33000) + 28957)) (rest := []) 0 dX11_text_517 kv_X11_113 (cj_apK (i := 45) (by decide) BL.nil (Nat.le_trans bn607 (by omega))) rfl rfl rfl rfl (Nat.le_of_ble_eq_true rfl) (by omega) (by decide) ?_
      rintro ⟨bv603, bm604, bf605⟩ bh606
      try dsimp only at bh606
      show R g mX11_text (k + 1 + 8) ((16 * 2 ^ k - 16) + (16 * 2 ^ k - 16) + 9) ((33000 * 2 ^ k - 33000) + (33000 * 2 ^ k - 33000) + 28957) 520 [(4, .ref q4), (3, .ref q3), (2, .ref q2), (1, .ref q1), (0, .ref a)] [.ref q25] ((q25, .inr (13, [.ref bv603, .int (0 : Int32), .int (0 : Int32), .int (nI (([] : List Int32) ++ kT 45).length)])) :: ((bv603, yA g bm604 bf605) :: t0)) _
      refine r_aload_n 4 dX11_text_520 rfl ?_
      refine r_getm (v := .int (nI n)) (ci := 11) (fs := [.int (27 : Int32), .int (nI n), .int (nI o), (tv k ta), (tv k tb)]) dX11_text_521 fl_X11_13 (List.mem_cons_of_mem _ (List.mem_cons_of_mem _ hoK)) rfl ?_
      have bn612 : ((([] : List Int32) ++ kT 45) ++ dgL n).length ≤ 10 := lnA (L := (([] : List Int32) ++ kT 45)) (L2 := dgL n) (n := 9) (n2 := 1) bn607 (dgL_t1 (v := n) (by omega))
      refine k_V (x := ((16 * 2 ^ k - 16) + (16 * 2 ^ k - 16) + 8)) (y := ((33000 * 2 ^ k - 33000) + (33000 * 2 ^ k - 33000) + 24955)) (rest := []) 0 dX11_text_524 kv_X11_117 (cj_apI (x9 := n) (by omega) bh606 (Nat.le_trans bn612 (by omega))) rfl rfl rfl rfl (Nat.le_of_ble_eq_true rfl) (by omega) (by decide) ?_
      rintro ⟨bv608, bm609, bf610⟩ bh611
      try dsimp only at bh611
      show R g mX11_text (k + 1 + 8) ((16 * 2 ^ k - 16) + (16 * 2 ^ k - 16) + 8) ((33000 * 2 ^ k - 33000) + (33000 * 2 ^ k - 33000) + 24955) 527 [(4, .ref q4), (3, .ref q3), (2, .ref q2), (1, .ref q1), (0, .ref a)] [.ref q25] ((q25, .inr (13, [.ref bv608, .int (0 : Int32), .int (0 : Int32), .int (nI ((([] : List Int32) ++ kT 45) ++ dgL n).length)])) :: ((bv608, yA g bm609 bf610) :: t0)) _
      refine r_ldcS (i := 47) dX11_text_527 rfl ?_
      have bn617 : (((([] : List Int32) ++ kT 45) ++ dgL n) ++ kT 47).length ≤ 11 := lnA (L := ((([] : List Int32) ++ kT 45) ++ dgL n)) (L2 := kT 47) (n := 10) (n2 := 1) bn612 (by decide)
      refine k_V (x := ((16 * 2 ^ k - 16) + (16 * 2 ^ k - 16) + 7)) (y := ((33000 * 2 ^ k - 33000) + (33000 * 2 ^ k - 33000) + 20953)) (rest := []) 0 dX11_text_529 kv_X11_113 (cj_apK (i := 47) (by decide) bh611 (Nat.le_trans bn617 (by omega))) rfl rfl rfl rfl (Nat.le_of_ble_eq_true rfl) (by omega) (by decide) ?_
      rintro ⟨bv613, bm614, bf615⟩ bh616
      try dsimp only at bh616
      show R g mX11_text (k + 1 + 8) ((16 * 2 ^ k - 16) + (16 * 2 ^ k - 16) + 7) ((33000 * 2 ^ k - 33000) + (33000 * 2 ^ k - 33000) + 20953) 532 [(4, .ref q4), (3, .ref q3), (2, .ref q2), (1, .ref q1), (0, .ref a)] [.ref q25] ((q25, .inr (13, [.ref bv613, .int (0 : Int32), .int (0 : Int32), .int (nI (((([] : List Int32) ++ kT 45) ++ dgL n) ++ kT 47).length)])) :: ((bv613, yA g bm614 bf615) :: t0)) _
      refine k_V (x := ((16 * 2 ^ k - 16) + (16 * 2 ^ k - 16) + 5)) (y := ((33000 * 2 ^ k - 33000) + (33000 * 2 ^ k - 33000) + 16947)) (rest := []) 0 dX11_text_532 kv_X11_120 (cj_strB bh616) rfl rfl rfl rfl (Nat.le_of_ble_eq_true rfl) (by omega) (by decide) ?_
      rintro ⟨ts618, tb619, tf620⟩ th621
      try dsimp only at th621
      show R g mX11_text (k + 1 + 8) ((16 * 2 ^ k - 16) + (16 * 2 ^ k - 16) + 5) ((33000 * 2 ^ k - 33000) + (33000 * 2 ^ k - 33000) + 16947) 535 [(4, .ref q4), (3, .ref q3), (2, .ref q2), (1, .ref q1), (0, .ref a)] [.ref ts618] ((ts618, .inr (12, [.ref tb619, .int (0 : Int32), .int (0 : Int32), .int (0 : Int32)])) :: ((tb619, yA g (((([] : List Int32) ++ kT 45) ++ dgL n) ++ kT 47).length tf620) :: ((q25, .inr (13, [.ref bv613, .int (0 : Int32), .int (0 : Int32), .int (nI (((([] : List Int32) ++ kT 45) ++ dgL n) ++ kT 47).length)])) :: ((bv613, yA g bm614 bf615) :: t0)))) _
      rw [e0]
      refine r_seg (ws2 := ((ts618, .inr (12, [.ref tb619, .int (0 : Int32), .int (0 : Int32), .int (0 : Int32)])) :: ((tb619, yA g (((([] : List Int32) ++ kT 45) ++ dgL n) ++ kT 47).length tf620) :: t))) [[(ts618, .inr (12, [.ref tb619, .int (0 : Int32), .int (0 : Int32), .int (0 : Int32)]))], [(tb619, yA g (((([] : List Int32) ++ kT 45) ++ dgL n) ++ kT 47).length tf620)], [(q25, .inr (13, [.ref bv613, .int (0 : Int32), .int (0 : Int32), .int (nI (((([] : List Int32) ++ kT 45) ++ dgL n) ++ kT 47).length)]))], [(bv613, yA g bm614 bf615)], [(q4, qA g 7 4 (va_up (va_up (va_up (va_up (fun _ => none) 0 (some (gK g 43))) 1 (some (gK g 44))) 2 (some (gK g 45))) 3 (some (gK g 46))))], [(q3, qA g 7 5 (va_up (va_up (va_up (va_up (va_up (fun _ => none) 0 (some (gK g 38))) 1 (some (gK g 39))) 2 (some (gK g 40))) 3 (some (gK g 41))) 4 (some (gK g 42))))], [(q2, qA g 7 6 (va_up (va_up (va_up (va_up (va_up (va_up (fun _ => none) 0 (some (gK g 32))) 1 (some (gK g 33))) 2 (some (gK g 34))) 3 (some (gK g 35))) 4 (some (gK g 36))) 5 (some (gK g 37))))], [(q1, qA g 7 6 (va_up (va_up (va_up (va_up (va_up (va_up (fun _ => none) 0 (some (gK g iE))) 1 (some (gK g 27))) 2 (some (gK g 28))) 3 (some (gK g 29))) 4 (some (gK g 30))) 5 (some (gK g 31))))], t] [0, 1, 8] rfl rfl rfl ?_
      refine r_aret dX11_text_535 rfl rfl (Or.inr ⟨_, rfl⟩) ?_
      exact Dq.mk (Sum.inr (ts618, tb619, tf620)) rfl rfl th621
    · have hoK : (a, .inr (11, [.int (28 : Int32), .int (nI n), .int (nI o), (tv k ta), (tv k tb)])) ∈ t0 := mt _ ho
      have hE : txt (k + 1) ((a, 28, n, o), ta, tb) = (((([] : List Int32) ++ kT 46) ++ dgL n) ++ kT 47) := rfl
      rw [hE]
      show R g mX11_text (k + 1 + 8) ((16 * 2 ^ k - 16) + (16 * 2 ^ k - 16) + 12) ((33000 * 2 ^ k - 33000) + (33000 * 2 ^ k - 33000) + 32979) 128 [(4, .ref q4), (3, .ref q3), (2, .ref q2), (1, .ref q1), (0, .ref a)] [] t0 _
      refine r_aload_n 4 dX11_text_128 rfl ?_
      refine r_getm (v := .int (28 : Int32)) (ci := 11) (fs := [.int (28 : Int32), .int (nI n), .int (nI o), (tv k ta), (tv k tb)]) dX11_text_129 fl_X11_7 hoK rfl ?_
      refine r_if_ne (tgt := 158) dX11_text_132 (by decide) (fun _ => ?_) (fun hc => absurd hc (by decide))
      refine r_aload_n 4 dX11_text_158 rfl ?_
      refine r_getm (v := .int (28 : Int32)) (ci := 11) (fs := [.int (28 : Int32), .int (nI n), .int (nI o), (tv k ta), (tv k tb)]) dX11_text_159 fl_X11_7 hoK rfl ?_
      refine r_iconst (v := (4 : Int32)) dX11_text_162 (by decide) ?_
      refine r_icmp_ge (tgt := 173) dX11_text_163 (by decide) (fun _ => ?_) (fun hc => absurd (by decide) hc)
      refine r_aload_n 4 dX11_text_173 rfl ?_
      refine r_getm (v := .int (28 : Int32)) (ci := 11) (fs := [.int (28 : Int32), .int (nI n), .int (nI o), (tv k ta), (tv k tb)]) dX11_text_174 fl_X11_7 hoK rfl ?_
      refine r_bipush (v := (6 : Int32)) dX11_text_177 (by decide) ?_
      refine r_icmp_ge (tgt := 214) dX11_text_179 (by decide) (fun _ => ?_) (fun hc => absurd (by decide) hc)
      refine r_aload_n 4 dX11_text_214 rfl ?_
      refine r_getm (v := .int (28 : Int32)) (ci := 11) (fs := [.int (28 : Int32), .int (nI n), .int (nI o), (tv k ta), (tv k tb)]) dX11_text_215 fl_X11_7 hoK rfl ?_
      refine r_bipush (v := (6 : Int32)) dX11_text_218 (by decide) ?_
      refine r_icmp_ne (tgt := 254) dX11_text_220 (by decide) (fun _ => ?_) (fun hc => absurd hc (by decide))
      refine r_aload_n 4 dX11_text_254 rfl ?_
      refine r_getm (v := .int (28 : Int32)) (ci := 11) (fs := [.int (28 : Int32), .int (nI n), .int (nI o), (tv k ta), (tv k tb)]) dX11_text_255 fl_X11_7 hoK rfl ?_
      refine r_bipush (v := (11 : Int32)) dX11_text_258 (by decide) ?_
      refine r_icmp_ge (tgt := 326) dX11_text_260 (by decide) (fun _ => ?_) (fun hc => absurd (by decide) hc)
      refine r_aload_n 4 dX11_text_326 rfl ?_
      refine r_getm (v := .int (28 : Int32)) (ci := 11) (fs := [.int (28 : Int32), .int (nI n), .int (nI o), (tv k ta), (tv k tb)]) dX11_text_327 fl_X11_7 hoK rfl ?_
      refine r_bipush (v := (13 : Int32)) dX11_text_330 (by decide) ?_
      refine r_icmp_ge (tgt := 388) dX11_text_332 (by decide) (fun _ => ?_) (fun hc => absurd (by decide) hc)
      refine r_aload_n 4 dX11_text_388 rfl ?_
      refine r_getm (v := .int (28 : Int32)) (ci := 11) (fs := [.int (28 : Int32), .int (nI n), .int (nI o), (tv k ta), (tv k tb)]) dX11_text_389 fl_X11_7 hoK rfl ?_
      refine r_bipush (v := (25 : Int32)) dX11_text_392 (by decide) ?_
      refine r_icmp_ge (tgt := 440) dX11_text_394 (by decide) (fun _ => ?_) (fun hc => absurd (by decide) hc)
      refine r_aload_n 4 dX11_text_440 rfl ?_
      refine r_getm (v := .int (28 : Int32)) (ci := 11) (fs := [.int (28 : Int32), .int (nI n), .int (nI o), (tv k ta), (tv k tb)]) dX11_text_441 fl_X11_7 hoK rfl ?_
      refine r_bipush (v := (25 : Int32)) dX11_text_444 (by decide) ?_
      refine r_icmp_ne (tgt := 491) dX11_text_446 (by decide) (fun _ => ?_) (fun hc => absurd hc (by decide))
      refine r_aload_n 4 dX11_text_491 rfl ?_
      refine r_getm (v := .int (28 : Int32)) (ci := 11) (fs := [.int (28 : Int32), .int (nI n), .int (nI o), (tv k ta), (tv k tb)]) dX11_text_492 fl_X11_7 hoK rfl ?_
      refine r_bipush (v := (29 : Int32)) dX11_text_495 (by decide) ?_
      refine r_icmp_ge (tgt := 536) dX11_text_497 (by decide) (fun hc => absurd hc (by decide)) (fun _ => ?_)
      refine r_new (N := 4) (x := ((16 * 2 ^ k - 16) + (16 * 2 ^ k - 16) + 11)) (y := ((33000 * 2 ^ k - 33000) + (33000 * 2 ^ k - 33000) + 32975)) dX11_text_500 nl_X11_110 (fun q26 => ?_)
      refine r_dup dX11_text_503 rfl ?_
      refine k_I (x := ((16 * 2 ^ k - 16) + (16 * 2 ^ k - 16) + 10)) (y := ((33000 * 2 ^ k - 33000) + (33000 * 2 ^ k - 33000) + 32959)) (rest := [.ref q26]) dX11_text_504 ki_X11_112 (cj_sb) rfl rfl (Nat.le_of_ble_eq_true rfl) (by omega) (by decide) ?_
      rintro bv622 -
      show R g mX11_text (k + 1 + 8) ((16 * 2 ^ k - 16) + (16 * 2 ^ k - 16) + 10) ((33000 * 2 ^ k - 33000) + (33000 * 2 ^ k - 33000) + 32959) 507 [(4, .ref q4), (3, .ref q3), (2, .ref q2), (1, .ref q1), (0, .ref a)] [.ref q26] ((q26, .inr (13, [.ref bv622, .int (0 : Int32), .int (0 : Int32), .int (nI ([] : List Int32).length)])) :: ((bv622, yA g 16 (fun _ => 0)) :: t0)) _
      refine r_aload 0 dX11_text_507 rfl ?_
      refine r_aload_n 4 dX11_text_509 rfl ?_
      refine r_getm (v := .int (28 : Int32)) (ci := 11) (fs := [.int (28 : Int32), .int (nI n), .int (nI o), (tv k ta), (tv k tb)]) dX11_text_510 fl_X11_7 (List.mem_cons_of_mem _ (List.mem_cons_of_mem _ hoK)) rfl ?_
      refine r_bipush (v := (25 : Int32)) dX11_text_513 (by decide) ?_
      refine r_isub dX11_text_515 ?_
      refine r_aaldm (t := 7) (n := 4) (f := (va_up (va_up (va_up (va_up (fun _ => none) 0 (some (gK g 43))) 1 (some (gK g 44))) 2 (some (gK g 45))) 3 (some (gK g 46)))) (v := .ref (gK g 46)) dX11_text_516 rfl rfl (List.mem_cons_of_mem _ (List.mem_cons_of_mem _ m0)) (by decide) (by rfl) ?_
      have bn627 : (([] : List Int32) ++ kT 46).length ≤ 8 := lnA (L := ([] : List Int32)) (L2 := kT 46) (n := 0) (n2 := 8) (Nat.le_refl 0) (by decide)
      refine k_V (x := ((16 * 2 ^ k - 16) + (16 * 2 ^ k - 16) + 9)) (y := ((33000 * 2 ^ k - 33000) + (33000 * 2 ^ k - 33000) + 28957)) (rest := []) 0 dX11_text_517 kv_X11_113 (cj_apK (i := 46) (by decide) BL.nil (Nat.le_trans bn627 (by omega))) rfl rfl rfl rfl (Nat.le_of_ble_eq_true rfl) (by omega) (by decide) ?_
      rintro ⟨bv623, bm624, bf625⟩ bh626
      try dsimp only at bh626
      show R g mX11_text (k + 1 + 8) ((16 * 2 ^ k - 16) + (16 * 2 ^ k - 16) + 9) ((33000 * 2 ^ k - 33000) + (33000 * 2 ^ k - 33000) + 28957) 520 [(4, .ref q4), (3, .ref q3), (2, .ref q2), (1, .ref q1), (0, .ref a)] [.ref q26] ((q26, .inr (13, [.ref bv623, .int (0 : Int32), .int (0 : Int32), .int (nI (([] : List Int32) ++ kT 46).length)])) :: ((bv623, yA g bm624 bf625) :: t0)) _
      refine r_aload_n 4 dX11_text_520 rfl ?_
      refine r_getm (v := .int (nI n)) (ci := 11) (fs := [.int (28 : Int32), .int (nI n), .int (nI o), (tv k ta), (tv k tb)]) dX11_text_521 fl_X11_13 (List.mem_cons_of_mem _ (List.mem_cons_of_mem _ hoK)) rfl ?_
      have bn632 : ((([] : List Int32) ++ kT 46) ++ dgL n).length ≤ 9 := lnA (L := (([] : List Int32) ++ kT 46)) (L2 := dgL n) (n := 8) (n2 := 1) bn627 (dgL_t1 (v := n) (by omega))
      refine k_V (x := ((16 * 2 ^ k - 16) + (16 * 2 ^ k - 16) + 8)) (y := ((33000 * 2 ^ k - 33000) + (33000 * 2 ^ k - 33000) + 24955)) (rest := []) 0 dX11_text_524 kv_X11_117 (cj_apI (x9 := n) (by omega) bh626 (Nat.le_trans bn632 (by omega))) rfl rfl rfl rfl (Nat.le_of_ble_eq_true rfl) (by omega) (by decide) ?_
      rintro ⟨bv628, bm629, bf630⟩ bh631
      try dsimp only at bh631
      show R g mX11_text (k + 1 + 8) ((16 * 2 ^ k - 16) + (16 * 2 ^ k - 16) + 8) ((33000 * 2 ^ k - 33000) + (33000 * 2 ^ k - 33000) + 24955) 527 [(4, .ref q4), (3, .ref q3), (2, .ref q2), (1, .ref q1), (0, .ref a)] [.ref q26] ((q26, .inr (13, [.ref bv628, .int (0 : Int32), .int (0 : Int32), .int (nI ((([] : List Int32) ++ kT 46) ++ dgL n).length)])) :: ((bv628, yA g bm629 bf630) :: t0)) _
      refine r_ldcS (i := 47) dX11_text_527 rfl ?_
      have bn637 : (((([] : List Int32) ++ kT 46) ++ dgL n) ++ kT 47).length ≤ 10 := lnA (L := ((([] : List Int32) ++ kT 46) ++ dgL n)) (L2 := kT 47) (n := 9) (n2 := 1) bn632 (by decide)
      refine k_V (x := ((16 * 2 ^ k - 16) + (16 * 2 ^ k - 16) + 7)) (y := ((33000 * 2 ^ k - 33000) + (33000 * 2 ^ k - 33000) + 20953)) (rest := []) 0 dX11_text_529 kv_X11_113 (cj_apK (i := 47) (by decide) bh631 (Nat.le_trans bn637 (by omega))) rfl rfl rfl rfl (Nat.le_of_ble_eq_true rfl) (by omega) (by decide) ?_
      rintro ⟨bv633, bm634, bf635⟩ bh636
      try dsimp only at bh636
      show R g mX11_text (k + 1 + 8) ((16 * 2 ^ k - 16) + (16 * 2 ^ k - 16) + 7) ((33000 * 2 ^ k - 33000) + (33000 * 2 ^ k - 33000) + 20953) 532 [(4, .ref q4), (3, .ref q3), (2, .ref q2), (1, .ref q1), (0, .ref a)] [.ref q26] ((q26, .inr (13, [.ref bv633, .int (0 : Int32), .int (0 : Int32), .int (nI (((([] : List Int32) ++ kT 46) ++ dgL n) ++ kT 47).length)])) :: ((bv633, yA g bm634 bf635) :: t0)) _
      refine k_V (x := ((16 * 2 ^ k - 16) + (16 * 2 ^ k - 16) + 5)) (y := ((33000 * 2 ^ k - 33000) + (33000 * 2 ^ k - 33000) + 16947)) (rest := []) 0 dX11_text_532 kv_X11_120 (cj_strB bh636) rfl rfl rfl rfl (Nat.le_of_ble_eq_true rfl) (by omega) (by decide) ?_
      rintro ⟨ts638, tb639, tf640⟩ th641
      try dsimp only at th641
      show R g mX11_text (k + 1 + 8) ((16 * 2 ^ k - 16) + (16 * 2 ^ k - 16) + 5) ((33000 * 2 ^ k - 33000) + (33000 * 2 ^ k - 33000) + 16947) 535 [(4, .ref q4), (3, .ref q3), (2, .ref q2), (1, .ref q1), (0, .ref a)] [.ref ts638] ((ts638, .inr (12, [.ref tb639, .int (0 : Int32), .int (0 : Int32), .int (0 : Int32)])) :: ((tb639, yA g (((([] : List Int32) ++ kT 46) ++ dgL n) ++ kT 47).length tf640) :: ((q26, .inr (13, [.ref bv633, .int (0 : Int32), .int (0 : Int32), .int (nI (((([] : List Int32) ++ kT 46) ++ dgL n) ++ kT 47).length)])) :: ((bv633, yA g bm634 bf635) :: t0)))) _
      rw [e0]
      refine r_seg (ws2 := ((ts638, .inr (12, [.ref tb639, .int (0 : Int32), .int (0 : Int32), .int (0 : Int32)])) :: ((tb639, yA g (((([] : List Int32) ++ kT 46) ++ dgL n) ++ kT 47).length tf640) :: t))) [[(ts638, .inr (12, [.ref tb639, .int (0 : Int32), .int (0 : Int32), .int (0 : Int32)]))], [(tb639, yA g (((([] : List Int32) ++ kT 46) ++ dgL n) ++ kT 47).length tf640)], [(q26, .inr (13, [.ref bv633, .int (0 : Int32), .int (0 : Int32), .int (nI (((([] : List Int32) ++ kT 46) ++ dgL n) ++ kT 47).length)]))], [(bv633, yA g bm634 bf635)], [(q4, qA g 7 4 (va_up (va_up (va_up (va_up (fun _ => none) 0 (some (gK g 43))) 1 (some (gK g 44))) 2 (some (gK g 45))) 3 (some (gK g 46))))], [(q3, qA g 7 5 (va_up (va_up (va_up (va_up (va_up (fun _ => none) 0 (some (gK g 38))) 1 (some (gK g 39))) 2 (some (gK g 40))) 3 (some (gK g 41))) 4 (some (gK g 42))))], [(q2, qA g 7 6 (va_up (va_up (va_up (va_up (va_up (va_up (fun _ => none) 0 (some (gK g 32))) 1 (some (gK g 33))) 2 (some (gK g 34))) 3 (some (gK g 35))) 4 (some (gK g 36))) 5 (some (gK g 37))))], [(q1, qA g 7 6 (va_up (va_up (va_up (va_up (va_up (va_up (fun _ => none) 0 (some (gK g iE))) 1 (some (gK g 27))) 2 (some (gK g 28))) 3 (some (gK g 29))) 4 (some (gK g 30))) 5 (some (gK g 31))))], t] [0, 1, 8] rfl rfl rfl ?_
      refine r_aret dX11_text_535 rfl rfl (Or.inr ⟨_, rfl⟩) ?_
      exact Dq.mk (Sum.inr (ts638, tb639, tf640)) rfl rfl th641
