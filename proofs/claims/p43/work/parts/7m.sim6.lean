theorem txt_len {ne nt : Nat} (hne : ne ≤ 10) (hnt : nt ≤ 10) : ∀ k T, (TE ne nt k T ∨ TB ne nt k T) → (txt k T).length ≤ 12 * 2 ^ k - 7
  | 0, T, _ => nomatch T
  | k + 1, ((a, kd, n, o), ta, tb), hk => by
    have hp : 2 ^ (k + 1) = 2 ^ k + 2 ^ k := by rw [Nat.pow_succ]; omega
    have hp1 : 0 < 2 ^ k := Nat.two_pow_pos k
    have kids := tr_kids hk
    rcases kids with ⟨rfl, hb⟩ | rfl | rfl | rfl | ⟨rfl, hb⟩ | ⟨rfl, hb⟩ | ⟨hk1, x, rfl, hx⟩ | ⟨hk2, x, y, rfl, rfl, hx, hy⟩ | ⟨rfl, hb, hb2⟩ | ⟨rfl, hb⟩ | ⟨rfl, hb⟩ | ⟨rfl, hb⟩
    · exact Nat.le_trans (show ((([] : List Int32) ++ kT 20) ++ dgL n).length ≤ _ from (lnA (lnA (Nat.le_refl 0) (Nat.le_of_eq kl_20)) (dgL_6 hb))) (by omega)
    · exact Nat.le_trans (Nat.le_of_eq kl_27) (by omega)
    · exact Nat.le_trans (Nat.le_of_eq kl_28) (by omega)
    · exact Nat.le_trans (Nat.le_of_eq kl_29) (by omega)
    · exact Nat.le_trans (show (((([] : List Int32) ++ kT 30) ++ dgL n) ++ kT 47).length ≤ _ from (lnA (lnA (lnA (Nat.le_refl 0) (Nat.le_of_eq kl_30)) (dgL_t1 (v := n) (by omega))) (Nat.le_of_eq kl_47))) (by omega)
    · exact Nat.le_trans (show (((([] : List Int32) ++ kT 31) ++ dgL n) ++ kT 47).length ≤ _ from (lnA (lnA (lnA (Nat.le_refl 0) (Nat.le_of_eq kl_31)) (dgL_t1 (v := n) (by omega))) (Nat.le_of_eq kl_47))) (by omega)
    · rcases hk1 with rfl | rfl
      · exact Nat.le_trans (show (((([] : List Int32) ++ kT 48) ++ (txt k x)) ++ kT 49).length ≤ _ from (lnA (lnA (lnA (Nat.le_refl 0) (Nat.le_of_eq kl_48)) (txt_len hne hnt k x hx)) (Nat.le_of_eq kl_49))) (by omega)
      · exact Nat.le_trans (show (((([] : List Int32) ++ kT 53) ++ (txt k x)) ++ kT 54).length ≤ _ from (lnA (lnA (lnA (Nat.le_refl 0) (Nat.le_of_eq kl_53)) (txt_len hne hnt k x hx)) (Nat.le_of_eq kl_54))) (by omega)
    · rcases hk2 with rfl | rfl | rfl | rfl | rfl | rfl | rfl | rfl | rfl | rfl | rfl | rfl | rfl
      · exact Nat.le_trans (show (((((((([] : List Int32) ++ kT 50) ++ (txt k x)) ++ kT 49) ++ kT 32) ++ kT 50) ++ (txt k y)) ++ kT 49).length ≤ _ from (lnA (lnA (lnA (lnA (lnA (lnA (lnA (Nat.le_refl 0) (Nat.le_of_eq kl_50)) (txt_len hne hnt k x hx)) (Nat.le_of_eq kl_49)) (Nat.le_of_eq kl_32)) (Nat.le_of_eq kl_50)) (txt_len hne hnt k y hy)) (Nat.le_of_eq kl_49))) (by omega)
      · exact Nat.le_trans (show (((((((([] : List Int32) ++ kT 50) ++ (txt k x)) ++ kT 49) ++ kT 33) ++ kT 50) ++ (txt k y)) ++ kT 49).length ≤ _ from (lnA (lnA (lnA (lnA (lnA (lnA (lnA (Nat.le_refl 0) (Nat.le_of_eq kl_50)) (txt_len hne hnt k x hx)) (Nat.le_of_eq kl_49)) (Nat.le_of_eq kl_33)) (Nat.le_of_eq kl_50)) (txt_len hne hnt k y hy)) (Nat.le_of_eq kl_49))) (by omega)
      · exact Nat.le_trans (show (((((((([] : List Int32) ++ kT 50) ++ (txt k x)) ++ kT 49) ++ kT 34) ++ kT 50) ++ (txt k y)) ++ kT 49).length ≤ _ from (lnA (lnA (lnA (lnA (lnA (lnA (lnA (Nat.le_refl 0) (Nat.le_of_eq kl_50)) (txt_len hne hnt k x hx)) (Nat.le_of_eq kl_49)) (Nat.le_of_eq kl_34)) (Nat.le_of_eq kl_50)) (txt_len hne hnt k y hy)) (Nat.le_of_eq kl_49))) (by omega)
      · exact Nat.le_trans (show (((((((([] : List Int32) ++ kT 50) ++ (txt k x)) ++ kT 49) ++ kT 35) ++ kT 50) ++ (txt k y)) ++ kT 49).length ≤ _ from (lnA (lnA (lnA (lnA (lnA (lnA (lnA (Nat.le_refl 0) (Nat.le_of_eq kl_50)) (txt_len hne hnt k x hx)) (Nat.le_of_eq kl_49)) (Nat.le_of_eq kl_35)) (Nat.le_of_eq kl_50)) (txt_len hne hnt k y hy)) (Nat.le_of_eq kl_49))) (by omega)
      · exact Nat.le_trans (show (((((([] : List Int32) ++ kT 36) ++ (txt k x)) ++ kT 51) ++ (txt k y)) ++ kT 49).length ≤ _ from (lnA (lnA (lnA (lnA (lnA (Nat.le_refl 0) (Nat.le_of_eq kl_36)) (txt_len hne hnt k x hx)) (Nat.le_of_eq kl_51)) (txt_len hne hnt k y hy)) (Nat.le_of_eq kl_49))) (by omega)
      · exact Nat.le_trans (show (((((([] : List Int32) ++ kT 37) ++ (txt k x)) ++ kT 51) ++ (txt k y)) ++ kT 49).length ≤ _ from (lnA (lnA (lnA (lnA (lnA (Nat.le_refl 0) (Nat.le_of_eq kl_37)) (txt_len hne hnt k x hx)) (Nat.le_of_eq kl_51)) (txt_len hne hnt k y hy)) (Nat.le_of_eq kl_49))) (by omega)
      · exact Nat.le_trans (show (((([] : List Int32) ++ (txt k x)) ++ kT 38) ++ (txt k y)).length ≤ _ from (lnA (lnA (lnA (Nat.le_refl 0) (txt_len hne hnt k x hx)) (Nat.le_of_eq kl_38)) (txt_len hne hnt k y hy))) (by omega)
      · exact Nat.le_trans (show (((([] : List Int32) ++ (txt k x)) ++ kT 39) ++ (txt k y)).length ≤ _ from (lnA (lnA (lnA (Nat.le_refl 0) (txt_len hne hnt k x hx)) (Nat.le_of_eq kl_39)) (txt_len hne hnt k y hy))) (by omega)
      · exact Nat.le_trans (show (((([] : List Int32) ++ (txt k x)) ++ kT 40) ++ (txt k y)).length ≤ _ from (lnA (lnA (lnA (Nat.le_refl 0) (txt_len hne hnt k x hx)) (Nat.le_of_eq kl_40)) (txt_len hne hnt k y hy))) (by omega)
      · exact Nat.le_trans (show (((([] : List Int32) ++ (txt k x)) ++ kT 41) ++ (txt k y)).length ≤ _ from (lnA (lnA (lnA (Nat.le_refl 0) (txt_len hne hnt k x hx)) (Nat.le_of_eq kl_41)) (txt_len hne hnt k y hy))) (by omega)
      · exact Nat.le_trans (show (((([] : List Int32) ++ (txt k x)) ++ kT 42) ++ (txt k y)).length ≤ _ from (lnA (lnA (lnA (Nat.le_refl 0) (txt_len hne hnt k x hx)) (Nat.le_of_eq kl_42)) (txt_len hne hnt k y hy))) (by omega)
      · exact Nat.le_trans (show (((((((([] : List Int32) ++ kT 55) ++ (txt k x)) ++ kT 54) ++ kT 56) ++ kT 55) ++ (txt k y)) ++ kT 54).length ≤ _ from (lnA (lnA (lnA (lnA (lnA (lnA (lnA (Nat.le_refl 0) (Nat.le_of_eq kl_55)) (txt_len hne hnt k x hx)) (Nat.le_of_eq kl_54)) (Nat.le_of_eq kl_56)) (Nat.le_of_eq kl_55)) (txt_len hne hnt k y hy)) (Nat.le_of_eq kl_54))) (by omega)
      · exact Nat.le_trans (show (((((((([] : List Int32) ++ kT 55) ++ (txt k x)) ++ kT 54) ++ kT 57) ++ kT 55) ++ (txt k y)) ++ kT 54).length ≤ _ from (lnA (lnA (lnA (lnA (lnA (lnA (lnA (Nat.le_refl 0) (Nat.le_of_eq kl_55)) (txt_len hne hnt k x hx)) (Nat.le_of_eq kl_54)) (Nat.le_of_eq kl_57)) (Nat.le_of_eq kl_55)) (txt_len hne hnt k y hy)) (Nat.le_of_eq kl_54))) (by omega)
    · exact Nat.le_trans (show (((((([] : List Int32) ++ kT 43) ++ dgL n) ++ kT 52) ++ dgL o) ++ kT 47).length ≤ _ from (lnA (lnA (lnA (lnA (lnA (Nat.le_refl 0) (Nat.le_of_eq kl_43)) (dgL_t1 (v := n) (by omega))) (Nat.le_of_eq kl_52)) (dgL_t1 (v := o) (by omega))) (Nat.le_of_eq kl_47))) (by omega)
    · exact Nat.le_trans (show (((([] : List Int32) ++ kT 44) ++ dgL n) ++ kT 47).length ≤ _ from (lnA (lnA (lnA (Nat.le_refl 0) (Nat.le_of_eq kl_44)) (dgL_t1 (v := n) (by omega))) (Nat.le_of_eq kl_47))) (by omega)
    · exact Nat.le_trans (show (((([] : List Int32) ++ kT 45) ++ dgL n) ++ kT 47).length ≤ _ from (lnA (lnA (lnA (Nat.le_refl 0) (Nat.le_of_eq kl_45)) (dgL_t1 (v := n) (by omega))) (Nat.le_of_eq kl_47))) (by omega)
    · exact Nat.le_trans (show (((([] : List Int32) ++ kT 46) ++ dgL n) ++ kT 47).length ≤ _ from (lnA (lnA (lnA (Nat.le_refl 0) (Nat.le_of_eq kl_46)) (dgL_t1 (v := n) (by omega))) (Nat.le_of_eq kl_47))) (by omega)
def TextH (g : GG) (ne nt k : Nat) : Prop := ∀ (T : TT k) (t : va_W), TM g t k T → (TE ne nt k T ∨ TB ne nt k T) → Ct g mX11_text (k + 8) (16 * 2 ^ k - 16) (33000 * 2 ^ k - 33000) [.ref (tA k T)] t (Dq (fun (z : SZ) => some (sv g z)) (fun z => sw g (txt k T).length z ++ t) (fun z => sP (txt k T) z))
set_option maxRecDepth 20000 in
set_option maxHeartbeats 8000000 in
theorem tx_11 {g : GG} {ne nt k a n o u1 u2 u3 u4 : Nat} {t t0 : va_W} {x y : TT k} (IH : TextH g ne nt k) (e0 : t0 = ((u4, qA g 7 4 (va_up (va_up (va_up (va_up (fun _ => none) 0 (some (gK g 43))) 1 (some (gK g 44))) 2 (some (gK g 45))) 3 (some (gK g 46)))) :: ((u3, qA g 7 5 (va_up (va_up (va_up (va_up (va_up (fun _ => none) 0 (some (gK g 38))) 1 (some (gK g 39))) 2 (some (gK g 40))) 3 (some (gK g 41))) 4 (some (gK g 42)))) :: ((u2, qA g 7 6 (va_up (va_up (va_up (va_up (va_up (va_up (fun _ => none) 0 (some (gK g 32))) 1 (some (gK g 33))) 2 (some (gK g 34))) 3 (some (gK g 35))) 4 (some (gK g 36))) 5 (some (gK g 37)))) :: ((u1, qA g 7 6 (va_up (va_up (va_up (va_up (va_up (va_up (fun _ => none) 0 (some (gK g iE))) 1 (some (gK g 27))) 2 (some (gK g 28))) 3 (some (gK g 29))) 4 (some (gK g 30))) 5 (some (gK g 31)))) :: t))))) (hk5 : k ≤ 5) (hn : nt ≤ 10) (hne : ne ≤ 10) (ho : (a, .inr (11, [.int (11 : Int32), .int (nI n), .int (nI o), .ref (tA k x), .ref (tA k y)])) ∈ t) (hmx : TM g t k x) (hx : TE ne nt k x ∨ TB ne nt k x) (hmy : TM g t k y) (hy : TE ne nt k y ∨ TB ne nt k y) : R g mX11_text (k + 1 + 8) ((16 * 2 ^ k - 16) + (16 * 2 ^ k - 16) + 12) ((33000 * 2 ^ k - 33000) + (33000 * 2 ^ k - 33000) + 32900) 128 [(4, .ref u4), (3, .ref u3), (2, .ref u2), (1, .ref u1), (0, .ref a)] [] t0 (Dq (fun (z : SZ) => some (sv g z)) (fun z => sw g (((((([] : List Int32) ++ kT 36) ++ (txt k x)) ++ kT 51) ++ (txt k y)) ++ kT 49).length z ++ t) (fun z => sP (((((([] : List Int32) ++ kT 36) ++ (txt k x)) ++ kT 51) ++ (txt k y)) ++ kT 49) z)) := by
  have hd3 : 3 + 1 ≤ k + 1 + 8 := by omega
  have hd6 : 6 + 1 ≤ k + 1 + 8 := by omega
  have hd7 : 7 + 1 ≤ k + 1 + 8 := by omega
  have hp5 : 2 ^ k ≤ 32 := Nat.le_trans (Nat.pow_le_pow_right (by decide) hk5) (by decide)
  have hlk : 12 * 2 ^ k - 7 ≤ 377 := by omega
  have lx := Nat.le_trans (txt_len hne hn k x hx) hlk
  have ly := Nat.le_trans (txt_len hne hn k y hy) hlk
  have m0 : (u4, qA g 7 4 (va_up (va_up (va_up (va_up (fun _ => none) 0 (some (gK g 43))) 1 (some (gK g 44))) 2 (some (gK g 45))) 3 (some (gK g 46)))) ∈ t0 := by rw [e0]; exact List.mem_cons_self
  have m1 : (u3, qA g 7 5 (va_up (va_up (va_up (va_up (va_up (fun _ => none) 0 (some (gK g 38))) 1 (some (gK g 39))) 2 (some (gK g 40))) 3 (some (gK g 41))) 4 (some (gK g 42)))) ∈ t0 := by rw [e0]; exact (List.mem_cons_of_mem _ List.mem_cons_self)
  have m2 : (u2, qA g 7 6 (va_up (va_up (va_up (va_up (va_up (va_up (fun _ => none) 0 (some (gK g 32))) 1 (some (gK g 33))) 2 (some (gK g 34))) 3 (some (gK g 35))) 4 (some (gK g 36))) 5 (some (gK g 37)))) ∈ t0 := by rw [e0]; exact (List.mem_cons_of_mem _ (List.mem_cons_of_mem _ List.mem_cons_self))
  have m3 : (u1, qA g 7 6 (va_up (va_up (va_up (va_up (va_up (va_up (fun _ => none) 0 (some (gK g iE))) 1 (some (gK g 27))) 2 (some (gK g 28))) 3 (some (gK g 29))) 4 (some (gK g 30))) 5 (some (gK g 31)))) ∈ t0 := by rw [e0]; exact (List.mem_cons_of_mem _ (List.mem_cons_of_mem _ (List.mem_cons_of_mem _ List.mem_cons_self)))
  have mt : ∀ p ∈ t, p ∈ t0 := fun p hp => by rw [e0]; exact (List.mem_cons_of_mem _ (List.mem_cons_of_mem _ (List.mem_cons_of_mem _ (List.mem_cons_of_mem _ hp))))
  have hoK := mt _ ho
  refine r_aload_n 4 dX11_text_128 rfl ?_
  refine r_getm (v := .int (11 : Int32)) (ci := 11) (fs := [.int (11 : Int32), .int (nI n), .int (nI o), .ref (tA k x), .ref (tA k y)]) dX11_text_129 fl_X11_7 hoK rfl ?_
  refine r_if_ne (tgt := 158) dX11_text_132 (by decide) (fun _ => ?_) (fun hc => absurd hc (by decide))
  refine r_aload_n 4 dX11_text_158 rfl ?_
  refine r_getm (v := .int (11 : Int32)) (ci := 11) (fs := [.int (11 : Int32), .int (nI n), .int (nI o), .ref (tA k x), .ref (tA k y)]) dX11_text_159 fl_X11_7 hoK rfl ?_
  refine r_iconst (v := (4 : Int32)) dX11_text_162 (by decide) ?_
  refine r_icmp_ge (tgt := 173) dX11_text_163 (by decide) (fun _ => ?_) (fun hc => absurd (by decide) hc)
  refine r_aload_n 4 dX11_text_173 rfl ?_
  refine r_getm (v := .int (11 : Int32)) (ci := 11) (fs := [.int (11 : Int32), .int (nI n), .int (nI o), .ref (tA k x), .ref (tA k y)]) dX11_text_174 fl_X11_7 hoK rfl ?_
  refine r_bipush (v := (6 : Int32)) dX11_text_177 (by decide) ?_
  refine r_icmp_ge (tgt := 214) dX11_text_179 (by decide) (fun _ => ?_) (fun hc => absurd (by decide) hc)
  refine r_aload_n 4 dX11_text_214 rfl ?_
  refine r_getm (v := .int (11 : Int32)) (ci := 11) (fs := [.int (11 : Int32), .int (nI n), .int (nI o), .ref (tA k x), .ref (tA k y)]) dX11_text_215 fl_X11_7 hoK rfl ?_
  refine r_bipush (v := (6 : Int32)) dX11_text_218 (by decide) ?_
  refine r_icmp_ne (tgt := 254) dX11_text_220 (by decide) (fun _ => ?_) (fun hc => absurd hc (by decide))
  refine r_aload_n 4 dX11_text_254 rfl ?_
  refine r_getm (v := .int (11 : Int32)) (ci := 11) (fs := [.int (11 : Int32), .int (nI n), .int (nI o), .ref (tA k x), .ref (tA k y)]) dX11_text_255 fl_X11_7 hoK rfl ?_
  refine r_bipush (v := (11 : Int32)) dX11_text_258 (by decide) ?_
  refine r_icmp_ge (tgt := 326) dX11_text_260 (by decide) (fun _ => ?_) (fun hc => absurd (by decide) hc)
  refine r_aload_n 4 dX11_text_326 rfl ?_
  refine r_getm (v := .int (11 : Int32)) (ci := 11) (fs := [.int (11 : Int32), .int (nI n), .int (nI o), .ref (tA k x), .ref (tA k y)]) dX11_text_327 fl_X11_7 hoK rfl ?_
  refine r_bipush (v := (13 : Int32)) dX11_text_330 (by decide) ?_
  refine r_icmp_ge (tgt := 388) dX11_text_332 (by decide) (fun hc => absurd hc (by decide)) (fun _ => ?_)
  refine r_new (N := 4) (x := ((16 * 2 ^ k - 16) + (16 * 2 ^ k - 16) + 11)) (y := ((33000 * 2 ^ k - 33000) + (33000 * 2 ^ k - 33000) + 32896)) dX11_text_335 nl_X11_110 (fun q9 => ?_)
  refine r_dup dX11_text_338 rfl ?_
  refine k_I (x := ((16 * 2 ^ k - 16) + (16 * 2 ^ k - 16) + 10)) (y := ((33000 * 2 ^ k - 33000) + (33000 * 2 ^ k - 33000) + 32880)) (rest := [.ref q9]) dX11_text_339 ki_X11_112 (cj_sb) rfl rfl (Nat.le_of_ble_eq_true rfl) (by first | exact hd3 | exact hd6 | exact hd7) (by decide) ?_
  rintro bv332 -
  show R g mX11_text (k + 1 + 8) ((16 * 2 ^ k - 16) + (16 * 2 ^ k - 16) + 10) ((33000 * 2 ^ k - 33000) + (33000 * 2 ^ k - 33000) + 32880) 342 [(4, .ref u4), (3, .ref u3), (2, .ref u2), (1, .ref u1), (0, .ref a)] [.ref q9] ((q9, .inr (13, [.ref bv332, .int (0 : Int32), .int (0 : Int32), .int (nI ([] : List Int32).length)])) :: ((bv332, yA g 16 (fun _ => 0)) :: t0)) _
  refine r_aload_n 2 dX11_text_342 rfl ?_
  refine r_aload_n 4 dX11_text_343 rfl ?_
  refine r_getm (v := .int (11 : Int32)) (ci := 11) (fs := [.int (11 : Int32), .int (nI n), .int (nI o), .ref (tA k x), .ref (tA k y)]) dX11_text_344 fl_X11_7 (List.mem_cons_of_mem _ (List.mem_cons_of_mem _ hoK)) rfl ?_
  refine r_bipush (v := (7 : Int32)) dX11_text_347 (by decide) ?_
  refine r_isub dX11_text_349 ?_
  refine r_aaldm (t := 7) (n := 6) (f := (va_up (va_up (va_up (va_up (va_up (va_up (fun _ => none) 0 (some (gK g 32))) 1 (some (gK g 33))) 2 (some (gK g 34))) 3 (some (gK g 35))) 4 (some (gK g 36))) 5 (some (gK g 37)))) (v := .ref (gK g 36)) dX11_text_350 rfl rfl (List.mem_cons_of_mem _ (List.mem_cons_of_mem _ m2)) (by decide) (by rfl) ?_
  obtain ⟨L338, eL339⟩ : ∃ L9 : List Int32, L9 = ([] : List Int32) ++ kT 36 := ⟨_, rfl⟩
  have bn337 : L338.length ≤ 4 := by rw [eL339]; exact lnA (L := ([] : List Int32)) (L2 := kT 36) (n := 0) (n2 := 4) (Nat.le_refl 0) (Nat.le_of_eq kl_36)
  refine k_V (x := ((16 * 2 ^ k - 16) + (16 * 2 ^ k - 16) + 9)) (y := ((33000 * 2 ^ k - 33000) + (33000 * 2 ^ k - 33000) + 28878)) (rest := []) 0 dX11_text_351 kv_X11_113 (cj_apK (i := 36) (by decide) eL339 BL.nil (Nat.le_trans bn337 (by decide))) rfl rfl rfl rfl (Nat.le_of_ble_eq_true rfl) (by first | exact hd3 | exact hd6 | exact hd7) (by decide) ?_
  rintro ⟨bv333, bm334, bf335⟩ bh336
  try dsimp only at bh336
  show R g mX11_text (k + 1 + 8) ((16 * 2 ^ k - 16) + (16 * 2 ^ k - 16) + 9) ((33000 * 2 ^ k - 33000) + (33000 * 2 ^ k - 33000) + 28878) 354 [(4, .ref u4), (3, .ref u3), (2, .ref u2), (1, .ref u1), (0, .ref a)] [.ref q9] ((q9, .inr (13, [.ref bv333, .int (0 : Int32), .int (0 : Int32), .int (nI L338.length)])) :: ((bv333, yA g bm334 bf335) :: t0)) _
  refine r_aload_n 4 dX11_text_354 rfl ?_
  refine r_getm (v := .ref (tA k x)) (ci := 11) (fs := [.int (11 : Int32), .int (nI n), .int (nI o), .ref (tA k x), .ref (tA k y)]) dX11_text_355 fl_X11_40 (List.mem_cons_of_mem _ (List.mem_cons_of_mem _ hoK)) rfl ?_
  obtain ⟨fszz340, hfzz340⟩ := TM.cell k x hmx
  refine r_room (x2 := ((16 * 2 ^ k - 16) + 9) + (16 * 2 ^ k - 16)) (y2 := ((33000 * 2 ^ k - 33000) + 28878) + (33000 * 2 ^ k - 33000)) (Nat.le_of_eq (Nat.add_right_comm _ _ _)) (Nat.le_of_eq (Nat.add_right_comm _ _ _)) ?_
  refine k_Vm (x := ((16 * 2 ^ k - 16) + 9)) (y := ((33000 * 2 ^ k - 33000) + 28878)) (rest := [.ref q9]) dX11_text_358 kv_X11_128 (IH x _ (TM.mono (fun p hp => (List.mem_cons_of_mem _ (List.mem_cons_of_mem _ (mt p hp)))) k x hmx) hx) rfl rfl (List.mem_cons_of_mem _ (List.mem_cons_of_mem _ (mt _ hfzz340))) rfl (Nat.le_of_ble_eq_true rfl) (Nat.le_of_eq (Nat.add_right_comm _ _ _)) (by decide) ?_
  rintro zz340 hz341
  refine r_seg (ws2 := ((q9, .inr (13, [.ref bv333, .int (0 : Int32), .int (0 : Int32), .int (nI L338.length)])) :: ((bv333, yA g bm334 bf335) :: ((sw g (txt k x).length zz340) ++ t0)))) [sw g (txt k x).length zz340, [(q9, .inr (13, [.ref bv333, .int (0 : Int32), .int (0 : Int32), .int (nI L338.length)]))], [(bv333, yA g bm334 bf335)], t0] [1, 2, 0, 3] rfl rfl rfl ?_
  obtain ⟨L347, eL348⟩ : ∃ L9 : List Int32, L9 = L338 ++ txt k x := ⟨_, rfl⟩
  have bn346 : L347.length ≤ 381 := by rw [eL348]; exact lnA (L := L338) (L2 := txt k x) (n := 4) (n2 := 377) bn337 (lx)
  refine k_V (x := ((16 * 2 ^ k - 16) + 8)) (y := ((33000 * 2 ^ k - 33000) + 24876)) (rest := []) 0 dX11_text_361 kv_X11_113 (cj_apX (L2 := txt k x) (z := zz340) hz341 eL348 bh336 (Nat.le_trans bn346 (by decide))) rfl rfl rfl rfl (Nat.le_of_ble_eq_true rfl) (by first | exact hd3 | exact hd6 | exact hd7) (by decide) ?_
  rintro ⟨bv342, bm343, bf344⟩ bh345
  try dsimp only at bh345
  show R g mX11_text (k + 1 + 8) ((16 * 2 ^ k - 16) + 8) ((33000 * 2 ^ k - 33000) + 24876) 364 [(4, .ref u4), (3, .ref u3), (2, .ref u2), (1, .ref u1), (0, .ref a)] [.ref q9] ((q9, .inr (13, [.ref bv342, .int (0 : Int32), .int (0 : Int32), .int (nI L347.length)])) :: ((bv342, yA g bm343 bf344) :: ((sw g (txt k x).length zz340) ++ t0))) _
  refine r_seg (ws2 := ((q9, .inr (13, [.ref bv342, .int (0 : Int32), .int (0 : Int32), .int (nI L347.length)])) :: ((bv342, yA g bm343 bf344) :: t0))) [[(q9, .inr (13, [.ref bv342, .int (0 : Int32), .int (0 : Int32), .int (nI L347.length)]))], [(bv342, yA g bm343 bf344)], sw g (txt k x).length zz340, t0] [0, 1, 3] rfl rfl rfl ?_
  refine r_ldcS (i := 51) dX11_text_364 rfl ?_
  obtain ⟨L354, eL355⟩ : ∃ L9 : List Int32, L9 = L347 ++ kT 51 := ⟨_, rfl⟩
  have bn353 : L354.length ≤ 382 := by rw [eL355]; exact lnA (L := L347) (L2 := kT 51) (n := 381) (n2 := 1) bn346 (Nat.le_of_eq kl_51)
  refine k_V (x := ((16 * 2 ^ k - 16) + 7)) (y := ((33000 * 2 ^ k - 33000) + 20874)) (rest := []) 0 dX11_text_366 kv_X11_113 (cj_apK (i := 51) (by decide) eL355 bh345 (Nat.le_trans bn353 (by decide))) rfl rfl rfl rfl (Nat.le_of_ble_eq_true rfl) (by first | exact hd3 | exact hd6 | exact hd7) (by decide) ?_
  rintro ⟨bv349, bm350, bf351⟩ bh352
  try dsimp only at bh352
  show R g mX11_text (k + 1 + 8) ((16 * 2 ^ k - 16) + 7) ((33000 * 2 ^ k - 33000) + 20874) 369 [(4, .ref u4), (3, .ref u3), (2, .ref u2), (1, .ref u1), (0, .ref a)] [.ref q9] ((q9, .inr (13, [.ref bv349, .int (0 : Int32), .int (0 : Int32), .int (nI L354.length)])) :: ((bv349, yA g bm350 bf351) :: t0)) _
  refine r_aload_n 4 dX11_text_369 rfl ?_
  refine r_getm (v := .ref (tA k y)) (ci := 11) (fs := [.int (11 : Int32), .int (nI n), .int (nI o), .ref (tA k x), .ref (tA k y)]) dX11_text_370 fl_X11_59 (List.mem_cons_of_mem _ (List.mem_cons_of_mem _ hoK)) rfl ?_
  obtain ⟨fszz356, hfzz356⟩ := TM.cell k y hmy
  refine r_room (x2 := 7 + (16 * 2 ^ k - 16)) (y2 := 20874 + (33000 * 2 ^ k - 33000)) (Nat.le_of_eq (Nat.add_comm _ _)) (Nat.le_of_eq (Nat.add_comm _ _)) ?_
  refine k_Vm (x := 7) (y := 20874) (rest := [.ref q9]) dX11_text_373 kv_X11_128 (IH y _ (TM.mono (fun p hp => (List.mem_cons_of_mem _ (List.mem_cons_of_mem _ (mt p hp)))) k y hmy) hy) rfl rfl (List.mem_cons_of_mem _ (List.mem_cons_of_mem _ (mt _ hfzz356))) rfl (Nat.le_of_ble_eq_true rfl) (Nat.le_of_eq (Nat.add_right_comm _ _ _)) (by decide) ?_
  rintro zz356 hz357
  refine r_seg (ws2 := ((q9, .inr (13, [.ref bv349, .int (0 : Int32), .int (0 : Int32), .int (nI L354.length)])) :: ((bv349, yA g bm350 bf351) :: ((sw g (txt k y).length zz356) ++ t0)))) [sw g (txt k y).length zz356, [(q9, .inr (13, [.ref bv349, .int (0 : Int32), .int (0 : Int32), .int (nI L354.length)]))], [(bv349, yA g bm350 bf351)], t0] [1, 2, 0, 3] rfl rfl rfl ?_
  obtain ⟨L363, eL364⟩ : ∃ L9 : List Int32, L9 = L354 ++ txt k y := ⟨_, rfl⟩
  have bn362 : L363.length ≤ 759 := by rw [eL364]; exact lnA (L := L354) (L2 := txt k y) (n := 382) (n2 := 377) bn353 (ly)
  refine k_V (x := 6) (y := 16872) (rest := []) 0 dX11_text_376 kv_X11_113 (cj_apX (L2 := txt k y) (z := zz356) hz357 eL364 bh352 (Nat.le_trans bn362 (by decide))) rfl rfl rfl rfl (Nat.le_of_ble_eq_true rfl) (by first | exact hd3 | exact hd6 | exact hd7) (by decide) ?_
  rintro ⟨bv358, bm359, bf360⟩ bh361
  try dsimp only at bh361
  show R g mX11_text (k + 1 + 8) 6 16872 379 [(4, .ref u4), (3, .ref u3), (2, .ref u2), (1, .ref u1), (0, .ref a)] [.ref q9] ((q9, .inr (13, [.ref bv358, .int (0 : Int32), .int (0 : Int32), .int (nI L363.length)])) :: ((bv358, yA g bm359 bf360) :: ((sw g (txt k y).length zz356) ++ t0))) _
  refine r_seg (ws2 := ((q9, .inr (13, [.ref bv358, .int (0 : Int32), .int (0 : Int32), .int (nI L363.length)])) :: ((bv358, yA g bm359 bf360) :: t0))) [[(q9, .inr (13, [.ref bv358, .int (0 : Int32), .int (0 : Int32), .int (nI L363.length)]))], [(bv358, yA g bm359 bf360)], sw g (txt k y).length zz356, t0] [0, 1, 3] rfl rfl rfl ?_
  refine r_ldcS (i := 49) dX11_text_379 rfl ?_
  obtain ⟨L370, eL371⟩ : ∃ L9 : List Int32, L9 = L363 ++ kT 49 := ⟨_, rfl⟩
  have bn369 : L370.length ≤ 760 := by rw [eL371]; exact lnA (L := L363) (L2 := kT 49) (n := 759) (n2 := 1) bn362 (Nat.le_of_eq kl_49)
  refine k_V (x := 5) (y := 12870) (rest := []) 0 dX11_text_381 kv_X11_113 (cj_apK (i := 49) (by decide) eL371 bh361 (Nat.le_trans bn369 (by decide))) rfl rfl rfl rfl (Nat.le_of_ble_eq_true rfl) (by first | exact hd3 | exact hd6 | exact hd7) (by decide) ?_
  rintro ⟨bv365, bm366, bf367⟩ bh368
  try dsimp only at bh368
  show R g mX11_text (k + 1 + 8) 5 12870 384 [(4, .ref u4), (3, .ref u3), (2, .ref u2), (1, .ref u1), (0, .ref a)] [.ref q9] ((q9, .inr (13, [.ref bv365, .int (0 : Int32), .int (0 : Int32), .int (nI L370.length)])) :: ((bv365, yA g bm366 bf367) :: t0)) _
  refine k_V (x := 3) (y := 8864) (rest := []) 0 dX11_text_384 kv_X11_120 (cj_strB bh368) rfl rfl rfl rfl (Nat.le_of_ble_eq_true rfl) (by first | exact hd3 | exact hd6 | exact hd7) (by decide) ?_
  rintro ⟨ts372, tb373, tf374⟩ th375
  try dsimp only at th375
  show R g mX11_text (k + 1 + 8) 3 8864 387 [(4, .ref u4), (3, .ref u3), (2, .ref u2), (1, .ref u1), (0, .ref a)] [.ref ts372] ((ts372, .inr (12, [.ref tb373, .int (0 : Int32), .int (0 : Int32), .int (0 : Int32)])) :: ((tb373, yA g L370.length tf374) :: ((q9, .inr (13, [.ref bv365, .int (0 : Int32), .int (0 : Int32), .int (nI L370.length)])) :: ((bv365, yA g bm366 bf367) :: t0)))) _
  rw [e0]
  refine r_seg (ws2 := ((ts372, .inr (12, [.ref tb373, .int (0 : Int32), .int (0 : Int32), .int (0 : Int32)])) :: ((tb373, yA g L370.length tf374) :: t))) [[(ts372, .inr (12, [.ref tb373, .int (0 : Int32), .int (0 : Int32), .int (0 : Int32)]))], [(tb373, yA g L370.length tf374)], [(q9, .inr (13, [.ref bv365, .int (0 : Int32), .int (0 : Int32), .int (nI L370.length)]))], [(bv365, yA g bm366 bf367)], [(u4, qA g 7 4 (va_up (va_up (va_up (va_up (fun _ => none) 0 (some (gK g 43))) 1 (some (gK g 44))) 2 (some (gK g 45))) 3 (some (gK g 46))))], [(u3, qA g 7 5 (va_up (va_up (va_up (va_up (va_up (fun _ => none) 0 (some (gK g 38))) 1 (some (gK g 39))) 2 (some (gK g 40))) 3 (some (gK g 41))) 4 (some (gK g 42))))], [(u2, qA g 7 6 (va_up (va_up (va_up (va_up (va_up (va_up (fun _ => none) 0 (some (gK g 32))) 1 (some (gK g 33))) 2 (some (gK g 34))) 3 (some (gK g 35))) 4 (some (gK g 36))) 5 (some (gK g 37))))], [(u1, qA g 7 6 (va_up (va_up (va_up (va_up (va_up (va_up (fun _ => none) 0 (some (gK g iE))) 1 (some (gK g 27))) 2 (some (gK g 28))) 3 (some (gK g 29))) 4 (some (gK g 30))) 5 (some (gK g 31))))], t] [0, 1, 8] rfl rfl rfl ?_
  subst eL371
  subst eL364
  subst eL355
  subst eL348
  subst eL339
  refine r_aret dX11_text_387 rfl rfl (Or.inr ⟨_, rfl⟩) ?_
  exact Dq.mk (Sum.inr (ts372, tb373, tf374)) rfl rfl th375
set_option maxRecDepth 20000 in
set_option maxHeartbeats 8000000 in
theorem tx_20 {g : GG} {ne nt k a n o u1 u2 u3 u4 : Nat} {t t0 : va_W} {x y : TT k} (IH : TextH g ne nt k) (e0 : t0 = ((u4, qA g 7 4 (va_up (va_up (va_up (va_up (fun _ => none) 0 (some (gK g 43))) 1 (some (gK g 44))) 2 (some (gK g 45))) 3 (some (gK g 46)))) :: ((u3, qA g 7 5 (va_up (va_up (va_up (va_up (va_up (fun _ => none) 0 (some (gK g 38))) 1 (some (gK g 39))) 2 (some (gK g 40))) 3 (some (gK g 41))) 4 (some (gK g 42)))) :: ((u2, qA g 7 6 (va_up (va_up (va_up (va_up (va_up (va_up (fun _ => none) 0 (some (gK g 32))) 1 (some (gK g 33))) 2 (some (gK g 34))) 3 (some (gK g 35))) 4 (some (gK g 36))) 5 (some (gK g 37)))) :: ((u1, qA g 7 6 (va_up (va_up (va_up (va_up (va_up (va_up (fun _ => none) 0 (some (gK g iE))) 1 (some (gK g 27))) 2 (some (gK g 28))) 3 (some (gK g 29))) 4 (some (gK g 30))) 5 (some (gK g 31)))) :: t))))) (hk5 : k ≤ 5) (hn : nt ≤ 10) (hne : ne ≤ 10) (ho : (a, .inr (11, [.int (20 : Int32), .int (nI n), .int (nI o), .ref (tA k x), .ref (tA k y)])) ∈ t) (hmx : TM g t k x) (hx : TE ne nt k x ∨ TB ne nt k x) (hmy : TM g t k y) (hy : TE ne nt k y ∨ TB ne nt k y) : R g mX11_text (k + 1 + 8) ((16 * 2 ^ k - 16) + (16 * 2 ^ k - 16) + 12) ((33000 * 2 ^ k - 33000) + (33000 * 2 ^ k - 33000) + 32900) 128 [(4, .ref u4), (3, .ref u3), (2, .ref u2), (1, .ref u1), (0, .ref a)] [] t0 (Dq (fun (z : SZ) => some (sv g z)) (fun z => sw g (((([] : List Int32) ++ (txt k x)) ++ kT 38) ++ (txt k y)).length z ++ t) (fun z => sP (((([] : List Int32) ++ (txt k x)) ++ kT 38) ++ (txt k y)) z)) := by
  have hd3 : 3 + 1 ≤ k + 1 + 8 := by omega
  have hd6 : 6 + 1 ≤ k + 1 + 8 := by omega
  have hd7 : 7 + 1 ≤ k + 1 + 8 := by omega
  have hp5 : 2 ^ k ≤ 32 := Nat.le_trans (Nat.pow_le_pow_right (by decide) hk5) (by decide)
  have hlk : 12 * 2 ^ k - 7 ≤ 377 := by omega
  have lx := Nat.le_trans (txt_len hne hn k x hx) hlk
  have ly := Nat.le_trans (txt_len hne hn k y hy) hlk
  have m0 : (u4, qA g 7 4 (va_up (va_up (va_up (va_up (fun _ => none) 0 (some (gK g 43))) 1 (some (gK g 44))) 2 (some (gK g 45))) 3 (some (gK g 46)))) ∈ t0 := by rw [e0]; exact List.mem_cons_self
  have m1 : (u3, qA g 7 5 (va_up (va_up (va_up (va_up (va_up (fun _ => none) 0 (some (gK g 38))) 1 (some (gK g 39))) 2 (some (gK g 40))) 3 (some (gK g 41))) 4 (some (gK g 42)))) ∈ t0 := by rw [e0]; exact (List.mem_cons_of_mem _ List.mem_cons_self)
  have m2 : (u2, qA g 7 6 (va_up (va_up (va_up (va_up (va_up (va_up (fun _ => none) 0 (some (gK g 32))) 1 (some (gK g 33))) 2 (some (gK g 34))) 3 (some (gK g 35))) 4 (some (gK g 36))) 5 (some (gK g 37)))) ∈ t0 := by rw [e0]; exact (List.mem_cons_of_mem _ (List.mem_cons_of_mem _ List.mem_cons_self))
  have m3 : (u1, qA g 7 6 (va_up (va_up (va_up (va_up (va_up (va_up (fun _ => none) 0 (some (gK g iE))) 1 (some (gK g 27))) 2 (some (gK g 28))) 3 (some (gK g 29))) 4 (some (gK g 30))) 5 (some (gK g 31)))) ∈ t0 := by rw [e0]; exact (List.mem_cons_of_mem _ (List.mem_cons_of_mem _ (List.mem_cons_of_mem _ List.mem_cons_self)))
  have mt : ∀ p ∈ t, p ∈ t0 := fun p hp => by rw [e0]; exact (List.mem_cons_of_mem _ (List.mem_cons_of_mem _ (List.mem_cons_of_mem _ (List.mem_cons_of_mem _ hp))))
  have hoK := mt _ ho
  refine r_aload_n 4 dX11_text_128 rfl ?_
  refine r_getm (v := .int (20 : Int32)) (ci := 11) (fs := [.int (20 : Int32), .int (nI n), .int (nI o), .ref (tA k x), .ref (tA k y)]) dX11_text_129 fl_X11_7 hoK rfl ?_
  refine r_if_ne (tgt := 158) dX11_text_132 (by decide) (fun _ => ?_) (fun hc => absurd hc (by decide))
  refine r_aload_n 4 dX11_text_158 rfl ?_
  refine r_getm (v := .int (20 : Int32)) (ci := 11) (fs := [.int (20 : Int32), .int (nI n), .int (nI o), .ref (tA k x), .ref (tA k y)]) dX11_text_159 fl_X11_7 hoK rfl ?_
  refine r_iconst (v := (4 : Int32)) dX11_text_162 (by decide) ?_
  refine r_icmp_ge (tgt := 173) dX11_text_163 (by decide) (fun _ => ?_) (fun hc => absurd (by decide) hc)
  refine r_aload_n 4 dX11_text_173 rfl ?_
  refine r_getm (v := .int (20 : Int32)) (ci := 11) (fs := [.int (20 : Int32), .int (nI n), .int (nI o), .ref (tA k x), .ref (tA k y)]) dX11_text_174 fl_X11_7 hoK rfl ?_
  refine r_bipush (v := (6 : Int32)) dX11_text_177 (by decide) ?_
  refine r_icmp_ge (tgt := 214) dX11_text_179 (by decide) (fun _ => ?_) (fun hc => absurd (by decide) hc)
  refine r_aload_n 4 dX11_text_214 rfl ?_
  refine r_getm (v := .int (20 : Int32)) (ci := 11) (fs := [.int (20 : Int32), .int (nI n), .int (nI o), .ref (tA k x), .ref (tA k y)]) dX11_text_215 fl_X11_7 hoK rfl ?_
  refine r_bipush (v := (6 : Int32)) dX11_text_218 (by decide) ?_
  refine r_icmp_ne (tgt := 254) dX11_text_220 (by decide) (fun _ => ?_) (fun hc => absurd hc (by decide))
  refine r_aload_n 4 dX11_text_254 rfl ?_
  refine r_getm (v := .int (20 : Int32)) (ci := 11) (fs := [.int (20 : Int32), .int (nI n), .int (nI o), .ref (tA k x), .ref (tA k y)]) dX11_text_255 fl_X11_7 hoK rfl ?_
  refine r_bipush (v := (11 : Int32)) dX11_text_258 (by decide) ?_
  refine r_icmp_ge (tgt := 326) dX11_text_260 (by decide) (fun _ => ?_) (fun hc => absurd (by decide) hc)
  refine r_aload_n 4 dX11_text_326 rfl ?_
  refine r_getm (v := .int (20 : Int32)) (ci := 11) (fs := [.int (20 : Int32), .int (nI n), .int (nI o), .ref (tA k x), .ref (tA k y)]) dX11_text_327 fl_X11_7 hoK rfl ?_
  refine r_bipush (v := (13 : Int32)) dX11_text_330 (by decide) ?_
  refine r_icmp_ge (tgt := 388) dX11_text_332 (by decide) (fun _ => ?_) (fun hc => absurd (by decide) hc)
  refine r_aload_n 4 dX11_text_388 rfl ?_
  refine r_getm (v := .int (20 : Int32)) (ci := 11) (fs := [.int (20 : Int32), .int (nI n), .int (nI o), .ref (tA k x), .ref (tA k y)]) dX11_text_389 fl_X11_7 hoK rfl ?_
  refine r_bipush (v := (25 : Int32)) dX11_text_392 (by decide) ?_
  refine r_icmp_ge (tgt := 440) dX11_text_394 (by decide) (fun hc => absurd hc (by decide)) (fun _ => ?_)
  refine r_new (N := 4) (x := ((16 * 2 ^ k - 16) + (16 * 2 ^ k - 16) + 11)) (y := ((33000 * 2 ^ k - 33000) + (33000 * 2 ^ k - 33000) + 32896)) dX11_text_397 nl_X11_110 (fun q11 => ?_)
  refine r_dup dX11_text_400 rfl ?_
  refine k_I (x := ((16 * 2 ^ k - 16) + (16 * 2 ^ k - 16) + 10)) (y := ((33000 * 2 ^ k - 33000) + (33000 * 2 ^ k - 33000) + 32880)) (rest := [.ref q11]) dX11_text_401 ki_X11_112 (cj_sb) rfl rfl (Nat.le_of_ble_eq_true rfl) (by first | exact hd3 | exact hd6 | exact hd7) (by decide) ?_
  rintro bv420 -
  show R g mX11_text (k + 1 + 8) ((16 * 2 ^ k - 16) + (16 * 2 ^ k - 16) + 10) ((33000 * 2 ^ k - 33000) + (33000 * 2 ^ k - 33000) + 32880) 404 [(4, .ref u4), (3, .ref u3), (2, .ref u2), (1, .ref u1), (0, .ref a)] [.ref q11] ((q11, .inr (13, [.ref bv420, .int (0 : Int32), .int (0 : Int32), .int (nI ([] : List Int32).length)])) :: ((bv420, yA g 16 (fun _ => 0)) :: t0)) _
  refine r_aload_n 4 dX11_text_404 rfl ?_
  refine r_getm (v := .ref (tA k x)) (ci := 11) (fs := [.int (20 : Int32), .int (nI n), .int (nI o), .ref (tA k x), .ref (tA k y)]) dX11_text_405 fl_X11_40 (List.mem_cons_of_mem _ (List.mem_cons_of_mem _ hoK)) rfl ?_
  obtain ⟨fszz421, hfzz421⟩ := TM.cell k x hmx
  refine r_room (x2 := ((16 * 2 ^ k - 16) + 10) + (16 * 2 ^ k - 16)) (y2 := ((33000 * 2 ^ k - 33000) + 32880) + (33000 * 2 ^ k - 33000)) (Nat.le_of_eq (Nat.add_right_comm _ _ _)) (Nat.le_of_eq (Nat.add_right_comm _ _ _)) ?_
  refine k_Vm (x := ((16 * 2 ^ k - 16) + 10)) (y := ((33000 * 2 ^ k - 33000) + 32880)) (rest := [.ref q11]) dX11_text_408 kv_X11_128 (IH x _ (TM.mono (fun p hp => (List.mem_cons_of_mem _ (List.mem_cons_of_mem _ (mt p hp)))) k x hmx) hx) rfl rfl (List.mem_cons_of_mem _ (List.mem_cons_of_mem _ (mt _ hfzz421))) rfl (Nat.le_of_ble_eq_true rfl) (Nat.le_of_eq (Nat.add_right_comm _ _ _)) (by decide) ?_
  rintro zz421 hz422
  refine r_seg (ws2 := ((q11, .inr (13, [.ref bv420, .int (0 : Int32), .int (0 : Int32), .int (nI ([] : List Int32).length)])) :: ((bv420, yA g 16 (fun _ => 0)) :: ((sw g (txt k x).length zz421) ++ t0)))) [sw g (txt k x).length zz421, [(q11, .inr (13, [.ref bv420, .int (0 : Int32), .int (0 : Int32), .int (nI ([] : List Int32).length)]))], [(bv420, yA g 16 (fun _ => 0))], t0] [1, 2, 0, 3] rfl rfl rfl ?_
  obtain ⟨L428, eL429⟩ : ∃ L9 : List Int32, L9 = ([] : List Int32) ++ txt k x := ⟨_, rfl⟩
  have bn427 : L428.length ≤ 377 := by rw [eL429]; exact lnA (L := ([] : List Int32)) (L2 := txt k x) (n := 0) (n2 := 377) (Nat.le_refl 0) (lx)
  refine k_V (x := ((16 * 2 ^ k - 16) + 9)) (y := ((33000 * 2 ^ k - 33000) + 28878)) (rest := []) 0 dX11_text_411 kv_X11_113 (cj_apX (L2 := txt k x) (z := zz421) hz422 eL429 BL.nil (Nat.le_trans bn427 (by decide))) rfl rfl rfl rfl (Nat.le_of_ble_eq_true rfl) (by first | exact hd3 | exact hd6 | exact hd7) (by decide) ?_
  rintro ⟨bv423, bm424, bf425⟩ bh426
  try dsimp only at bh426
  show R g mX11_text (k + 1 + 8) ((16 * 2 ^ k - 16) + 9) ((33000 * 2 ^ k - 33000) + 28878) 414 [(4, .ref u4), (3, .ref u3), (2, .ref u2), (1, .ref u1), (0, .ref a)] [.ref q11] ((q11, .inr (13, [.ref bv423, .int (0 : Int32), .int (0 : Int32), .int (nI L428.length)])) :: ((bv423, yA g bm424 bf425) :: ((sw g (txt k x).length zz421) ++ t0))) _
  refine r_seg (ws2 := ((q11, .inr (13, [.ref bv423, .int (0 : Int32), .int (0 : Int32), .int (nI L428.length)])) :: ((bv423, yA g bm424 bf425) :: t0))) [[(q11, .inr (13, [.ref bv423, .int (0 : Int32), .int (0 : Int32), .int (nI L428.length)]))], [(bv423, yA g bm424 bf425)], sw g (txt k x).length zz421, t0] [0, 1, 3] rfl rfl rfl ?_
  refine r_aload_n 1 dX11_text_414 rfl ?_
  refine r_aload_n 4 dX11_text_415 rfl ?_
  refine r_getm (v := .int (20 : Int32)) (ci := 11) (fs := [.int (20 : Int32), .int (nI n), .int (nI o), .ref (tA k x), .ref (tA k y)]) dX11_text_416 fl_X11_7 (List.mem_cons_of_mem _ (List.mem_cons_of_mem _ hoK)) rfl ?_
  refine r_bipush (v := (20 : Int32)) dX11_text_419 (by decide) ?_
  refine r_isub dX11_text_421 ?_
  refine r_aaldm (t := 7) (n := 5) (f := (va_up (va_up (va_up (va_up (va_up (fun _ => none) 0 (some (gK g 38))) 1 (some (gK g 39))) 2 (some (gK g 40))) 3 (some (gK g 41))) 4 (some (gK g 42)))) (v := .ref (gK g 38)) dX11_text_422 rfl rfl (List.mem_cons_of_mem _ (List.mem_cons_of_mem _ m1)) (by decide) (by rfl) ?_
  obtain ⟨L435, eL436⟩ : ∃ L9 : List Int32, L9 = L428 ++ kT 38 := ⟨_, rfl⟩
  have bn434 : L435.length ≤ 378 := by rw [eL436]; exact lnA (L := L428) (L2 := kT 38) (n := 377) (n2 := 1) bn427 (Nat.le_of_eq kl_38)
  refine k_V (x := ((16 * 2 ^ k - 16) + 8)) (y := ((33000 * 2 ^ k - 33000) + 24876)) (rest := []) 0 dX11_text_423 kv_X11_113 (cj_apK (i := 38) (by decide) eL436 bh426 (Nat.le_trans bn434 (by decide))) rfl rfl rfl rfl (Nat.le_of_ble_eq_true rfl) (by first | exact hd3 | exact hd6 | exact hd7) (by decide) ?_
  rintro ⟨bv430, bm431, bf432⟩ bh433
  try dsimp only at bh433
  show R g mX11_text (k + 1 + 8) ((16 * 2 ^ k - 16) + 8) ((33000 * 2 ^ k - 33000) + 24876) 426 [(4, .ref u4), (3, .ref u3), (2, .ref u2), (1, .ref u1), (0, .ref a)] [.ref q11] ((q11, .inr (13, [.ref bv430, .int (0 : Int32), .int (0 : Int32), .int (nI L435.length)])) :: ((bv430, yA g bm431 bf432) :: t0)) _
  refine r_aload_n 4 dX11_text_426 rfl ?_
  refine r_getm (v := .ref (tA k y)) (ci := 11) (fs := [.int (20 : Int32), .int (nI n), .int (nI o), .ref (tA k x), .ref (tA k y)]) dX11_text_427 fl_X11_59 (List.mem_cons_of_mem _ (List.mem_cons_of_mem _ hoK)) rfl ?_
  obtain ⟨fszz437, hfzz437⟩ := TM.cell k y hmy
  refine r_room (x2 := 8 + (16 * 2 ^ k - 16)) (y2 := 24876 + (33000 * 2 ^ k - 33000)) (Nat.le_of_eq (Nat.add_comm _ _)) (Nat.le_of_eq (Nat.add_comm _ _)) ?_
  refine k_Vm (x := 8) (y := 24876) (rest := [.ref q11]) dX11_text_430 kv_X11_128 (IH y _ (TM.mono (fun p hp => (List.mem_cons_of_mem _ (List.mem_cons_of_mem _ (mt p hp)))) k y hmy) hy) rfl rfl (List.mem_cons_of_mem _ (List.mem_cons_of_mem _ (mt _ hfzz437))) rfl (Nat.le_of_ble_eq_true rfl) (Nat.le_of_eq (Nat.add_right_comm _ _ _)) (by decide) ?_
  rintro zz437 hz438
  refine r_seg (ws2 := ((q11, .inr (13, [.ref bv430, .int (0 : Int32), .int (0 : Int32), .int (nI L435.length)])) :: ((bv430, yA g bm431 bf432) :: ((sw g (txt k y).length zz437) ++ t0)))) [sw g (txt k y).length zz437, [(q11, .inr (13, [.ref bv430, .int (0 : Int32), .int (0 : Int32), .int (nI L435.length)]))], [(bv430, yA g bm431 bf432)], t0] [1, 2, 0, 3] rfl rfl rfl ?_
  obtain ⟨L444, eL445⟩ : ∃ L9 : List Int32, L9 = L435 ++ txt k y := ⟨_, rfl⟩
  have bn443 : L444.length ≤ 755 := by rw [eL445]; exact lnA (L := L435) (L2 := txt k y) (n := 378) (n2 := 377) bn434 (ly)
  refine k_V (x := 7) (y := 20874) (rest := []) 0 dX11_text_433 kv_X11_113 (cj_apX (L2 := txt k y) (z := zz437) hz438 eL445 bh433 (Nat.le_trans bn443 (by decide))) rfl rfl rfl rfl (Nat.le_of_ble_eq_true rfl) (by first | exact hd3 | exact hd6 | exact hd7) (by decide) ?_
  rintro ⟨bv439, bm440, bf441⟩ bh442
  try dsimp only at bh442
  show R g mX11_text (k + 1 + 8) 7 20874 436 [(4, .ref u4), (3, .ref u3), (2, .ref u2), (1, .ref u1), (0, .ref a)] [.ref q11] ((q11, .inr (13, [.ref bv439, .int (0 : Int32), .int (0 : Int32), .int (nI L444.length)])) :: ((bv439, yA g bm440 bf441) :: ((sw g (txt k y).length zz437) ++ t0))) _
  refine r_seg (ws2 := ((q11, .inr (13, [.ref bv439, .int (0 : Int32), .int (0 : Int32), .int (nI L444.length)])) :: ((bv439, yA g bm440 bf441) :: t0))) [[(q11, .inr (13, [.ref bv439, .int (0 : Int32), .int (0 : Int32), .int (nI L444.length)]))], [(bv439, yA g bm440 bf441)], sw g (txt k y).length zz437, t0] [0, 1, 3] rfl rfl rfl ?_
  refine k_V (x := 5) (y := 16868) (rest := []) 0 dX11_text_436 kv_X11_120 (cj_strB bh442) rfl rfl rfl rfl (Nat.le_of_ble_eq_true rfl) (by first | exact hd3 | exact hd6 | exact hd7) (by decide) ?_
  rintro ⟨ts446, tb447, tf448⟩ th449
  try dsimp only at th449
  show R g mX11_text (k + 1 + 8) 5 16868 439 [(4, .ref u4), (3, .ref u3), (2, .ref u2), (1, .ref u1), (0, .ref a)] [.ref ts446] ((ts446, .inr (12, [.ref tb447, .int (0 : Int32), .int (0 : Int32), .int (0 : Int32)])) :: ((tb447, yA g L444.length tf448) :: ((q11, .inr (13, [.ref bv439, .int (0 : Int32), .int (0 : Int32), .int (nI L444.length)])) :: ((bv439, yA g bm440 bf441) :: t0)))) _
  rw [e0]
  refine r_seg (ws2 := ((ts446, .inr (12, [.ref tb447, .int (0 : Int32), .int (0 : Int32), .int (0 : Int32)])) :: ((tb447, yA g L444.length tf448) :: t))) [[(ts446, .inr (12, [.ref tb447, .int (0 : Int32), .int (0 : Int32), .int (0 : Int32)]))], [(tb447, yA g L444.length tf448)], [(q11, .inr (13, [.ref bv439, .int (0 : Int32), .int (0 : Int32), .int (nI L444.length)]))], [(bv439, yA g bm440 bf441)], [(u4, qA g 7 4 (va_up (va_up (va_up (va_up (fun _ => none) 0 (some (gK g 43))) 1 (some (gK g 44))) 2 (some (gK g 45))) 3 (some (gK g 46))))], [(u3, qA g 7 5 (va_up (va_up (va_up (va_up (va_up (fun _ => none) 0 (some (gK g 38))) 1 (some (gK g 39))) 2 (some (gK g 40))) 3 (some (gK g 41))) 4 (some (gK g 42))))], [(u2, qA g 7 6 (va_up (va_up (va_up (va_up (va_up (va_up (fun _ => none) 0 (some (gK g 32))) 1 (some (gK g 33))) 2 (some (gK g 34))) 3 (some (gK g 35))) 4 (some (gK g 36))) 5 (some (gK g 37))))], [(u1, qA g 7 6 (va_up (va_up (va_up (va_up (va_up (va_up (fun _ => none) 0 (some (gK g iE))) 1 (some (gK g 27))) 2 (some (gK g 28))) 3 (some (gK g 29))) 4 (some (gK g 30))) 5 (some (gK g 31))))], t] [0, 1, 8] rfl rfl rfl ?_
  subst eL445
  subst eL436
  subst eL429
  refine r_aret dX11_text_439 rfl rfl (Or.inr ⟨_, rfl⟩) ?_
  exact Dq.mk (Sum.inr (ts446, tb447, tf448)) rfl rfl th449
set_option maxRecDepth 20000 in
set_option maxHeartbeats 8000000 in
theorem tx_25 {g : GG} {ne nt k a n o u1 u2 u3 u4 : Nat} {t t0 : va_W}  {vb : Value} {va : Value} (IH : TextH g ne nt k) (e0 : t0 = ((u4, qA g 7 4 (va_up (va_up (va_up (va_up (fun _ => none) 0 (some (gK g 43))) 1 (some (gK g 44))) 2 (some (gK g 45))) 3 (some (gK g 46)))) :: ((u3, qA g 7 5 (va_up (va_up (va_up (va_up (va_up (fun _ => none) 0 (some (gK g 38))) 1 (some (gK g 39))) 2 (some (gK g 40))) 3 (some (gK g 41))) 4 (some (gK g 42)))) :: ((u2, qA g 7 6 (va_up (va_up (va_up (va_up (va_up (va_up (fun _ => none) 0 (some (gK g 32))) 1 (some (gK g 33))) 2 (some (gK g 34))) 3 (some (gK g 35))) 4 (some (gK g 36))) 5 (some (gK g 37)))) :: ((u1, qA g 7 6 (va_up (va_up (va_up (va_up (va_up (va_up (fun _ => none) 0 (some (gK g iE))) 1 (some (gK g 27))) 2 (some (gK g 28))) 3 (some (gK g 29))) 4 (some (gK g 30))) 5 (some (gK g 31)))) :: t))))) (hk5 : k ≤ 5) (hn : nt ≤ 10) (hne : ne ≤ 10) (ho : (a, .inr (11, [.int (25 : Int32), .int (nI n), .int (nI o), va, vb])) ∈ t) (hb : n < 10) (hb2 : o < 10) : R g mX11_text (k + 1 + 8) ((16 * 2 ^ k - 16) + (16 * 2 ^ k - 16) + 12) ((33000 * 2 ^ k - 33000) + (33000 * 2 ^ k - 33000) + 32900) 128 [(4, .ref u4), (3, .ref u3), (2, .ref u2), (1, .ref u1), (0, .ref a)] [] t0 (Dq (fun (z : SZ) => some (sv g z)) (fun z => sw g (((((([] : List Int32) ++ kT 43) ++ dgL n) ++ kT 52) ++ dgL o) ++ kT 47).length z ++ t) (fun z => sP (((((([] : List Int32) ++ kT 43) ++ dgL n) ++ kT 52) ++ dgL o) ++ kT 47) z)) := by
  have hd3 : 3 + 1 ≤ k + 1 + 8 := by omega
  have hd6 : 6 + 1 ≤ k + 1 + 8 := by omega
  have hd7 : 7 + 1 ≤ k + 1 + 8 := by omega
  have m0 : (u4, qA g 7 4 (va_up (va_up (va_up (va_up (fun _ => none) 0 (some (gK g 43))) 1 (some (gK g 44))) 2 (some (gK g 45))) 3 (some (gK g 46)))) ∈ t0 := by rw [e0]; exact List.mem_cons_self
  have m1 : (u3, qA g 7 5 (va_up (va_up (va_up (va_up (va_up (fun _ => none) 0 (some (gK g 38))) 1 (some (gK g 39))) 2 (some (gK g 40))) 3 (some (gK g 41))) 4 (some (gK g 42)))) ∈ t0 := by rw [e0]; exact (List.mem_cons_of_mem _ List.mem_cons_self)
  have m2 : (u2, qA g 7 6 (va_up (va_up (va_up (va_up (va_up (va_up (fun _ => none) 0 (some (gK g 32))) 1 (some (gK g 33))) 2 (some (gK g 34))) 3 (some (gK g 35))) 4 (some (gK g 36))) 5 (some (gK g 37)))) ∈ t0 := by rw [e0]; exact (List.mem_cons_of_mem _ (List.mem_cons_of_mem _ List.mem_cons_self))
  have m3 : (u1, qA g 7 6 (va_up (va_up (va_up (va_up (va_up (va_up (fun _ => none) 0 (some (gK g iE))) 1 (some (gK g 27))) 2 (some (gK g 28))) 3 (some (gK g 29))) 4 (some (gK g 30))) 5 (some (gK g 31)))) ∈ t0 := by rw [e0]; exact (List.mem_cons_of_mem _ (List.mem_cons_of_mem _ (List.mem_cons_of_mem _ List.mem_cons_self)))
  have mt : ∀ p ∈ t, p ∈ t0 := fun p hp => by rw [e0]; exact (List.mem_cons_of_mem _ (List.mem_cons_of_mem _ (List.mem_cons_of_mem _ (List.mem_cons_of_mem _ hp))))
  have hoK := mt _ ho
  refine r_aload_n 4 dX11_text_128 rfl ?_
  refine r_getm (v := .int (25 : Int32)) (ci := 11) (fs := [.int (25 : Int32), .int (nI n), .int (nI o), va, vb]) dX11_text_129 fl_X11_7 hoK rfl ?_
  refine r_if_ne (tgt := 158) dX11_text_132 (by decide) (fun _ => ?_) (fun hc => absurd hc (by decide))
  refine r_aload_n 4 dX11_text_158 rfl ?_
  refine r_getm (v := .int (25 : Int32)) (ci := 11) (fs := [.int (25 : Int32), .int (nI n), .int (nI o), va, vb]) dX11_text_159 fl_X11_7 hoK rfl ?_
  refine r_iconst (v := (4 : Int32)) dX11_text_162 (by decide) ?_
  refine r_icmp_ge (tgt := 173) dX11_text_163 (by decide) (fun _ => ?_) (fun hc => absurd (by decide) hc)
  refine r_aload_n 4 dX11_text_173 rfl ?_
  refine r_getm (v := .int (25 : Int32)) (ci := 11) (fs := [.int (25 : Int32), .int (nI n), .int (nI o), va, vb]) dX11_text_174 fl_X11_7 hoK rfl ?_
  refine r_bipush (v := (6 : Int32)) dX11_text_177 (by decide) ?_
  refine r_icmp_ge (tgt := 214) dX11_text_179 (by decide) (fun _ => ?_) (fun hc => absurd (by decide) hc)
  refine r_aload_n 4 dX11_text_214 rfl ?_
  refine r_getm (v := .int (25 : Int32)) (ci := 11) (fs := [.int (25 : Int32), .int (nI n), .int (nI o), va, vb]) dX11_text_215 fl_X11_7 hoK rfl ?_
  refine r_bipush (v := (6 : Int32)) dX11_text_218 (by decide) ?_
  refine r_icmp_ne (tgt := 254) dX11_text_220 (by decide) (fun _ => ?_) (fun hc => absurd hc (by decide))
  refine r_aload_n 4 dX11_text_254 rfl ?_
  refine r_getm (v := .int (25 : Int32)) (ci := 11) (fs := [.int (25 : Int32), .int (nI n), .int (nI o), va, vb]) dX11_text_255 fl_X11_7 hoK rfl ?_
  refine r_bipush (v := (11 : Int32)) dX11_text_258 (by decide) ?_
  refine r_icmp_ge (tgt := 326) dX11_text_260 (by decide) (fun _ => ?_) (fun hc => absurd (by decide) hc)
  refine r_aload_n 4 dX11_text_326 rfl ?_
  refine r_getm (v := .int (25 : Int32)) (ci := 11) (fs := [.int (25 : Int32), .int (nI n), .int (nI o), va, vb]) dX11_text_327 fl_X11_7 hoK rfl ?_
  refine r_bipush (v := (13 : Int32)) dX11_text_330 (by decide) ?_
  refine r_icmp_ge (tgt := 388) dX11_text_332 (by decide) (fun _ => ?_) (fun hc => absurd (by decide) hc)
  refine r_aload_n 4 dX11_text_388 rfl ?_
  refine r_getm (v := .int (25 : Int32)) (ci := 11) (fs := [.int (25 : Int32), .int (nI n), .int (nI o), va, vb]) dX11_text_389 fl_X11_7 hoK rfl ?_
  refine r_bipush (v := (25 : Int32)) dX11_text_392 (by decide) ?_
  refine r_icmp_ge (tgt := 440) dX11_text_394 (by decide) (fun _ => ?_) (fun hc => absurd (by decide) hc)
  refine r_aload_n 4 dX11_text_440 rfl ?_
  refine r_getm (v := .int (25 : Int32)) (ci := 11) (fs := [.int (25 : Int32), .int (nI n), .int (nI o), va, vb]) dX11_text_441 fl_X11_7 hoK rfl ?_
  refine r_bipush (v := (25 : Int32)) dX11_text_444 (by decide) ?_
  refine r_icmp_ne (tgt := 491) dX11_text_446 (by decide) (fun hc => absurd (by decide) hc) (fun _ => ?_)
  refine r_new (N := 4) (x := ((16 * 2 ^ k - 16) + (16 * 2 ^ k - 16) + 11)) (y := ((33000 * 2 ^ k - 33000) + (33000 * 2 ^ k - 33000) + 32896)) dX11_text_449 nl_X11_110 (fun q16 => ?_)
  refine r_dup dX11_text_452 rfl ?_
  refine k_I (x := ((16 * 2 ^ k - 16) + (16 * 2 ^ k - 16) + 10)) (y := ((33000 * 2 ^ k - 33000) + (33000 * 2 ^ k - 33000) + 32880)) (rest := [.ref q16]) dX11_text_453 ki_X11_112 (cj_sb) rfl rfl (Nat.le_of_ble_eq_true rfl) (by first | exact hd3 | exact hd6 | exact hd7) (by decide) ?_
  rintro bv570 -
  show R g mX11_text (k + 1 + 8) ((16 * 2 ^ k - 16) + (16 * 2 ^ k - 16) + 10) ((33000 * 2 ^ k - 33000) + (33000 * 2 ^ k - 33000) + 32880) 456 [(4, .ref u4), (3, .ref u3), (2, .ref u2), (1, .ref u1), (0, .ref a)] [.ref q16] ((q16, .inr (13, [.ref bv570, .int (0 : Int32), .int (0 : Int32), .int (nI ([] : List Int32).length)])) :: ((bv570, yA g 16 (fun _ => 0)) :: t0)) _
  refine r_aload 0 dX11_text_456 rfl ?_
  refine r_iconst (v := (0 : Int32)) dX11_text_458 (by decide) ?_
  refine r_aaldm (t := 7) (n := 4) (f := (va_up (va_up (va_up (va_up (fun _ => none) 0 (some (gK g 43))) 1 (some (gK g 44))) 2 (some (gK g 45))) 3 (some (gK g 46)))) (v := .ref (gK g 43)) dX11_text_459 rfl rfl (List.mem_cons_of_mem _ (List.mem_cons_of_mem _ m0)) (by decide) (by rfl) ?_
  obtain ⟨L576, eL577⟩ : ∃ L9 : List Int32, L9 = ([] : List Int32) ++ kT 43 := ⟨_, rfl⟩
  have bn575 : L576.length ≤ 12 := by rw [eL577]; exact lnA (L := ([] : List Int32)) (L2 := kT 43) (n := 0) (n2 := 12) (Nat.le_refl 0) (Nat.le_of_eq kl_43)
  refine k_V (x := ((16 * 2 ^ k - 16) + (16 * 2 ^ k - 16) + 9)) (y := ((33000 * 2 ^ k - 33000) + (33000 * 2 ^ k - 33000) + 28878)) (rest := []) 0 dX11_text_460 kv_X11_113 (cj_apK (i := 43) (by decide) eL577 BL.nil (Nat.le_trans bn575 (by decide))) rfl rfl rfl rfl (Nat.le_of_ble_eq_true rfl) (by first | exact hd3 | exact hd6 | exact hd7) (by decide) ?_
  rintro ⟨bv571, bm572, bf573⟩ bh574
  try dsimp only at bh574
  show R g mX11_text (k + 1 + 8) ((16 * 2 ^ k - 16) + (16 * 2 ^ k - 16) + 9) ((33000 * 2 ^ k - 33000) + (33000 * 2 ^ k - 33000) + 28878) 463 [(4, .ref u4), (3, .ref u3), (2, .ref u2), (1, .ref u1), (0, .ref a)] [.ref q16] ((q16, .inr (13, [.ref bv571, .int (0 : Int32), .int (0 : Int32), .int (nI L576.length)])) :: ((bv571, yA g bm572 bf573) :: t0)) _
  refine r_aload_n 4 dX11_text_463 rfl ?_
  refine r_getm (v := .int (nI n)) (ci := 11) (fs := [.int (25 : Int32), .int (nI n), .int (nI o), va, vb]) dX11_text_464 fl_X11_13 (List.mem_cons_of_mem _ (List.mem_cons_of_mem _ hoK)) rfl ?_
  obtain ⟨L583, eL584⟩ : ∃ L9 : List Int32, L9 = L576 ++ dgL n := ⟨_, rfl⟩
  have bn582 : L583.length ≤ 13 := by rw [eL584]; exact lnA (L := L576) (L2 := dgL n) (n := 12) (n2 := 1) bn575 (dgL_t1 hb)
  refine k_V (x := ((16 * 2 ^ k - 16) + (16 * 2 ^ k - 16) + 8)) (y := ((33000 * 2 ^ k - 33000) + (33000 * 2 ^ k - 33000) + 24876)) (rest := []) 0 dX11_text_467 kv_X11_117 (cj_apI (x9 := n) (Nat.lt_trans hb (by decide)) eL584 bh574 (Nat.le_trans bn582 (by decide))) rfl rfl rfl rfl (Nat.le_of_ble_eq_true rfl) (by first | exact hd3 | exact hd6 | exact hd7) (by decide) ?_
  rintro ⟨bv578, bm579, bf580⟩ bh581
  try dsimp only at bh581
  show R g mX11_text (k + 1 + 8) ((16 * 2 ^ k - 16) + (16 * 2 ^ k - 16) + 8) ((33000 * 2 ^ k - 33000) + (33000 * 2 ^ k - 33000) + 24876) 470 [(4, .ref u4), (3, .ref u3), (2, .ref u2), (1, .ref u1), (0, .ref a)] [.ref q16] ((q16, .inr (13, [.ref bv578, .int (0 : Int32), .int (0 : Int32), .int (nI L583.length)])) :: ((bv578, yA g bm579 bf580) :: t0)) _
  refine r_ldcS (i := 52) dX11_text_470 rfl ?_
  obtain ⟨L590, eL591⟩ : ∃ L9 : List Int32, L9 = L583 ++ kT 52 := ⟨_, rfl⟩
  have bn589 : L590.length ≤ 15 := by rw [eL591]; exact lnA (L := L583) (L2 := kT 52) (n := 13) (n2 := 2) bn582 (Nat.le_of_eq kl_52)
  refine k_V (x := ((16 * 2 ^ k - 16) + (16 * 2 ^ k - 16) + 7)) (y := ((33000 * 2 ^ k - 33000) + (33000 * 2 ^ k - 33000) + 20874)) (rest := []) 0 dX11_text_472 kv_X11_113 (cj_apK (i := 52) (by decide) eL591 bh581 (Nat.le_trans bn589 (by decide))) rfl rfl rfl rfl (Nat.le_of_ble_eq_true rfl) (by first | exact hd3 | exact hd6 | exact hd7) (by decide) ?_
  rintro ⟨bv585, bm586, bf587⟩ bh588
  try dsimp only at bh588
  show R g mX11_text (k + 1 + 8) ((16 * 2 ^ k - 16) + (16 * 2 ^ k - 16) + 7) ((33000 * 2 ^ k - 33000) + (33000 * 2 ^ k - 33000) + 20874) 475 [(4, .ref u4), (3, .ref u3), (2, .ref u2), (1, .ref u1), (0, .ref a)] [.ref q16] ((q16, .inr (13, [.ref bv585, .int (0 : Int32), .int (0 : Int32), .int (nI L590.length)])) :: ((bv585, yA g bm586 bf587) :: t0)) _
  refine r_aload_n 4 dX11_text_475 rfl ?_
  refine r_getm (v := .int (nI o)) (ci := 11) (fs := [.int (25 : Int32), .int (nI n), .int (nI o), va, vb]) dX11_text_476 fl_X11_48 (List.mem_cons_of_mem _ (List.mem_cons_of_mem _ hoK)) rfl ?_
  obtain ⟨L597, eL598⟩ : ∃ L9 : List Int32, L9 = L590 ++ dgL o := ⟨_, rfl⟩
  have bn596 : L597.length ≤ 16 := by rw [eL598]; exact lnA (L := L590) (L2 := dgL o) (n := 15) (n2 := 1) bn589 (dgL_t1 hb2)
  refine k_V (x := ((16 * 2 ^ k - 16) + (16 * 2 ^ k - 16) + 6)) (y := ((33000 * 2 ^ k - 33000) + (33000 * 2 ^ k - 33000) + 16872)) (rest := []) 0 dX11_text_479 kv_X11_117 (cj_apI (x9 := o) (Nat.lt_trans hb2 (by decide)) eL598 bh588 (Nat.le_trans bn596 (by decide))) rfl rfl rfl rfl (Nat.le_of_ble_eq_true rfl) (by first | exact hd3 | exact hd6 | exact hd7) (by decide) ?_
  rintro ⟨bv592, bm593, bf594⟩ bh595
  try dsimp only at bh595
  show R g mX11_text (k + 1 + 8) ((16 * 2 ^ k - 16) + (16 * 2 ^ k - 16) + 6) ((33000 * 2 ^ k - 33000) + (33000 * 2 ^ k - 33000) + 16872) 482 [(4, .ref u4), (3, .ref u3), (2, .ref u2), (1, .ref u1), (0, .ref a)] [.ref q16] ((q16, .inr (13, [.ref bv592, .int (0 : Int32), .int (0 : Int32), .int (nI L597.length)])) :: ((bv592, yA g bm593 bf594) :: t0)) _
  refine r_ldcS (i := 47) dX11_text_482 rfl ?_
  obtain ⟨L604, eL605⟩ : ∃ L9 : List Int32, L9 = L597 ++ kT 47 := ⟨_, rfl⟩
  have bn603 : L604.length ≤ 17 := by rw [eL605]; exact lnA (L := L597) (L2 := kT 47) (n := 16) (n2 := 1) bn596 (Nat.le_of_eq kl_47)
  refine k_V (x := ((16 * 2 ^ k - 16) + (16 * 2 ^ k - 16) + 5)) (y := ((33000 * 2 ^ k - 33000) + (33000 * 2 ^ k - 33000) + 12870)) (rest := []) 0 dX11_text_484 kv_X11_113 (cj_apK (i := 47) (by decide) eL605 bh595 (Nat.le_trans bn603 (by decide))) rfl rfl rfl rfl (Nat.le_of_ble_eq_true rfl) (by first | exact hd3 | exact hd6 | exact hd7) (by decide) ?_
  rintro ⟨bv599, bm600, bf601⟩ bh602
  try dsimp only at bh602
  show R g mX11_text (k + 1 + 8) ((16 * 2 ^ k - 16) + (16 * 2 ^ k - 16) + 5) ((33000 * 2 ^ k - 33000) + (33000 * 2 ^ k - 33000) + 12870) 487 [(4, .ref u4), (3, .ref u3), (2, .ref u2), (1, .ref u1), (0, .ref a)] [.ref q16] ((q16, .inr (13, [.ref bv599, .int (0 : Int32), .int (0 : Int32), .int (nI L604.length)])) :: ((bv599, yA g bm600 bf601) :: t0)) _
  refine k_V (x := ((16 * 2 ^ k - 16) + (16 * 2 ^ k - 16) + 3)) (y := ((33000 * 2 ^ k - 33000) + (33000 * 2 ^ k - 33000) + 8864)) (rest := []) 0 dX11_text_487 kv_X11_120 (cj_strB bh602) rfl rfl rfl rfl (Nat.le_of_ble_eq_true rfl) (by first | exact hd3 | exact hd6 | exact hd7) (by decide) ?_
  rintro ⟨ts606, tb607, tf608⟩ th609
  try dsimp only at th609
  show R g mX11_text (k + 1 + 8) ((16 * 2 ^ k - 16) + (16 * 2 ^ k - 16) + 3) ((33000 * 2 ^ k - 33000) + (33000 * 2 ^ k - 33000) + 8864) 490 [(4, .ref u4), (3, .ref u3), (2, .ref u2), (1, .ref u1), (0, .ref a)] [.ref ts606] ((ts606, .inr (12, [.ref tb607, .int (0 : Int32), .int (0 : Int32), .int (0 : Int32)])) :: ((tb607, yA g L604.length tf608) :: ((q16, .inr (13, [.ref bv599, .int (0 : Int32), .int (0 : Int32), .int (nI L604.length)])) :: ((bv599, yA g bm600 bf601) :: t0)))) _
  rw [e0]
  refine r_seg (ws2 := ((ts606, .inr (12, [.ref tb607, .int (0 : Int32), .int (0 : Int32), .int (0 : Int32)])) :: ((tb607, yA g L604.length tf608) :: t))) [[(ts606, .inr (12, [.ref tb607, .int (0 : Int32), .int (0 : Int32), .int (0 : Int32)]))], [(tb607, yA g L604.length tf608)], [(q16, .inr (13, [.ref bv599, .int (0 : Int32), .int (0 : Int32), .int (nI L604.length)]))], [(bv599, yA g bm600 bf601)], [(u4, qA g 7 4 (va_up (va_up (va_up (va_up (fun _ => none) 0 (some (gK g 43))) 1 (some (gK g 44))) 2 (some (gK g 45))) 3 (some (gK g 46))))], [(u3, qA g 7 5 (va_up (va_up (va_up (va_up (va_up (fun _ => none) 0 (some (gK g 38))) 1 (some (gK g 39))) 2 (some (gK g 40))) 3 (some (gK g 41))) 4 (some (gK g 42))))], [(u2, qA g 7 6 (va_up (va_up (va_up (va_up (va_up (va_up (fun _ => none) 0 (some (gK g 32))) 1 (some (gK g 33))) 2 (some (gK g 34))) 3 (some (gK g 35))) 4 (some (gK g 36))) 5 (some (gK g 37))))], [(u1, qA g 7 6 (va_up (va_up (va_up (va_up (va_up (va_up (fun _ => none) 0 (some (gK g iE))) 1 (some (gK g 27))) 2 (some (gK g 28))) 3 (some (gK g 29))) 4 (some (gK g 30))) 5 (some (gK g 31))))], t] [0, 1, 8] rfl rfl rfl ?_
  subst eL605
  subst eL598
  subst eL591
  subst eL584
  subst eL577
  refine r_aret dX11_text_490 rfl rfl (Or.inr ⟨_, rfl⟩) ?_
  exact Dq.mk (Sum.inr (ts606, tb607, tf608)) rfl rfl th609
set_option maxRecDepth 20000 in
set_option maxHeartbeats 8000000 in
theorem tx_29 {g : GG} {ne nt k a n o u1 u2 u3 u4 : Nat} {t t0 : va_W} {x : TT k} {vb : Value} (IH : TextH g ne nt k) (e0 : t0 = ((u4, qA g 7 4 (va_up (va_up (va_up (va_up (fun _ => none) 0 (some (gK g 43))) 1 (some (gK g 44))) 2 (some (gK g 45))) 3 (some (gK g 46)))) :: ((u3, qA g 7 5 (va_up (va_up (va_up (va_up (va_up (fun _ => none) 0 (some (gK g 38))) 1 (some (gK g 39))) 2 (some (gK g 40))) 3 (some (gK g 41))) 4 (some (gK g 42)))) :: ((u2, qA g 7 6 (va_up (va_up (va_up (va_up (va_up (va_up (fun _ => none) 0 (some (gK g 32))) 1 (some (gK g 33))) 2 (some (gK g 34))) 3 (some (gK g 35))) 4 (some (gK g 36))) 5 (some (gK g 37)))) :: ((u1, qA g 7 6 (va_up (va_up (va_up (va_up (va_up (va_up (fun _ => none) 0 (some (gK g iE))) 1 (some (gK g 27))) 2 (some (gK g 28))) 3 (some (gK g 29))) 4 (some (gK g 30))) 5 (some (gK g 31)))) :: t))))) (hk5 : k ≤ 5) (hn : nt ≤ 10) (hne : ne ≤ 10) (ho : (a, .inr (11, [.int (29 : Int32), .int (nI n), .int (nI o), .ref (tA k x), vb])) ∈ t) (hmx : TM g t k x) (hx : TE ne nt k x ∨ TB ne nt k x) : R g mX11_text (k + 1 + 8) ((16 * 2 ^ k - 16) + (16 * 2 ^ k - 16) + 12) ((33000 * 2 ^ k - 33000) + (33000 * 2 ^ k - 33000) + 32900) 128 [(4, .ref u4), (3, .ref u3), (2, .ref u2), (1, .ref u1), (0, .ref a)] [] t0 (Dq (fun (z : SZ) => some (sv g z)) (fun z => sw g (((([] : List Int32) ++ kT 53) ++ (txt k x)) ++ kT 54).length z ++ t) (fun z => sP (((([] : List Int32) ++ kT 53) ++ (txt k x)) ++ kT 54) z)) := by
  have hd3 : 3 + 1 ≤ k + 1 + 8 := by omega
  have hd6 : 6 + 1 ≤ k + 1 + 8 := by omega
  have hd7 : 7 + 1 ≤ k + 1 + 8 := by omega
  have hp5 : 2 ^ k ≤ 32 := Nat.le_trans (Nat.pow_le_pow_right (by decide) hk5) (by decide)
  have hlk : 12 * 2 ^ k - 7 ≤ 377 := by omega
  have lx := Nat.le_trans (txt_len hne hn k x hx) hlk
  have m0 : (u4, qA g 7 4 (va_up (va_up (va_up (va_up (fun _ => none) 0 (some (gK g 43))) 1 (some (gK g 44))) 2 (some (gK g 45))) 3 (some (gK g 46)))) ∈ t0 := by rw [e0]; exact List.mem_cons_self
  have m1 : (u3, qA g 7 5 (va_up (va_up (va_up (va_up (va_up (fun _ => none) 0 (some (gK g 38))) 1 (some (gK g 39))) 2 (some (gK g 40))) 3 (some (gK g 41))) 4 (some (gK g 42)))) ∈ t0 := by rw [e0]; exact (List.mem_cons_of_mem _ List.mem_cons_self)
  have m2 : (u2, qA g 7 6 (va_up (va_up (va_up (va_up (va_up (va_up (fun _ => none) 0 (some (gK g 32))) 1 (some (gK g 33))) 2 (some (gK g 34))) 3 (some (gK g 35))) 4 (some (gK g 36))) 5 (some (gK g 37)))) ∈ t0 := by rw [e0]; exact (List.mem_cons_of_mem _ (List.mem_cons_of_mem _ List.mem_cons_self))
  have m3 : (u1, qA g 7 6 (va_up (va_up (va_up (va_up (va_up (va_up (fun _ => none) 0 (some (gK g iE))) 1 (some (gK g 27))) 2 (some (gK g 28))) 3 (some (gK g 29))) 4 (some (gK g 30))) 5 (some (gK g 31)))) ∈ t0 := by rw [e0]; exact (List.mem_cons_of_mem _ (List.mem_cons_of_mem _ (List.mem_cons_of_mem _ List.mem_cons_self)))
  have mt : ∀ p ∈ t, p ∈ t0 := fun p hp => by rw [e0]; exact (List.mem_cons_of_mem _ (List.mem_cons_of_mem _ (List.mem_cons_of_mem _ (List.mem_cons_of_mem _ hp))))
  have hoK := mt _ ho
  refine r_aload_n 4 dX11_text_128 rfl ?_
  refine r_getm (v := .int (29 : Int32)) (ci := 11) (fs := [.int (29 : Int32), .int (nI n), .int (nI o), .ref (tA k x), vb]) dX11_text_129 fl_X11_7 hoK rfl ?_
  refine r_if_ne (tgt := 158) dX11_text_132 (by decide) (fun _ => ?_) (fun hc => absurd hc (by decide))
  refine r_aload_n 4 dX11_text_158 rfl ?_
  refine r_getm (v := .int (29 : Int32)) (ci := 11) (fs := [.int (29 : Int32), .int (nI n), .int (nI o), .ref (tA k x), vb]) dX11_text_159 fl_X11_7 hoK rfl ?_
  refine r_iconst (v := (4 : Int32)) dX11_text_162 (by decide) ?_
  refine r_icmp_ge (tgt := 173) dX11_text_163 (by decide) (fun _ => ?_) (fun hc => absurd (by decide) hc)
  refine r_aload_n 4 dX11_text_173 rfl ?_
  refine r_getm (v := .int (29 : Int32)) (ci := 11) (fs := [.int (29 : Int32), .int (nI n), .int (nI o), .ref (tA k x), vb]) dX11_text_174 fl_X11_7 hoK rfl ?_
  refine r_bipush (v := (6 : Int32)) dX11_text_177 (by decide) ?_
  refine r_icmp_ge (tgt := 214) dX11_text_179 (by decide) (fun _ => ?_) (fun hc => absurd (by decide) hc)
  refine r_aload_n 4 dX11_text_214 rfl ?_
  refine r_getm (v := .int (29 : Int32)) (ci := 11) (fs := [.int (29 : Int32), .int (nI n), .int (nI o), .ref (tA k x), vb]) dX11_text_215 fl_X11_7 hoK rfl ?_
  refine r_bipush (v := (6 : Int32)) dX11_text_218 (by decide) ?_
  refine r_icmp_ne (tgt := 254) dX11_text_220 (by decide) (fun _ => ?_) (fun hc => absurd hc (by decide))
  refine r_aload_n 4 dX11_text_254 rfl ?_
  refine r_getm (v := .int (29 : Int32)) (ci := 11) (fs := [.int (29 : Int32), .int (nI n), .int (nI o), .ref (tA k x), vb]) dX11_text_255 fl_X11_7 hoK rfl ?_
  refine r_bipush (v := (11 : Int32)) dX11_text_258 (by decide) ?_
  refine r_icmp_ge (tgt := 326) dX11_text_260 (by decide) (fun _ => ?_) (fun hc => absurd (by decide) hc)
  refine r_aload_n 4 dX11_text_326 rfl ?_
  refine r_getm (v := .int (29 : Int32)) (ci := 11) (fs := [.int (29 : Int32), .int (nI n), .int (nI o), .ref (tA k x), vb]) dX11_text_327 fl_X11_7 hoK rfl ?_
  refine r_bipush (v := (13 : Int32)) dX11_text_330 (by decide) ?_
  refine r_icmp_ge (tgt := 388) dX11_text_332 (by decide) (fun _ => ?_) (fun hc => absurd (by decide) hc)
  refine r_aload_n 4 dX11_text_388 rfl ?_
  refine r_getm (v := .int (29 : Int32)) (ci := 11) (fs := [.int (29 : Int32), .int (nI n), .int (nI o), .ref (tA k x), vb]) dX11_text_389 fl_X11_7 hoK rfl ?_
  refine r_bipush (v := (25 : Int32)) dX11_text_392 (by decide) ?_
  refine r_icmp_ge (tgt := 440) dX11_text_394 (by decide) (fun _ => ?_) (fun hc => absurd (by decide) hc)
  refine r_aload_n 4 dX11_text_440 rfl ?_
  refine r_getm (v := .int (29 : Int32)) (ci := 11) (fs := [.int (29 : Int32), .int (nI n), .int (nI o), .ref (tA k x), vb]) dX11_text_441 fl_X11_7 hoK rfl ?_
  refine r_bipush (v := (25 : Int32)) dX11_text_444 (by decide) ?_
  refine r_icmp_ne (tgt := 491) dX11_text_446 (by decide) (fun _ => ?_) (fun hc => absurd hc (by decide))
  refine r_aload_n 4 dX11_text_491 rfl ?_
  refine r_getm (v := .int (29 : Int32)) (ci := 11) (fs := [.int (29 : Int32), .int (nI n), .int (nI o), .ref (tA k x), vb]) dX11_text_492 fl_X11_7 hoK rfl ?_
  refine r_bipush (v := (29 : Int32)) dX11_text_495 (by decide) ?_
  refine r_icmp_ge (tgt := 536) dX11_text_497 (by decide) (fun _ => ?_) (fun hc => absurd (by decide) hc)
  refine r_aload_n 4 dX11_text_536 rfl ?_
  refine r_getm (v := .int (29 : Int32)) (ci := 11) (fs := [.int (29 : Int32), .int (nI n), .int (nI o), .ref (tA k x), vb]) dX11_text_537 fl_X11_7 hoK rfl ?_
  refine r_bipush (v := (29 : Int32)) dX11_text_540 (by decide) ?_
  refine r_icmp_ne (tgt := 578) dX11_text_542 (by decide) (fun hc => absurd (by decide) hc) (fun _ => ?_)
  refine r_new (N := 4) (x := ((16 * 2 ^ k - 16) + (16 * 2 ^ k - 16) + 11)) (y := ((33000 * 2 ^ k - 33000) + (33000 * 2 ^ k - 33000) + 32896)) dX11_text_545 nl_X11_110 (fun q20 => ?_)
  refine r_dup dX11_text_548 rfl ?_
  refine k_I (x := ((16 * 2 ^ k - 16) + (16 * 2 ^ k - 16) + 10)) (y := ((33000 * 2 ^ k - 33000) + (33000 * 2 ^ k - 33000) + 32880)) (rest := [.ref q20]) dX11_text_549 ki_X11_112 (cj_sb) rfl rfl (Nat.le_of_ble_eq_true rfl) (by first | exact hd3 | exact hd6 | exact hd7) (by decide) ?_
  rintro bv688 -
  show R g mX11_text (k + 1 + 8) ((16 * 2 ^ k - 16) + (16 * 2 ^ k - 16) + 10) ((33000 * 2 ^ k - 33000) + (33000 * 2 ^ k - 33000) + 32880) 552 [(4, .ref u4), (3, .ref u3), (2, .ref u2), (1, .ref u1), (0, .ref a)] [.ref q20] ((q20, .inr (13, [.ref bv688, .int (0 : Int32), .int (0 : Int32), .int (nI ([] : List Int32).length)])) :: ((bv688, yA g 16 (fun _ => 0)) :: t0)) _
  refine r_ldcS (i := 53) dX11_text_552 rfl ?_
  obtain ⟨L694, eL695⟩ : ∃ L9 : List Int32, L9 = ([] : List Int32) ++ kT 53 := ⟨_, rfl⟩
  have bn693 : L694.length ≤ 4 := by rw [eL695]; exact lnA (L := ([] : List Int32)) (L2 := kT 53) (n := 0) (n2 := 4) (Nat.le_refl 0) (Nat.le_of_eq kl_53)
  refine k_V (x := ((16 * 2 ^ k - 16) + (16 * 2 ^ k - 16) + 9)) (y := ((33000 * 2 ^ k - 33000) + (33000 * 2 ^ k - 33000) + 28878)) (rest := []) 0 dX11_text_554 kv_X11_113 (cj_apK (i := 53) (by decide) eL695 BL.nil (Nat.le_trans bn693 (by decide))) rfl rfl rfl rfl (Nat.le_of_ble_eq_true rfl) (by first | exact hd3 | exact hd6 | exact hd7) (by decide) ?_
  rintro ⟨bv689, bm690, bf691⟩ bh692
  try dsimp only at bh692
  show R g mX11_text (k + 1 + 8) ((16 * 2 ^ k - 16) + (16 * 2 ^ k - 16) + 9) ((33000 * 2 ^ k - 33000) + (33000 * 2 ^ k - 33000) + 28878) 557 [(4, .ref u4), (3, .ref u3), (2, .ref u2), (1, .ref u1), (0, .ref a)] [.ref q20] ((q20, .inr (13, [.ref bv689, .int (0 : Int32), .int (0 : Int32), .int (nI L694.length)])) :: ((bv689, yA g bm690 bf691) :: t0)) _
  refine r_aload_n 4 dX11_text_557 rfl ?_
  refine r_getm (v := .ref (tA k x)) (ci := 11) (fs := [.int (29 : Int32), .int (nI n), .int (nI o), .ref (tA k x), vb]) dX11_text_558 fl_X11_40 (List.mem_cons_of_mem _ (List.mem_cons_of_mem _ hoK)) rfl ?_
  obtain ⟨fszz696, hfzz696⟩ := TM.cell k x hmx
  refine r_room (x2 := ((16 * 2 ^ k - 16) + 9) + (16 * 2 ^ k - 16)) (y2 := ((33000 * 2 ^ k - 33000) + 28878) + (33000 * 2 ^ k - 33000)) (Nat.le_of_eq (Nat.add_right_comm _ _ _)) (Nat.le_of_eq (Nat.add_right_comm _ _ _)) ?_
  refine k_Vm (x := ((16 * 2 ^ k - 16) + 9)) (y := ((33000 * 2 ^ k - 33000) + 28878)) (rest := [.ref q20]) dX11_text_561 kv_X11_128 (IH x _ (TM.mono (fun p hp => (List.mem_cons_of_mem _ (List.mem_cons_of_mem _ (mt p hp)))) k x hmx) hx) rfl rfl (List.mem_cons_of_mem _ (List.mem_cons_of_mem _ (mt _ hfzz696))) rfl (Nat.le_of_ble_eq_true rfl) (Nat.le_of_eq (Nat.add_right_comm _ _ _)) (by decide) ?_
  rintro zz696 hz697
  refine r_seg (ws2 := ((q20, .inr (13, [.ref bv689, .int (0 : Int32), .int (0 : Int32), .int (nI L694.length)])) :: ((bv689, yA g bm690 bf691) :: ((sw g (txt k x).length zz696) ++ t0)))) [sw g (txt k x).length zz696, [(q20, .inr (13, [.ref bv689, .int (0 : Int32), .int (0 : Int32), .int (nI L694.length)]))], [(bv689, yA g bm690 bf691)], t0] [1, 2, 0, 3] rfl rfl rfl ?_
  obtain ⟨L703, eL704⟩ : ∃ L9 : List Int32, L9 = L694 ++ txt k x := ⟨_, rfl⟩
  have bn702 : L703.length ≤ 381 := by rw [eL704]; exact lnA (L := L694) (L2 := txt k x) (n := 4) (n2 := 377) bn693 (lx)
  refine k_V (x := ((16 * 2 ^ k - 16) + 8)) (y := ((33000 * 2 ^ k - 33000) + 24876)) (rest := []) 0 dX11_text_564 kv_X11_113 (cj_apX (L2 := txt k x) (z := zz696) hz697 eL704 bh692 (Nat.le_trans bn702 (by decide))) rfl rfl rfl rfl (Nat.le_of_ble_eq_true rfl) (by first | exact hd3 | exact hd6 | exact hd7) (by decide) ?_
  rintro ⟨bv698, bm699, bf700⟩ bh701
  try dsimp only at bh701
  show R g mX11_text (k + 1 + 8) ((16 * 2 ^ k - 16) + 8) ((33000 * 2 ^ k - 33000) + 24876) 567 [(4, .ref u4), (3, .ref u3), (2, .ref u2), (1, .ref u1), (0, .ref a)] [.ref q20] ((q20, .inr (13, [.ref bv698, .int (0 : Int32), .int (0 : Int32), .int (nI L703.length)])) :: ((bv698, yA g bm699 bf700) :: ((sw g (txt k x).length zz696) ++ t0))) _
  refine r_seg (ws2 := ((q20, .inr (13, [.ref bv698, .int (0 : Int32), .int (0 : Int32), .int (nI L703.length)])) :: ((bv698, yA g bm699 bf700) :: t0))) [[(q20, .inr (13, [.ref bv698, .int (0 : Int32), .int (0 : Int32), .int (nI L703.length)]))], [(bv698, yA g bm699 bf700)], sw g (txt k x).length zz696, t0] [0, 1, 3] rfl rfl rfl ?_
  refine r_ldcS (i := 54) dX11_text_567 rfl ?_
  obtain ⟨L710, eL711⟩ : ∃ L9 : List Int32, L9 = L703 ++ kT 54 := ⟨_, rfl⟩
  have bn709 : L710.length ≤ 382 := by rw [eL711]; exact lnA (L := L703) (L2 := kT 54) (n := 381) (n2 := 1) bn702 (Nat.le_of_eq kl_54)
  refine k_V (x := ((16 * 2 ^ k - 16) + 7)) (y := ((33000 * 2 ^ k - 33000) + 20874)) (rest := []) 0 dX11_text_569 kv_X11_113 (cj_apK (i := 54) (by decide) eL711 bh701 (Nat.le_trans bn709 (by decide))) rfl rfl rfl rfl (Nat.le_of_ble_eq_true rfl) (by first | exact hd3 | exact hd6 | exact hd7) (by decide) ?_
  rintro ⟨bv705, bm706, bf707⟩ bh708
  try dsimp only at bh708
  show R g mX11_text (k + 1 + 8) ((16 * 2 ^ k - 16) + 7) ((33000 * 2 ^ k - 33000) + 20874) 572 [(4, .ref u4), (3, .ref u3), (2, .ref u2), (1, .ref u1), (0, .ref a)] [.ref q20] ((q20, .inr (13, [.ref bv705, .int (0 : Int32), .int (0 : Int32), .int (nI L710.length)])) :: ((bv705, yA g bm706 bf707) :: t0)) _
  refine k_V (x := ((16 * 2 ^ k - 16) + 5)) (y := ((33000 * 2 ^ k - 33000) + 16868)) (rest := []) 0 dX11_text_572 kv_X11_120 (cj_strB bh708) rfl rfl rfl rfl (Nat.le_of_ble_eq_true rfl) (by first | exact hd3 | exact hd6 | exact hd7) (by decide) ?_
  rintro ⟨ts712, tb713, tf714⟩ th715
  try dsimp only at th715
  show R g mX11_text (k + 1 + 8) ((16 * 2 ^ k - 16) + 5) ((33000 * 2 ^ k - 33000) + 16868) 575 [(4, .ref u4), (3, .ref u3), (2, .ref u2), (1, .ref u1), (0, .ref a)] [.ref ts712] ((ts712, .inr (12, [.ref tb713, .int (0 : Int32), .int (0 : Int32), .int (0 : Int32)])) :: ((tb713, yA g L710.length tf714) :: ((q20, .inr (13, [.ref bv705, .int (0 : Int32), .int (0 : Int32), .int (nI L710.length)])) :: ((bv705, yA g bm706 bf707) :: t0)))) _
  refine r_goto (tgt := 647) dX11_text_575 (by decide) ?_
  rw [e0]
  refine r_seg (ws2 := ((ts712, .inr (12, [.ref tb713, .int (0 : Int32), .int (0 : Int32), .int (0 : Int32)])) :: ((tb713, yA g L710.length tf714) :: t))) [[(ts712, .inr (12, [.ref tb713, .int (0 : Int32), .int (0 : Int32), .int (0 : Int32)]))], [(tb713, yA g L710.length tf714)], [(q20, .inr (13, [.ref bv705, .int (0 : Int32), .int (0 : Int32), .int (nI L710.length)]))], [(bv705, yA g bm706 bf707)], [(u4, qA g 7 4 (va_up (va_up (va_up (va_up (fun _ => none) 0 (some (gK g 43))) 1 (some (gK g 44))) 2 (some (gK g 45))) 3 (some (gK g 46))))], [(u3, qA g 7 5 (va_up (va_up (va_up (va_up (va_up (fun _ => none) 0 (some (gK g 38))) 1 (some (gK g 39))) 2 (some (gK g 40))) 3 (some (gK g 41))) 4 (some (gK g 42))))], [(u2, qA g 7 6 (va_up (va_up (va_up (va_up (va_up (va_up (fun _ => none) 0 (some (gK g 32))) 1 (some (gK g 33))) 2 (some (gK g 34))) 3 (some (gK g 35))) 4 (some (gK g 36))) 5 (some (gK g 37))))], [(u1, qA g 7 6 (va_up (va_up (va_up (va_up (va_up (va_up (fun _ => none) 0 (some (gK g iE))) 1 (some (gK g 27))) 2 (some (gK g 28))) 3 (some (gK g 29))) 4 (some (gK g 30))) 5 (some (gK g 31))))], t] [0, 1, 8] rfl rfl rfl ?_
  subst eL711
  subst eL704
  subst eL695
  refine r_aret dX11_text_647 rfl rfl (Or.inr ⟨_, rfl⟩) ?_
  exact Dq.mk (Sum.inr (ts712, tb713, tf714)) rfl rfl th715
set_option maxRecDepth 20000 in
set_option maxHeartbeats 8000000 in
theorem tx_30 {g : GG} {ne nt k a n o u1 u2 u3 u4 : Nat} {t t0 : va_W} {x y : TT k} (IH : TextH g ne nt k) (e0 : t0 = ((u4, qA g 7 4 (va_up (va_up (va_up (va_up (fun _ => none) 0 (some (gK g 43))) 1 (some (gK g 44))) 2 (some (gK g 45))) 3 (some (gK g 46)))) :: ((u3, qA g 7 5 (va_up (va_up (va_up (va_up (va_up (fun _ => none) 0 (some (gK g 38))) 1 (some (gK g 39))) 2 (some (gK g 40))) 3 (some (gK g 41))) 4 (some (gK g 42)))) :: ((u2, qA g 7 6 (va_up (va_up (va_up (va_up (va_up (va_up (fun _ => none) 0 (some (gK g 32))) 1 (some (gK g 33))) 2 (some (gK g 34))) 3 (some (gK g 35))) 4 (some (gK g 36))) 5 (some (gK g 37)))) :: ((u1, qA g 7 6 (va_up (va_up (va_up (va_up (va_up (va_up (fun _ => none) 0 (some (gK g iE))) 1 (some (gK g 27))) 2 (some (gK g 28))) 3 (some (gK g 29))) 4 (some (gK g 30))) 5 (some (gK g 31)))) :: t))))) (hk5 : k ≤ 5) (hn : nt ≤ 10) (hne : ne ≤ 10) (ho : (a, .inr (11, [.int (30 : Int32), .int (nI n), .int (nI o), .ref (tA k x), .ref (tA k y)])) ∈ t) (hmx : TM g t k x) (hx : TE ne nt k x ∨ TB ne nt k x) (hmy : TM g t k y) (hy : TE ne nt k y ∨ TB ne nt k y) : R g mX11_text (k + 1 + 8) ((16 * 2 ^ k - 16) + (16 * 2 ^ k - 16) + 12) ((33000 * 2 ^ k - 33000) + (33000 * 2 ^ k - 33000) + 32900) 128 [(4, .ref u4), (3, .ref u3), (2, .ref u2), (1, .ref u1), (0, .ref a)] [] t0 (Dq (fun (z : SZ) => some (sv g z)) (fun z => sw g (((((((([] : List Int32) ++ kT 55) ++ (txt k x)) ++ kT 54) ++ kT 56) ++ kT 55) ++ (txt k y)) ++ kT 54).length z ++ t) (fun z => sP (((((((([] : List Int32) ++ kT 55) ++ (txt k x)) ++ kT 54) ++ kT 56) ++ kT 55) ++ (txt k y)) ++ kT 54) z)) := by
  have hd3 : 3 + 1 ≤ k + 1 + 8 := by omega
  have hd6 : 6 + 1 ≤ k + 1 + 8 := by omega
  have hd7 : 7 + 1 ≤ k + 1 + 8 := by omega
  have hp5 : 2 ^ k ≤ 32 := Nat.le_trans (Nat.pow_le_pow_right (by decide) hk5) (by decide)
  have hlk : 12 * 2 ^ k - 7 ≤ 377 := by omega
  have lx := Nat.le_trans (txt_len hne hn k x hx) hlk
  have ly := Nat.le_trans (txt_len hne hn k y hy) hlk
  have m0 : (u4, qA g 7 4 (va_up (va_up (va_up (va_up (fun _ => none) 0 (some (gK g 43))) 1 (some (gK g 44))) 2 (some (gK g 45))) 3 (some (gK g 46)))) ∈ t0 := by rw [e0]; exact List.mem_cons_self
  have m1 : (u3, qA g 7 5 (va_up (va_up (va_up (va_up (va_up (fun _ => none) 0 (some (gK g 38))) 1 (some (gK g 39))) 2 (some (gK g 40))) 3 (some (gK g 41))) 4 (some (gK g 42)))) ∈ t0 := by rw [e0]; exact (List.mem_cons_of_mem _ List.mem_cons_self)
  have m2 : (u2, qA g 7 6 (va_up (va_up (va_up (va_up (va_up (va_up (fun _ => none) 0 (some (gK g 32))) 1 (some (gK g 33))) 2 (some (gK g 34))) 3 (some (gK g 35))) 4 (some (gK g 36))) 5 (some (gK g 37)))) ∈ t0 := by rw [e0]; exact (List.mem_cons_of_mem _ (List.mem_cons_of_mem _ List.mem_cons_self))
  have m3 : (u1, qA g 7 6 (va_up (va_up (va_up (va_up (va_up (va_up (fun _ => none) 0 (some (gK g iE))) 1 (some (gK g 27))) 2 (some (gK g 28))) 3 (some (gK g 29))) 4 (some (gK g 30))) 5 (some (gK g 31)))) ∈ t0 := by rw [e0]; exact (List.mem_cons_of_mem _ (List.mem_cons_of_mem _ (List.mem_cons_of_mem _ List.mem_cons_self)))
  have mt : ∀ p ∈ t, p ∈ t0 := fun p hp => by rw [e0]; exact (List.mem_cons_of_mem _ (List.mem_cons_of_mem _ (List.mem_cons_of_mem _ (List.mem_cons_of_mem _ hp))))
  have hoK := mt _ ho
  refine r_aload_n 4 dX11_text_128 rfl ?_
  refine r_getm (v := .int (30 : Int32)) (ci := 11) (fs := [.int (30 : Int32), .int (nI n), .int (nI o), .ref (tA k x), .ref (tA k y)]) dX11_text_129 fl_X11_7 hoK rfl ?_
  refine r_if_ne (tgt := 158) dX11_text_132 (by decide) (fun _ => ?_) (fun hc => absurd hc (by decide))
  refine r_aload_n 4 dX11_text_158 rfl ?_
  refine r_getm (v := .int (30 : Int32)) (ci := 11) (fs := [.int (30 : Int32), .int (nI n), .int (nI o), .ref (tA k x), .ref (tA k y)]) dX11_text_159 fl_X11_7 hoK rfl ?_
  refine r_iconst (v := (4 : Int32)) dX11_text_162 (by decide) ?_
  refine r_icmp_ge (tgt := 173) dX11_text_163 (by decide) (fun _ => ?_) (fun hc => absurd (by decide) hc)
  refine r_aload_n 4 dX11_text_173 rfl ?_
  refine r_getm (v := .int (30 : Int32)) (ci := 11) (fs := [.int (30 : Int32), .int (nI n), .int (nI o), .ref (tA k x), .ref (tA k y)]) dX11_text_174 fl_X11_7 hoK rfl ?_
  refine r_bipush (v := (6 : Int32)) dX11_text_177 (by decide) ?_
  refine r_icmp_ge (tgt := 214) dX11_text_179 (by decide) (fun _ => ?_) (fun hc => absurd (by decide) hc)
  refine r_aload_n 4 dX11_text_214 rfl ?_
  refine r_getm (v := .int (30 : Int32)) (ci := 11) (fs := [.int (30 : Int32), .int (nI n), .int (nI o), .ref (tA k x), .ref (tA k y)]) dX11_text_215 fl_X11_7 hoK rfl ?_
  refine r_bipush (v := (6 : Int32)) dX11_text_218 (by decide) ?_
  refine r_icmp_ne (tgt := 254) dX11_text_220 (by decide) (fun _ => ?_) (fun hc => absurd hc (by decide))
  refine r_aload_n 4 dX11_text_254 rfl ?_
  refine r_getm (v := .int (30 : Int32)) (ci := 11) (fs := [.int (30 : Int32), .int (nI n), .int (nI o), .ref (tA k x), .ref (tA k y)]) dX11_text_255 fl_X11_7 hoK rfl ?_
  refine r_bipush (v := (11 : Int32)) dX11_text_258 (by decide) ?_
  refine r_icmp_ge (tgt := 326) dX11_text_260 (by decide) (fun _ => ?_) (fun hc => absurd (by decide) hc)
  refine r_aload_n 4 dX11_text_326 rfl ?_
  refine r_getm (v := .int (30 : Int32)) (ci := 11) (fs := [.int (30 : Int32), .int (nI n), .int (nI o), .ref (tA k x), .ref (tA k y)]) dX11_text_327 fl_X11_7 hoK rfl ?_
  refine r_bipush (v := (13 : Int32)) dX11_text_330 (by decide) ?_
  refine r_icmp_ge (tgt := 388) dX11_text_332 (by decide) (fun _ => ?_) (fun hc => absurd (by decide) hc)
  refine r_aload_n 4 dX11_text_388 rfl ?_
  refine r_getm (v := .int (30 : Int32)) (ci := 11) (fs := [.int (30 : Int32), .int (nI n), .int (nI o), .ref (tA k x), .ref (tA k y)]) dX11_text_389 fl_X11_7 hoK rfl ?_
  refine r_bipush (v := (25 : Int32)) dX11_text_392 (by decide) ?_
  refine r_icmp_ge (tgt := 440) dX11_text_394 (by decide) (fun _ => ?_) (fun hc => absurd (by decide) hc)
  refine r_aload_n 4 dX11_text_440 rfl ?_
  refine r_getm (v := .int (30 : Int32)) (ci := 11) (fs := [.int (30 : Int32), .int (nI n), .int (nI o), .ref (tA k x), .ref (tA k y)]) dX11_text_441 fl_X11_7 hoK rfl ?_
  refine r_bipush (v := (25 : Int32)) dX11_text_444 (by decide) ?_
  refine r_icmp_ne (tgt := 491) dX11_text_446 (by decide) (fun _ => ?_) (fun hc => absurd hc (by decide))
  refine r_aload_n 4 dX11_text_491 rfl ?_
  refine r_getm (v := .int (30 : Int32)) (ci := 11) (fs := [.int (30 : Int32), .int (nI n), .int (nI o), .ref (tA k x), .ref (tA k y)]) dX11_text_492 fl_X11_7 hoK rfl ?_
  refine r_bipush (v := (29 : Int32)) dX11_text_495 (by decide) ?_
  refine r_icmp_ge (tgt := 536) dX11_text_497 (by decide) (fun _ => ?_) (fun hc => absurd (by decide) hc)
  refine r_aload_n 4 dX11_text_536 rfl ?_
  refine r_getm (v := .int (30 : Int32)) (ci := 11) (fs := [.int (30 : Int32), .int (nI n), .int (nI o), .ref (tA k x), .ref (tA k y)]) dX11_text_537 fl_X11_7 hoK rfl ?_
  refine r_bipush (v := (29 : Int32)) dX11_text_540 (by decide) ?_
  refine r_icmp_ne (tgt := 578) dX11_text_542 (by decide) (fun _ => ?_) (fun hc => absurd hc (by decide))
  refine r_new (N := 4) (x := ((16 * 2 ^ k - 16) + (16 * 2 ^ k - 16) + 11)) (y := ((33000 * 2 ^ k - 33000) + (33000 * 2 ^ k - 33000) + 32896)) dX11_text_578 nl_X11_110 (fun q21 => ?_)
  refine r_dup dX11_text_581 rfl ?_
  refine k_I (x := ((16 * 2 ^ k - 16) + (16 * 2 ^ k - 16) + 10)) (y := ((33000 * 2 ^ k - 33000) + (33000 * 2 ^ k - 33000) + 32880)) (rest := [.ref q21]) dX11_text_582 ki_X11_112 (cj_sb) rfl rfl (Nat.le_of_ble_eq_true rfl) (by first | exact hd3 | exact hd6 | exact hd7) (by decide) ?_
  rintro bv716 -
  show R g mX11_text (k + 1 + 8) ((16 * 2 ^ k - 16) + (16 * 2 ^ k - 16) + 10) ((33000 * 2 ^ k - 33000) + (33000 * 2 ^ k - 33000) + 32880) 585 [(4, .ref u4), (3, .ref u3), (2, .ref u2), (1, .ref u1), (0, .ref a)] [.ref q21] ((q21, .inr (13, [.ref bv716, .int (0 : Int32), .int (0 : Int32), .int (nI ([] : List Int32).length)])) :: ((bv716, yA g 16 (fun _ => 0)) :: t0)) _
  refine r_ldcS (i := 55) dX11_text_585 rfl ?_
  obtain ⟨L722, eL723⟩ : ∃ L9 : List Int32, L9 = ([] : List Int32) ++ kT 55 := ⟨_, rfl⟩
  have bn721 : L722.length ≤ 1 := by rw [eL723]; exact lnA (L := ([] : List Int32)) (L2 := kT 55) (n := 0) (n2 := 1) (Nat.le_refl 0) (Nat.le_of_eq kl_55)
  refine k_V (x := ((16 * 2 ^ k - 16) + (16 * 2 ^ k - 16) + 9)) (y := ((33000 * 2 ^ k - 33000) + (33000 * 2 ^ k - 33000) + 28878)) (rest := []) 0 dX11_text_587 kv_X11_113 (cj_apK (i := 55) (by decide) eL723 BL.nil (Nat.le_trans bn721 (by decide))) rfl rfl rfl rfl (Nat.le_of_ble_eq_true rfl) (by first | exact hd3 | exact hd6 | exact hd7) (by decide) ?_
  rintro ⟨bv717, bm718, bf719⟩ bh720
  try dsimp only at bh720
  show R g mX11_text (k + 1 + 8) ((16 * 2 ^ k - 16) + (16 * 2 ^ k - 16) + 9) ((33000 * 2 ^ k - 33000) + (33000 * 2 ^ k - 33000) + 28878) 590 [(4, .ref u4), (3, .ref u3), (2, .ref u2), (1, .ref u1), (0, .ref a)] [.ref q21] ((q21, .inr (13, [.ref bv717, .int (0 : Int32), .int (0 : Int32), .int (nI L722.length)])) :: ((bv717, yA g bm718 bf719) :: t0)) _
  refine r_aload_n 4 dX11_text_590 rfl ?_
  refine r_getm (v := .ref (tA k x)) (ci := 11) (fs := [.int (30 : Int32), .int (nI n), .int (nI o), .ref (tA k x), .ref (tA k y)]) dX11_text_591 fl_X11_40 (List.mem_cons_of_mem _ (List.mem_cons_of_mem _ hoK)) rfl ?_
  obtain ⟨fszz724, hfzz724⟩ := TM.cell k x hmx
  refine r_room (x2 := ((16 * 2 ^ k - 16) + 9) + (16 * 2 ^ k - 16)) (y2 := ((33000 * 2 ^ k - 33000) + 28878) + (33000 * 2 ^ k - 33000)) (Nat.le_of_eq (Nat.add_right_comm _ _ _)) (Nat.le_of_eq (Nat.add_right_comm _ _ _)) ?_
  refine k_Vm (x := ((16 * 2 ^ k - 16) + 9)) (y := ((33000 * 2 ^ k - 33000) + 28878)) (rest := [.ref q21]) dX11_text_594 kv_X11_128 (IH x _ (TM.mono (fun p hp => (List.mem_cons_of_mem _ (List.mem_cons_of_mem _ (mt p hp)))) k x hmx) hx) rfl rfl (List.mem_cons_of_mem _ (List.mem_cons_of_mem _ (mt _ hfzz724))) rfl (Nat.le_of_ble_eq_true rfl) (Nat.le_of_eq (Nat.add_right_comm _ _ _)) (by decide) ?_
  rintro zz724 hz725
  refine r_seg (ws2 := ((q21, .inr (13, [.ref bv717, .int (0 : Int32), .int (0 : Int32), .int (nI L722.length)])) :: ((bv717, yA g bm718 bf719) :: ((sw g (txt k x).length zz724) ++ t0)))) [sw g (txt k x).length zz724, [(q21, .inr (13, [.ref bv717, .int (0 : Int32), .int (0 : Int32), .int (nI L722.length)]))], [(bv717, yA g bm718 bf719)], t0] [1, 2, 0, 3] rfl rfl rfl ?_
  obtain ⟨L731, eL732⟩ : ∃ L9 : List Int32, L9 = L722 ++ txt k x := ⟨_, rfl⟩
  have bn730 : L731.length ≤ 378 := by rw [eL732]; exact lnA (L := L722) (L2 := txt k x) (n := 1) (n2 := 377) bn721 (lx)
  refine k_V (x := ((16 * 2 ^ k - 16) + 8)) (y := ((33000 * 2 ^ k - 33000) + 24876)) (rest := []) 0 dX11_text_597 kv_X11_113 (cj_apX (L2 := txt k x) (z := zz724) hz725 eL732 bh720 (Nat.le_trans bn730 (by decide))) rfl rfl rfl rfl (Nat.le_of_ble_eq_true rfl) (by first | exact hd3 | exact hd6 | exact hd7) (by decide) ?_
  rintro ⟨bv726, bm727, bf728⟩ bh729
  try dsimp only at bh729
  show R g mX11_text (k + 1 + 8) ((16 * 2 ^ k - 16) + 8) ((33000 * 2 ^ k - 33000) + 24876) 600 [(4, .ref u4), (3, .ref u3), (2, .ref u2), (1, .ref u1), (0, .ref a)] [.ref q21] ((q21, .inr (13, [.ref bv726, .int (0 : Int32), .int (0 : Int32), .int (nI L731.length)])) :: ((bv726, yA g bm727 bf728) :: ((sw g (txt k x).length zz724) ++ t0))) _
  refine r_seg (ws2 := ((q21, .inr (13, [.ref bv726, .int (0 : Int32), .int (0 : Int32), .int (nI L731.length)])) :: ((bv726, yA g bm727 bf728) :: t0))) [[(q21, .inr (13, [.ref bv726, .int (0 : Int32), .int (0 : Int32), .int (nI L731.length)]))], [(bv726, yA g bm727 bf728)], sw g (txt k x).length zz724, t0] [0, 1, 3] rfl rfl rfl ?_
  refine r_ldcS (i := 54) dX11_text_600 rfl ?_
  obtain ⟨L738, eL739⟩ : ∃ L9 : List Int32, L9 = L731 ++ kT 54 := ⟨_, rfl⟩
  have bn737 : L738.length ≤ 379 := by rw [eL739]; exact lnA (L := L731) (L2 := kT 54) (n := 378) (n2 := 1) bn730 (Nat.le_of_eq kl_54)
  refine k_V (x := ((16 * 2 ^ k - 16) + 7)) (y := ((33000 * 2 ^ k - 33000) + 20874)) (rest := []) 0 dX11_text_602 kv_X11_113 (cj_apK (i := 54) (by decide) eL739 bh729 (Nat.le_trans bn737 (by decide))) rfl rfl rfl rfl (Nat.le_of_ble_eq_true rfl) (by first | exact hd3 | exact hd6 | exact hd7) (by decide) ?_
  rintro ⟨bv733, bm734, bf735⟩ bh736
  try dsimp only at bh736
  show R g mX11_text (k + 1 + 8) ((16 * 2 ^ k - 16) + 7) ((33000 * 2 ^ k - 33000) + 20874) 605 [(4, .ref u4), (3, .ref u3), (2, .ref u2), (1, .ref u1), (0, .ref a)] [.ref q21] ((q21, .inr (13, [.ref bv733, .int (0 : Int32), .int (0 : Int32), .int (nI L738.length)])) :: ((bv733, yA g bm734 bf735) :: t0)) _
  refine r_aload_n 4 dX11_text_605 rfl ?_
  refine r_getm (v := .int (30 : Int32)) (ci := 11) (fs := [.int (30 : Int32), .int (nI n), .int (nI o), .ref (tA k x), .ref (tA k y)]) dX11_text_606 fl_X11_7 (List.mem_cons_of_mem _ (List.mem_cons_of_mem _ hoK)) rfl ?_
  refine r_bipush (v := (30 : Int32)) dX11_text_609 (by decide) ?_
  refine r_icmp_ne (tgt := 619) dX11_text_611 (by decide) (fun hc => absurd (by decide) hc) (fun _ => ?_)
  refine r_ldcS (i := 56) dX11_text_614 rfl ?_
  refine r_goto (tgt := 621) dX11_text_616 (by decide) ?_
  obtain ⟨L745, eL746⟩ : ∃ L9 : List Int32, L9 = L738 ++ kT 56 := ⟨_, rfl⟩
  have bn744 : L745.length ≤ 382 := by rw [eL746]; exact lnA (L := L738) (L2 := kT 56) (n := 379) (n2 := 3) bn737 (Nat.le_of_eq kl_56)
  refine k_V (x := ((16 * 2 ^ k - 16) + 6)) (y := ((33000 * 2 ^ k - 33000) + 16872)) (rest := []) 0 dX11_text_621 kv_X11_113 (cj_apK (i := 56) (by decide) eL746 bh736 (Nat.le_trans bn744 (by decide))) rfl rfl rfl rfl (Nat.le_of_ble_eq_true rfl) (by first | exact hd3 | exact hd6 | exact hd7) (by decide) ?_
  rintro ⟨bv740, bm741, bf742⟩ bh743
  try dsimp only at bh743
  show R g mX11_text (k + 1 + 8) ((16 * 2 ^ k - 16) + 6) ((33000 * 2 ^ k - 33000) + 16872) 624 [(4, .ref u4), (3, .ref u3), (2, .ref u2), (1, .ref u1), (0, .ref a)] [.ref q21] ((q21, .inr (13, [.ref bv740, .int (0 : Int32), .int (0 : Int32), .int (nI L745.length)])) :: ((bv740, yA g bm741 bf742) :: t0)) _
  refine r_ldcS (i := 55) dX11_text_624 rfl ?_
  obtain ⟨L752, eL753⟩ : ∃ L9 : List Int32, L9 = L745 ++ kT 55 := ⟨_, rfl⟩
  have bn751 : L752.length ≤ 383 := by rw [eL753]; exact lnA (L := L745) (L2 := kT 55) (n := 382) (n2 := 1) bn744 (Nat.le_of_eq kl_55)
  refine k_V (x := ((16 * 2 ^ k - 16) + 5)) (y := ((33000 * 2 ^ k - 33000) + 12870)) (rest := []) 0 dX11_text_626 kv_X11_113 (cj_apK (i := 55) (by decide) eL753 bh743 (Nat.le_trans bn751 (by decide))) rfl rfl rfl rfl (Nat.le_of_ble_eq_true rfl) (by first | exact hd3 | exact hd6 | exact hd7) (by decide) ?_
  rintro ⟨bv747, bm748, bf749⟩ bh750
  try dsimp only at bh750
  show R g mX11_text (k + 1 + 8) ((16 * 2 ^ k - 16) + 5) ((33000 * 2 ^ k - 33000) + 12870) 629 [(4, .ref u4), (3, .ref u3), (2, .ref u2), (1, .ref u1), (0, .ref a)] [.ref q21] ((q21, .inr (13, [.ref bv747, .int (0 : Int32), .int (0 : Int32), .int (nI L752.length)])) :: ((bv747, yA g bm748 bf749) :: t0)) _
  refine r_aload_n 4 dX11_text_629 rfl ?_
  refine r_getm (v := .ref (tA k y)) (ci := 11) (fs := [.int (30 : Int32), .int (nI n), .int (nI o), .ref (tA k x), .ref (tA k y)]) dX11_text_630 fl_X11_59 (List.mem_cons_of_mem _ (List.mem_cons_of_mem _ hoK)) rfl ?_
  obtain ⟨fszz754, hfzz754⟩ := TM.cell k y hmy
  refine r_room (x2 := 5 + (16 * 2 ^ k - 16)) (y2 := 12870 + (33000 * 2 ^ k - 33000)) (Nat.le_of_eq (Nat.add_comm _ _)) (Nat.le_of_eq (Nat.add_comm _ _)) ?_
  refine k_Vm (x := 5) (y := 12870) (rest := [.ref q21]) dX11_text_633 kv_X11_128 (IH y _ (TM.mono (fun p hp => (List.mem_cons_of_mem _ (List.mem_cons_of_mem _ (mt p hp)))) k y hmy) hy) rfl rfl (List.mem_cons_of_mem _ (List.mem_cons_of_mem _ (mt _ hfzz754))) rfl (Nat.le_of_ble_eq_true rfl) (Nat.le_of_eq (Nat.add_right_comm _ _ _)) (by decide) ?_
  rintro zz754 hz755
  refine r_seg (ws2 := ((q21, .inr (13, [.ref bv747, .int (0 : Int32), .int (0 : Int32), .int (nI L752.length)])) :: ((bv747, yA g bm748 bf749) :: ((sw g (txt k y).length zz754) ++ t0)))) [sw g (txt k y).length zz754, [(q21, .inr (13, [.ref bv747, .int (0 : Int32), .int (0 : Int32), .int (nI L752.length)]))], [(bv747, yA g bm748 bf749)], t0] [1, 2, 0, 3] rfl rfl rfl ?_
  obtain ⟨L761, eL762⟩ : ∃ L9 : List Int32, L9 = L752 ++ txt k y := ⟨_, rfl⟩
  have bn760 : L761.length ≤ 760 := by rw [eL762]; exact lnA (L := L752) (L2 := txt k y) (n := 383) (n2 := 377) bn751 (ly)
  refine k_V (x := 4) (y := 8868) (rest := []) 0 dX11_text_636 kv_X11_113 (cj_apX (L2 := txt k y) (z := zz754) hz755 eL762 bh750 (Nat.le_trans bn760 (by decide))) rfl rfl rfl rfl (Nat.le_of_ble_eq_true rfl) (by first | exact hd3 | exact hd6 | exact hd7) (by decide) ?_
  rintro ⟨bv756, bm757, bf758⟩ bh759
  try dsimp only at bh759
  show R g mX11_text (k + 1 + 8) 4 8868 639 [(4, .ref u4), (3, .ref u3), (2, .ref u2), (1, .ref u1), (0, .ref a)] [.ref q21] ((q21, .inr (13, [.ref bv756, .int (0 : Int32), .int (0 : Int32), .int (nI L761.length)])) :: ((bv756, yA g bm757 bf758) :: ((sw g (txt k y).length zz754) ++ t0))) _
  refine r_seg (ws2 := ((q21, .inr (13, [.ref bv756, .int (0 : Int32), .int (0 : Int32), .int (nI L761.length)])) :: ((bv756, yA g bm757 bf758) :: t0))) [[(q21, .inr (13, [.ref bv756, .int (0 : Int32), .int (0 : Int32), .int (nI L761.length)]))], [(bv756, yA g bm757 bf758)], sw g (txt k y).length zz754, t0] [0, 1, 3] rfl rfl rfl ?_
  refine r_ldcS (i := 54) dX11_text_639 rfl ?_
  obtain ⟨L768, eL769⟩ : ∃ L9 : List Int32, L9 = L761 ++ kT 54 := ⟨_, rfl⟩
  have bn767 : L768.length ≤ 761 := by rw [eL769]; exact lnA (L := L761) (L2 := kT 54) (n := 760) (n2 := 1) bn760 (Nat.le_of_eq kl_54)
  refine k_V (x := 3) (y := 4866) (rest := []) 0 dX11_text_641 kv_X11_113 (cj_apK (i := 54) (by decide) eL769 bh759 (Nat.le_trans bn767 (by decide))) rfl rfl rfl rfl (Nat.le_of_ble_eq_true rfl) (by first | exact hd3 | exact hd6 | exact hd7) (by decide) ?_
  rintro ⟨bv763, bm764, bf765⟩ bh766
  try dsimp only at bh766
  show R g mX11_text (k + 1 + 8) 3 4866 644 [(4, .ref u4), (3, .ref u3), (2, .ref u2), (1, .ref u1), (0, .ref a)] [.ref q21] ((q21, .inr (13, [.ref bv763, .int (0 : Int32), .int (0 : Int32), .int (nI L768.length)])) :: ((bv763, yA g bm764 bf765) :: t0)) _
  refine k_V (x := 1) (y := 860) (rest := []) 0 dX11_text_644 kv_X11_120 (cj_strB bh766) rfl rfl rfl rfl (Nat.le_of_ble_eq_true rfl) (by first | exact hd3 | exact hd6 | exact hd7) (by decide) ?_
  rintro ⟨ts770, tb771, tf772⟩ th773
  try dsimp only at th773
  show R g mX11_text (k + 1 + 8) 1 860 647 [(4, .ref u4), (3, .ref u3), (2, .ref u2), (1, .ref u1), (0, .ref a)] [.ref ts770] ((ts770, .inr (12, [.ref tb771, .int (0 : Int32), .int (0 : Int32), .int (0 : Int32)])) :: ((tb771, yA g L768.length tf772) :: ((q21, .inr (13, [.ref bv763, .int (0 : Int32), .int (0 : Int32), .int (nI L768.length)])) :: ((bv763, yA g bm764 bf765) :: t0)))) _
  rw [e0]
  refine r_seg (ws2 := ((ts770, .inr (12, [.ref tb771, .int (0 : Int32), .int (0 : Int32), .int (0 : Int32)])) :: ((tb771, yA g L768.length tf772) :: t))) [[(ts770, .inr (12, [.ref tb771, .int (0 : Int32), .int (0 : Int32), .int (0 : Int32)]))], [(tb771, yA g L768.length tf772)], [(q21, .inr (13, [.ref bv763, .int (0 : Int32), .int (0 : Int32), .int (nI L768.length)]))], [(bv763, yA g bm764 bf765)], [(u4, qA g 7 4 (va_up (va_up (va_up (va_up (fun _ => none) 0 (some (gK g 43))) 1 (some (gK g 44))) 2 (some (gK g 45))) 3 (some (gK g 46))))], [(u3, qA g 7 5 (va_up (va_up (va_up (va_up (va_up (fun _ => none) 0 (some (gK g 38))) 1 (some (gK g 39))) 2 (some (gK g 40))) 3 (some (gK g 41))) 4 (some (gK g 42))))], [(u2, qA g 7 6 (va_up (va_up (va_up (va_up (va_up (va_up (fun _ => none) 0 (some (gK g 32))) 1 (some (gK g 33))) 2 (some (gK g 34))) 3 (some (gK g 35))) 4 (some (gK g 36))) 5 (some (gK g 37))))], [(u1, qA g 7 6 (va_up (va_up (va_up (va_up (va_up (va_up (fun _ => none) 0 (some (gK g iE))) 1 (some (gK g 27))) 2 (some (gK g 28))) 3 (some (gK g 29))) 4 (some (gK g 30))) 5 (some (gK g 31))))], t] [0, 1, 8] rfl rfl rfl ?_
  subst eL769
  subst eL762
  subst eL753
  subst eL746
  subst eL739
  subst eL732
  subst eL723
  refine r_aret dX11_text_647 rfl rfl (Or.inr ⟨_, rfl⟩) ?_
  exact Dq.mk (Sum.inr (ts770, tb771, tf772)) rfl rfl th773
