set_option maxRecDepth 20000 in
set_option maxHeartbeats 4000000 in
theorem cl_decide {g : GG} {t : va_W} {s aC aD aO aT ne nt : Nat} {ev cr : Int32} {ca : List Nat} {cl : List (Nat → Int32)} {d : Nat} {r b0 b1 b2 bo ag : Nat} {ra : Nat → Nat} (hS : SimM g t s aC aD aO aT ne nt ev cr ca cl d) (hn : nt ≤ 10) (hbo : (bo, qA g 4 3 (bestF b0 b1 b2)) ∈ t) (hag : (ag, qA g 5 nt (fun i => if i < nt then some (ra i) else none)) ∈ t) (har : ∀ i, i < nt → (ra i, zA g nt (agF cl d nt nt 0 i)) ∈ t) : ∀ k z (q : Nat × Nat × Nat), k ≤ nt → z < 2 ^ (nt - k) → q.1 < 2 ^ nt → q.2.2 ≤ 99 → Ct g mX10_decide (k + 1) 0 0 [.ref s, .int (nI (nt - k)), .ref r, .int (nI (pcN z)), .ref bo, .ref ag] ((r, iA g nt (dbF z)) :: (b0, iA g nt (dbF q.1)) :: (b1, iA g 1 (o1 (nI q.2.1))) :: (b2, iA g 1 (o1 (nI q.2.2))) :: t) (Dv none ((r, iA g nt (dbF z)) :: (b0, iA g nt (dbF (dcd cl d nt k z q).1)) :: (b1, iA g 1 (o1 (nI (dcd cl d nt k z q).2.1))) :: (b2, iA g 1 (o1 (nI (dcd cl d nt k z q).2.2))) :: t)) := by
  intro k
  induction k with
  | zero =>
    intro z q hk hz h1 h2
    have hp : pcN z ≤ 10 := pcN_le z (Nat.lt_of_lt_of_le hz (Nat.pow_le_pow_right (by decide) (by omega) : 2 ^ (nt - (0)) ≤ 2 ^ 10))
    refine Ct.ofR (by decide +kernel) rfl (Nat.le_of_ble_eq_true rfl) ?_
    show R g mX10_decide (0 + 1) 0 0 0 [(0, .ref s), (1, .int (nI (nt - 0))), (2, .ref r), (3, .int (nI (pcN z))), (4, .ref bo), (5, .ref ag)] [] ((r, iA g nt (dbF z)) :: ((b0, iA g nt (dbF q.1)) :: ((b1, iA g 1 (o1 (nI q.2.1))) :: ((b2, iA g 1 (o1 (nI q.2.2))) :: t)))) _
    refine r_iload_n 3 dX10_decide_0 rfl ?_
    refine r_aload 4 dX10_decide_1 rfl ?_
    refine r_iconst (v := (2 : Int32)) dX10_decide_3 (by decide) ?_
    refine r_aaldm (t := 4) (n := 3) (f := (bestF b0 b1 b2)) (v := .ref b2) dX10_decide_4 rfl rfl (List.mem_cons_of_mem _ (List.mem_cons_of_mem _ (List.mem_cons_of_mem _ (List.mem_cons_of_mem _ hbo)))) (by decide) (by rw [cl2]; rfl) ?_
    refine r_iconst (v := (0 : Int32)) dX10_decide_5 (by decide) ?_
    refine r_ialdm (n := 1) (f := (o1 (nI q.2.2))) dX10_decide_6 (List.mem_cons_of_mem _ (List.mem_cons_of_mem _ (List.mem_cons_of_mem _ List.mem_cons_self))) (by decide) ?_
    refine r_top (w := .int (nI q.2.2)) (by rw [cl0]; rfl) ?_
    refine r_icmp_le (tgt := 11) dX10_decide_7 (by decide) (fun hc => ?_) (fun hc => ?_)
    · have c1 : ¬ q.2.2 < pcN z := by have := (nI_leI (a := pcN z) (b := q.2.2) (by omega) (by omega)).mp hc; omega
      refine r_iload_n 1 dX10_decide_11 rfl ?_
      refine r_aload_n 0 dX10_decide_12 rfl ?_
      refine r_getm (v := .int (nI nt)) (ci := 10) (fs := [.int (nI ne), .int (nI nt), .ref aC, .ref aD, .ref aO, .ref aT, .int ev, .int cr]) dX10_decide_13 fl_X10_33 (List.mem_cons_of_mem _ (List.mem_cons_of_mem _ (List.mem_cons_of_mem _ (List.mem_cons_of_mem _ hS.1)))) rfl ?_
      refine r_icmp_ne (tgt := 83) dX10_decide_16 (by decide) (fun hc => absurd (rfl) hc) (fun _ => ?_)
      refine r_iload_n 3 dX10_decide_19 rfl ?_
      refine r_aload 4 dX10_decide_20 rfl ?_
      refine r_iconst (v := (2 : Int32)) dX10_decide_22 (by decide) ?_
      refine r_aaldm (t := 4) (n := 3) (f := (bestF b0 b1 b2)) (v := .ref b2) dX10_decide_23 rfl rfl (List.mem_cons_of_mem _ (List.mem_cons_of_mem _ (List.mem_cons_of_mem _ (List.mem_cons_of_mem _ hbo)))) (by decide) (by rw [cl2]; rfl) ?_
      refine r_iconst (v := (0 : Int32)) dX10_decide_24 (by decide) ?_
      refine r_ialdm (n := 1) (f := (o1 (nI q.2.2))) dX10_decide_25 (List.mem_cons_of_mem _ (List.mem_cons_of_mem _ (List.mem_cons_of_mem _ List.mem_cons_self))) (by decide) ?_
      refine r_top (w := .int (nI q.2.2)) (by rw [cl0]; rfl) ?_
      refine r_icmp_ge (tgt := 65) dX10_decide_26 (by decide) (fun hc2 => ?_) (fun hc2 => ?_)
      · have c2 : q.2.2 = pcN z := by have := (nI_leI (a := q.2.2) (b := pcN z) (by omega) (by omega)).mp hc2; omega
        refine r_aload 4 dX10_decide_65 rfl ?_
        refine r_iconst (v := (2 : Int32)) dX10_decide_67 (by decide) ?_
        refine r_aaldm (t := 4) (n := 3) (f := (bestF b0 b1 b2)) (v := .ref b2) dX10_decide_68 rfl rfl (List.mem_cons_of_mem _ (List.mem_cons_of_mem _ (List.mem_cons_of_mem _ (List.mem_cons_of_mem _ hbo)))) (by decide) (by rw [cl2]; rfl) ?_
        refine r_iconst (v := (0 : Int32)) dX10_decide_69 (by decide) ?_
        refine r_iload_n 3 dX10_decide_70 rfl ?_
        refine r_iast (ws2 := ((r, iA g nt (dbF z)) :: ((b0, iA g nt (dbF q.1)) :: ((b1, iA g 1 (o1 (nI q.2.1))) :: ((b2, iA g 1 (o1 (nI (pcN z)))) :: t))))) 3 dX10_decide_71 rfl (by decide) (by rw [cl0, o1_u] <;> rfl) ?_
        refine r_aload 4 dX10_decide_72 rfl ?_
        refine r_iconst (v := (1 : Int32)) dX10_decide_74 (by decide) ?_
        refine r_aaldm (t := 4) (n := 3) (f := (bestF b0 b1 b2)) (v := .ref b1) dX10_decide_75 rfl rfl (List.mem_cons_of_mem _ (List.mem_cons_of_mem _ (List.mem_cons_of_mem _ (List.mem_cons_of_mem _ hbo)))) (by decide) (by rw [cl1]; rfl) ?_
        refine r_iconst (v := (0 : Int32)) dX10_decide_76 (by decide) ?_
        refine r_dup2 dX10_decide_77 rfl rfl ?_
        refine r_ialdm (n := 1) (f := (o1 (nI q.2.1))) dX10_decide_78 (List.mem_cons_of_mem _ (List.mem_cons_of_mem _ List.mem_cons_self)) (by decide) ?_
        refine r_top (w := .int (nI q.2.1)) (by rw [cl0]; rfl) ?_
        refine r_iconst (v := (1 : Int32)) dX10_decide_79 (by decide) ?_
        refine r_iadd dX10_decide_80 ?_
        refine r_top (w := .int (nI (q.2.1 + 1))) (by rw [← nI_1]) ?_
        refine r_iast (ws2 := ((r, iA g nt (dbF z)) :: ((b0, iA g nt (dbF q.1)) :: ((b1, iA g 1 (o1 (nI (q.2.1 + 1)))) :: ((b2, iA g 1 (o1 (nI (pcN z)))) :: t))))) 2 dX10_decide_81 rfl (by decide) (by rw [cl0, o1_u] <;> rfl) ?_
        refine r_vret dX10_decide_82 rfl ?_
        exact ⟨rfl, by rw [dcd, if_neg c1, if_neg (by omega), ← c2]⟩
      · have c2 : pcN z < q.2.2 := by have : ¬ _ := fun h => hc2 ((nI_leI (a := q.2.2) (b := pcN z) (by omega) (by omega)).mpr h); omega
        refine r_aload 4 dX10_decide_29 rfl ?_
        refine r_iconst (v := (1 : Int32)) dX10_decide_31 (by decide) ?_
        refine r_aaldm (t := 4) (n := 3) (f := (bestF b0 b1 b2)) (v := .ref b1) dX10_decide_32 rfl rfl (List.mem_cons_of_mem _ (List.mem_cons_of_mem _ (List.mem_cons_of_mem _ (List.mem_cons_of_mem _ hbo)))) (by decide) (by rw [cl1]; rfl) ?_
        refine r_iconst (v := (0 : Int32)) dX10_decide_33 (by decide) ?_
        refine r_iconst (v := (0 : Int32)) dX10_decide_34 (by decide) ?_
        refine r_iast (ws2 := ((r, iA g nt (dbF z)) :: ((b0, iA g nt (dbF q.1)) :: ((b1, iA g 1 (o1 (nI 0))) :: ((b2, iA g 1 (o1 (nI q.2.2))) :: t))))) 2 dX10_decide_35 rfl (by decide) (by rw [cl0, o1_u]; rfl) ?_
        refine r_iconst (v := (0 : Int32)) dX10_decide_36 (by decide) ?_
        refine r_top (w := .int (nI 0)) (rfl) ?_
        refine r_istore [(6, .int (nI 0)), (0, .ref s), (1, .int (nI (nt - 0))), (2, .ref r), (3, .int (nI (pcN z))), (4, .ref bo), (5, .ref ag)] dX10_decide_37 (by decide) rfl ?_
        have L : ∀ m j, m + j = nt → R g mX10_decide (0 + 1) 0 0 39 [(6, .int (nI j)), (0, .ref s), (1, .int (nI (nt - 0))), (2, .ref r), (3, .int (nI (pcN z))), (4, .ref bo), (5, .ref ag)] [] ((r, iA g nt (dbF z)) :: ((b0, iA g nt (mixF q.1 z j)) :: ((b1, iA g 1 (o1 (nI 0))) :: ((b2, iA g 1 (o1 (nI q.2.2))) :: t)))) (Dv none ((r, iA g nt (dbF z)) :: (b0, iA g nt (dbF (dcd cl d nt 0 z q).1)) :: (b1, iA g 1 (o1 (nI (dcd cl d nt 0 z q).2.1))) :: (b2, iA g 1 (o1 (nI (dcd cl d nt 0 z q).2.2))) :: t)) := by
          intro m
          induction m with
          | zero =>
            intro j hj
            have ej : j = nt := by omega
            subst ej
            rw [mix_n h1 (by simpa using hz)]
            -- at the end
            refine r_iload 0 dX10_decide_39 rfl ?_
            refine r_aload_n 1 dX10_decide_41 rfl ?_
            refine r_getm (v := .int (nI j)) (ci := 10) (fs := [.int (nI ne), .int (nI j), .ref aC, .ref aD, .ref aO, .ref aT, .int ev, .int cr]) dX10_decide_42 fl_X10_33 (List.mem_cons_of_mem _ (List.mem_cons_of_mem _ (List.mem_cons_of_mem _ (List.mem_cons_of_mem _ hS.1)))) rfl ?_
            refine r_icmp_ge (tgt := 65) dX10_decide_45 (by decide) (fun _ => ?_) (fun hc => absurd (nI_le (Nat.le_refl _) (by omega)) hc)
            refine r_aload 5 dX10_decide_65 rfl ?_
            refine r_iconst (v := (2 : Int32)) dX10_decide_67 (by decide) ?_
            refine r_aaldm (t := 4) (n := 3) (f := (bestF b0 b1 b2)) (v := .ref b2) dX10_decide_68 rfl rfl (List.mem_cons_of_mem _ (List.mem_cons_of_mem _ (List.mem_cons_of_mem _ (List.mem_cons_of_mem _ hbo)))) (by decide) (by rw [cl2]; rfl) ?_
            refine r_iconst (v := (0 : Int32)) dX10_decide_69 (by decide) ?_
            refine r_iload_n 4 dX10_decide_70 rfl ?_
            refine r_iast (ws2 := ((r, iA g j (dbF z)) :: ((b0, iA g j (dbF z)) :: ((b1, iA g 1 (o1 (nI 0))) :: ((b2, iA g 1 (o1 (nI (pcN z)))) :: t))))) 3 dX10_decide_71 rfl (by decide) (by rw [cl0, o1_u] <;> rfl) ?_
            refine r_aload 5 dX10_decide_72 rfl ?_
            refine r_iconst (v := (1 : Int32)) dX10_decide_74 (by decide) ?_
            refine r_aaldm (t := 4) (n := 3) (f := (bestF b0 b1 b2)) (v := .ref b1) dX10_decide_75 rfl rfl (List.mem_cons_of_mem _ (List.mem_cons_of_mem _ (List.mem_cons_of_mem _ (List.mem_cons_of_mem _ hbo)))) (by decide) (by rw [cl1]; rfl) ?_
            refine r_iconst (v := (0 : Int32)) dX10_decide_76 (by decide) ?_
            refine r_dup2 dX10_decide_77 rfl rfl ?_
            refine r_ialdm (n := 1) (f := (o1 (nI 0))) dX10_decide_78 (List.mem_cons_of_mem _ (List.mem_cons_of_mem _ List.mem_cons_self)) (by decide) ?_
            refine r_top (w := .int (nI 0)) (by rw [cl0]; rfl) ?_
            refine r_iconst (v := (1 : Int32)) dX10_decide_79 (by decide) ?_
            refine r_iadd dX10_decide_80 ?_
            refine r_top (w := .int (nI (0 + 1))) (by rw [← nI_1]) ?_
            refine r_iast (ws2 := ((r, iA g j (dbF z)) :: ((b0, iA g j (dbF z)) :: ((b1, iA g 1 (o1 (nI (0 + 1)))) :: ((b2, iA g 1 (o1 (nI (pcN z)))) :: t))))) 2 dX10_decide_81 rfl (by decide) (by rw [cl0, o1_u] <;> rfl) ?_
            refine r_vret dX10_decide_82 rfl ?_
            exact ⟨rfl, by rw [dcd, if_neg c1, if_pos c2]⟩
          | succ m ih =>
            intro j hj
            have hj2 : j < nt := by omega
            refine r_iload 0 dX10_decide_39 rfl ?_
            refine r_aload_n 1 dX10_decide_41 rfl ?_
            refine r_getm (v := .int (nI nt)) (ci := 10) (fs := [.int (nI ne), .int (nI nt), .ref aC, .ref aD, .ref aO, .ref aT, .int ev, .int cr]) dX10_decide_42 fl_X10_33 (List.mem_cons_of_mem _ (List.mem_cons_of_mem _ (List.mem_cons_of_mem _ (List.mem_cons_of_mem _ hS.1)))) rfl ?_
            refine r_icmp_ge (tgt := 65) dX10_decide_45 (by decide) (fun hc => absurd hc (nI_ge (by omega) (by omega))) (fun _ => ?_)
            refine r_aload 5 dX10_decide_48 rfl ?_
            refine r_iconst (v := (0 : Int32)) dX10_decide_50 (by decide) ?_
            refine r_aaldm (t := 4) (n := 3) (f := (bestF b0 b1 b2)) (v := .ref b0) dX10_decide_51 rfl rfl (List.mem_cons_of_mem _ (List.mem_cons_of_mem _ (List.mem_cons_of_mem _ (List.mem_cons_of_mem _ hbo)))) (by decide) (by rw [cl0]; rfl) ?_
            refine r_iload 0 dX10_decide_52 rfl ?_
            refine r_aload_n 3 dX10_decide_54 rfl ?_
            refine r_iload 0 dX10_decide_55 rfl ?_
            refine r_ialdm (n := nt) (f := (dbF z)) dX10_decide_57 List.mem_cons_self (ib_nI hj2 (by omega)) ?_
            refine r_top (w := .int (dbF z j)) (by rw [nI_clamp (by omega)]) ?_
            refine r_iast (ws2 := ((r, iA g nt (dbF z)) :: ((b0, iA g nt (mixF q.1 z (j + 1))) :: ((b1, iA g 1 (o1 (nI 0))) :: ((b2, iA g 1 (o1 (nI q.2.2))) :: t))))) 1 dX10_decide_58 rfl (ib_nI hj2 (by omega)) (by rw [nI_clamp (by omega), mix_s] <;> rfl) ?_
            refine r_iinc (v2 := (nI (j + 1))) 0 [(6, .int (nI (j + 1))), (0, .ref s), (1, .int (nI (nt - 0))), (2, .ref r), (3, .int (nI (pcN z))), (4, .ref bo), (5, .ref ag)] dX10_decide_59 rfl (nI_1 j) (by decide) rfl ?_
            refine r_goto (tgt := 39) dX10_decide_62 (by decide) ?_
            refine r_ls [0, 1, 2, 3, 4, 5, 6] (ls2 := [(6, .int (nI (j + 1))), (0, .ref s), (1, .int (nI (nt - 0))), (2, .ref r), (3, .int (nI (pcN z))), (4, .ref bo), (5, .ref ag)]) rfl ?_
            exact ih (j + 1) (by omega)
        rw [mix_0 q.1 z]
        exact L nt 0 (by omega)
    · have c1 : q.2.2 < pcN z := by have : ¬ _ := fun h => hc ((nI_leI (a := pcN z) (b := q.2.2) (by omega) (by omega)).mpr h); omega
      refine r_vret dX10_decide_10 rfl ?_
      exact ⟨rfl, by rw [dcd, if_pos c1]⟩
  | succ k ih =>
    intro z q hk hz h1 h2
    have hp : pcN z ≤ 10 := pcN_le z (Nat.lt_of_lt_of_le hz (Nat.pow_le_pow_right (by decide) (by omega) : 2 ^ (nt - (k + 1)) ≤ 2 ^ 10))
    refine Ct.ofR (by decide +kernel) rfl (Nat.le_of_ble_eq_true rfl) ?_
    show R g mX10_decide (k + 1 + 1) 0 0 0 [(0, .ref s), (1, .int (nI (nt - (k + 1)))), (2, .ref r), (3, .int (nI (pcN z))), (4, .ref bo), (5, .ref ag)] [] ((r, iA g nt (dbF z)) :: ((b0, iA g nt (dbF q.1)) :: ((b1, iA g 1 (o1 (nI q.2.1))) :: ((b2, iA g 1 (o1 (nI q.2.2))) :: t)))) _
    refine r_iload_n 3 dX10_decide_0 rfl ?_
    refine r_aload 4 dX10_decide_1 rfl ?_
    refine r_iconst (v := (2 : Int32)) dX10_decide_3 (by decide) ?_
    refine r_aaldm (t := 4) (n := 3) (f := (bestF b0 b1 b2)) (v := .ref b2) dX10_decide_4 rfl rfl (List.mem_cons_of_mem _ (List.mem_cons_of_mem _ (List.mem_cons_of_mem _ (List.mem_cons_of_mem _ hbo)))) (by decide) (by rw [cl2]; rfl) ?_
    refine r_iconst (v := (0 : Int32)) dX10_decide_5 (by decide) ?_
    refine r_ialdm (n := 1) (f := (o1 (nI q.2.2))) dX10_decide_6 (List.mem_cons_of_mem _ (List.mem_cons_of_mem _ (List.mem_cons_of_mem _ List.mem_cons_self))) (by decide) ?_
    refine r_top (w := .int (nI q.2.2)) (by rw [cl0]; rfl) ?_
    refine r_icmp_le (tgt := 11) dX10_decide_7 (by decide) (fun hc => ?_) (fun hc => ?_)
    · have c1 : ¬ q.2.2 < pcN z := by have := (nI_leI (a := pcN z) (b := q.2.2) (by omega) (by omega)).mp hc; omega
      obtain ⟨T, hT⟩ : ∃ T, nt - (k + 1) = T := ⟨_, rfl⟩
      have hTk : nt - k = T + 1 := by omega
      have hTn : T < nt := by omega
      rw [hT] at hz ⊢
      show R g mX10_decide (k + 1 + 1) 0 0 11 [(0, .ref s), (1, .int (nI (T))), (2, .ref r), (3, .int (nI (pcN z))), (4, .ref bo), (5, .ref ag)] [] ((r, iA g nt (dbF z)) :: ((b0, iA g nt (dbF q.1)) :: ((b1, iA g 1 (o1 (nI q.2.1))) :: ((b2, iA g 1 (o1 (nI q.2.2))) :: t)))) _
      refine r_iload_n 1 dX10_decide_11 rfl ?_
      refine r_aload_n 0 dX10_decide_12 rfl ?_
      refine r_getm (v := .int (nI nt)) (ci := 10) (fs := [.int (nI ne), .int (nI nt), .ref aC, .ref aD, .ref aO, .ref aT, .int ev, .int cr]) dX10_decide_13 fl_X10_33 (List.mem_cons_of_mem _ (List.mem_cons_of_mem _ (List.mem_cons_of_mem _ (List.mem_cons_of_mem _ hS.1)))) rfl ?_
      refine r_icmp_ne (tgt := 83) dX10_decide_16 (by decide) (fun _ => ?_) (fun hc => absurd hc (fun e => by have := (nI_eq (by omega) (by omega)).mp e; omega))
      have zT : z.testBit T = false := bits_of_lt hz (Nat.le_refl _)
      have hz2 : z < 2 ^ (nt - k) := by rw [hTk]; exact Nat.lt_of_lt_of_le hz (Nat.pow_le_pow_right (by decide) (by omega))
      have hz3 : z ||| 2 ^ T < 2 ^ (nt - k) := Nat.or_lt_two_pow hz2 (Nat.pow_lt_pow_right (by decide) (by omega))
      have z10 : z < 1024 := Nat.lt_of_lt_of_le hz (Nat.pow_le_pow_right (by decide) (by omega) : 2 ^ T ≤ 2 ^ 10)
      have F : ∀ q2 : Nat × Nat × Nat, q2.1 < 2 ^ nt → q2.2.2 ≤ 99 → q2 = (if canB cl d z T = true then dcd cl d nt k z q else q) → R g mX10_decide (k + 1 + 1) 0 0 182 [(0, .ref s), (1, .int (nI T)), (2, .ref r), (3, .int (nI (pcN z))), (4, .ref bo), (5, .ref ag)] [] ((r, iA g nt (dbF z)) :: ((b0, iA g nt (dbF q2.1)) :: ((b1, iA g 1 (o1 (nI q2.2.1))) :: ((b2, iA g 1 (o1 (nI q2.2.2))) :: t)))) (Dv none ((r, iA g nt (dbF z)) :: (b0, iA g nt (dbF (dcd cl d nt (k + 1) z q).1)) :: (b1, iA g 1 (o1 (nI (dcd cl d nt (k + 1) z q).2.1))) :: (b2, iA g 1 (o1 (nI (dcd cl d nt (k + 1) z q).2.2))) :: t)) := by
        intro q2 g1 g2 g3
        refine r_aload_n 0 dX10_decide_182 rfl ?_
        refine r_getm (v := .ref aD) (ci := 10) (fs := [.int (nI ne), .int (nI nt), .ref aC, .ref aD, .ref aO, .ref aT, .int ev, .int cr]) dX10_decide_183 fl_X10_15 (List.mem_cons_of_mem _ (List.mem_cons_of_mem _ (List.mem_cons_of_mem _ (List.mem_cons_of_mem _ hS.1)))) rfl ?_
        refine r_iload_n 1 dX10_decide_186 rfl ?_
        refine r_zaldm (n := 10) (f := (dbF d)) dX10_decide_187 (List.mem_cons_of_mem _ (List.mem_cons_of_mem _ (List.mem_cons_of_mem _ (List.mem_cons_of_mem _ hS.2.2.2)))) (ib_nI (by omega) (by decide)) ?_
        refine r_top (w := .int (dbF d T)) (by rw [nI_clamp (by omega)]) ?_
        refine r_if_eq (tgt := 192) dX10_decide_188 (by decide) (fun h5 => ?_) (fun h5 => ?_)
        · have e1 : d.testBit T = false := dbF_0.mp h5
          refine r_aload_n 2 dX10_decide_192 rfl ?_
          refine r_iload_n 1 dX10_decide_193 rfl ?_
          refine r_iconst (v := (1 : Int32)) dX10_decide_194 (by decide) ?_
          refine r_iast (ws2 := ((r, iA g nt (dbF (z ||| 2 ^ T))) :: ((b0, iA g nt (dbF q2.1)) :: ((b1, iA g 1 (o1 (nI q2.2.1))) :: ((b2, iA g 1 (o1 (nI q2.2.2))) :: t))))) 0 dX10_decide_195 rfl (ib_nI (by omega) (by omega)) (by rw [nI_clamp (by omega), dbF_on] <;> rfl) ?_
          refine r_aload_n 0 dX10_decide_196 rfl ?_
          refine r_iload_n 1 dX10_decide_197 rfl ?_
          refine r_iconst (v := (1 : Int32)) dX10_decide_198 (by decide) ?_
          refine r_iadd dX10_decide_199 ?_
          refine r_top (w := .int (nI (nt - k))) (by rw [hTk]; exact congrArg Value.int (nI_1 T)) ?_
          refine r_aload_n 2 dX10_decide_200 rfl ?_
          refine r_iload_n 3 dX10_decide_201 rfl ?_
          refine r_iconst (v := (1 : Int32)) dX10_decide_202 (by decide) ?_
          refine r_iadd dX10_decide_203 ?_
          refine r_top (w := .int (nI (pcN (z ||| 2 ^ T)))) (by rw [pc_more z z10 T (by omega) zT]; exact congrArg Value.int (nI_1 _)) ?_
          refine r_aload 4 dX10_decide_204 rfl ?_
          refine r_aload 5 dX10_decide_206 rfl ?_
          refine k_Vm (x := 0) (y := 0) (rest := []) dX10_decide_208 kv_X10_58 ((ih (z ||| 2 ^ T) q2 (by omega) hz3 g1 g2).dq) rfl rfl (List.mem_cons_of_mem _ (List.mem_cons_of_mem _ (List.mem_cons_of_mem _ (List.mem_cons_of_mem _ hS.1)))) rfl (Nat.le_of_ble_eq_true rfl) (by omega) (by decide) ?_
          rintro ⟨⟩ -
          show R g mX10_decide (k + 1 + 1) 0 0 211 [(0, .ref s), (1, .int (nI T)), (2, .ref r), (3, .int (nI (pcN z))), (4, .ref bo), (5, .ref ag)] [] ((r, iA g nt (dbF (z ||| 2 ^ T))) :: ((b0, iA g nt (dbF (dcd cl d nt k (z ||| 2 ^ T) q2).1)) :: ((b1, iA g 1 (o1 (nI (dcd cl d nt k (z ||| 2 ^ T) q2).2.1))) :: ((b2, iA g 1 (o1 (nI (dcd cl d nt k (z ||| 2 ^ T) q2).2.2))) :: t)))) _
          refine r_aload_n 2 dX10_decide_211 rfl ?_
          refine r_iload_n 1 dX10_decide_212 rfl ?_
          refine r_iconst (v := (0 : Int32)) dX10_decide_213 (by decide) ?_
          refine r_iast (ws2 := ((r, iA g nt (dbF z)) :: ((b0, iA g nt (dbF (dcd cl d nt k (z ||| 2 ^ T) q2).1)) :: ((b1, iA g 1 (o1 (nI (dcd cl d nt k (z ||| 2 ^ T) q2).2.1))) :: ((b2, iA g 1 (o1 (nI (dcd cl d nt k (z ||| 2 ^ T) q2).2.2))) :: t))))) 0 dX10_decide_214 rfl (ib_nI (by omega) (by omega)) (by rw [nI_clamp (by omega), dbF_out zT] <;> rfl) ?_
          refine r_vret dX10_decide_215 rfl ?_
          exact ⟨rfl, by rw [dcd, hT, if_neg c1, if_neg (by rw [e1]; decide), g3]⟩
        · have e1 : d.testBit T = true := by cases h9 : d.testBit T with | false => exact absurd (dbF_0.mpr h9) h5 | true => rfl
          refine r_vret dX10_decide_191 rfl ?_
          exact ⟨rfl, by rw [dcd, hT, if_neg c1, if_pos e1, g3]⟩
      have H : ∀ c : Bool, c = canB cl d z T → R g mX10_decide (k + 1 + 1) 0 0 160 [(6, .int (bI c)), (0, .ref s), (1, .int (nI T)), (2, .ref r), (3, .int (nI (pcN z))), (4, .ref bo), (5, .ref ag)] [] ((r, iA g nt (dbF z)) :: ((b0, iA g nt (dbF q.1)) :: ((b1, iA g 1 (o1 (nI q.2.1))) :: ((b2, iA g 1 (o1 (nI q.2.2))) :: t)))) (Dv none ((r, iA g nt (dbF z)) :: (b0, iA g nt (dbF (dcd cl d nt (k + 1) z q).1)) :: (b1, iA g 1 (o1 (nI (dcd cl d nt (k + 1) z q).2.1))) :: (b2, iA g 1 (o1 (nI (dcd cl d nt (k + 1) z q).2.2))) :: t)) := by
        intro c hcb
        refine r_aload_n 3 dX10_decide_160 rfl ?_
        refine r_iload_n 2 dX10_decide_161 rfl ?_
        refine r_iconst (v := (0 : Int32)) dX10_decide_162 (by decide) ?_
        refine r_iast (ws2 := ((r, iA g nt (dbF z)) :: ((b0, iA g nt (dbF q.1)) :: ((b1, iA g 1 (o1 (nI q.2.1))) :: ((b2, iA g 1 (o1 (nI q.2.2))) :: t))))) 0 dX10_decide_163 rfl (ib_nI (by omega) (by omega)) (by rw [nI_clamp (by omega), dbF_off zT] <;> rfl) ?_
        refine r_iload 0 dX10_decide_164 rfl ?_
        refine r_if_eq (tgt := 182) dX10_decide_166 (by decide) (fun h6 => ?_) (fun h6 => ?_)
        · have e1 : canB cl d z T = false := by rw [← hcb]; exact bI_0.mp h6
          refine r_ls [1, 2, 3, 4, 5, 6] (ls2 := [(0, .ref s), (1, .int (nI T)), (2, .ref r), (3, .int (nI (pcN z))), (4, .ref bo), (5, .ref ag)]) rfl ?_
          exact F q h1 h2 (by rw [if_neg (by rw [e1]; decide)])
        · have e1 : canB cl d z T = true := by rw [← hcb]; cases c with | false => exact absurd rfl h6 | true => rfl
          refine r_aload_n 1 dX10_decide_169 rfl ?_
          refine r_iload_n 2 dX10_decide_170 rfl ?_
          refine r_iconst (v := (1 : Int32)) dX10_decide_171 (by decide) ?_
          refine r_iadd dX10_decide_172 ?_
          refine r_top (w := .int (nI (nt - k))) (by rw [hTk]; exact congrArg Value.int (nI_1 T)) ?_
          refine r_aload_n 3 dX10_decide_173 rfl ?_
          refine r_iload_n 4 dX10_decide_174 rfl ?_
          refine r_aload 5 dX10_decide_175 rfl ?_
          refine r_aload 6 dX10_decide_177 rfl ?_
          refine k_Vm (x := 0) (y := 0) (rest := []) dX10_decide_179 kv_X10_58 ((ih z q (by omega) hz2 h1 h2).dq) rfl rfl (List.mem_cons_of_mem _ (List.mem_cons_of_mem _ (List.mem_cons_of_mem _ (List.mem_cons_of_mem _ hS.1)))) rfl (Nat.le_of_ble_eq_true rfl) (by omega) (by decide) ?_
          rintro ⟨⟩ -
          show R g mX10_decide (k + 1 + 1) 0 0 182 [(6, .int (bI c)), (0, .ref s), (1, .int (nI T)), (2, .ref r), (3, .int (nI (pcN z))), (4, .ref bo), (5, .ref ag)] [] ((r, iA g nt (dbF z)) :: ((b0, iA g nt (dbF (dcd cl d nt k z q).1)) :: ((b1, iA g 1 (o1 (nI (dcd cl d nt k z q).2.1))) :: ((b2, iA g 1 (o1 (nI (dcd cl d nt k z q).2.2))) :: t)))) _
          refine r_ls [1, 2, 3, 4, 5, 6] (ls2 := [(0, .ref s), (1, .int (nI T)), (2, .ref r), (3, .int (nI (pcN z))), (4, .ref bo), (5, .ref ag)]) rfl ?_
          have hq2 := dcd_ok cl d nt hn k z q (by omega) hz2 h1 h2
          exact F _ hq2.1 hq2.2 (by rw [if_pos e1])
      have L : ∀ m o, m + o = T → ¬ d.testBit T = true → R g mX10_decide (k + 1 + 1) 0 0 111 [(7, .int (nI o)), (6, .int (bI (canS cl d z T o))), (0, .ref s), (1, .int (nI T)), (2, .ref r), (3, .int (nI (pcN z))), (4, .ref bo), (5, .ref ag)] [] ((r, iA g nt (dbF z)) :: ((b0, iA g nt (dbF q.1)) :: ((b1, iA g 1 (o1 (nI q.2.1))) :: ((b2, iA g 1 (o1 (nI q.2.2))) :: t)))) (Dv none ((r, iA g nt (dbF z)) :: (b0, iA g nt (dbF (dcd cl d nt (k + 1) z q).1)) :: (b1, iA g 1 (o1 (nI (dcd cl d nt (k + 1) z q).2.1))) :: (b2, iA g 1 (o1 (nI (dcd cl d nt (k + 1) z q).2.2))) :: t)) := by
        intro m
        induction m with
        | zero =>
          intro o ho hdT
          have eo : o = T := by omega
          rw [eo]
          refine r_iload 0 dX10_decide_111 rfl ?_
          refine r_iload_n 3 dX10_decide_113 rfl ?_
          refine r_icmp_ge (tgt := 160) dX10_decide_114 (by decide) (fun _ => ?_) (fun hc => absurd (nI_le (Nat.le_refl _) (by omega)) hc)
          refine r_ls [1, 2, 3, 4, 5, 6, 7] (ls2 := [(6, .int (bI (canS cl d z T T))), (0, .ref s), (1, .int (nI T)), (2, .ref r), (3, .int (nI (pcN z))), (4, .ref bo), (5, .ref ag)]) rfl ?_
          exact H _ (by unfold canB; rw [if_neg hdT])
        | succ m ih2 =>
          intro o ho hdT
          have ho2 : o < T := by omega
          have edT : d.testBit T = false := by cases h9 : d.testBit T with | false => rfl | true => exact absurd h9 hdT
          refine r_iload 0 dX10_decide_111 rfl ?_
          refine r_iload_n 3 dX10_decide_113 rfl ?_
          refine r_icmp_ge (tgt := 160) dX10_decide_114 (by decide) (fun hc => absurd hc (nI_ge (by omega) (by omega))) (fun _ => ?_)
          refine r_aload_n 2 dX10_decide_117 rfl ?_
          refine r_getm (v := .ref aD) (ci := 10) (fs := [.int (nI ne), .int (nI nt), .ref aC, .ref aD, .ref aO, .ref aT, .int ev, .int cr]) dX10_decide_118 fl_X10_15 (List.mem_cons_of_mem _ (List.mem_cons_of_mem _ (List.mem_cons_of_mem _ (List.mem_cons_of_mem _ hS.1)))) rfl ?_
          refine r_iload_n 3 dX10_decide_121 rfl ?_
          refine r_zaldm (n := 10) (f := (dbF d)) dX10_decide_122 (List.mem_cons_of_mem _ (List.mem_cons_of_mem _ (List.mem_cons_of_mem _ (List.mem_cons_of_mem _ hS.2.2.2)))) (ib_nI (by omega) (by decide)) ?_
          refine r_top (w := .int (dbF d T)) (by rw [nI_clamp (by omega)]) ?_
          refine r_if_ne (tgt := 160) dX10_decide_123 (by decide) (fun hc => absurd (by rw [dbF_f edT]) hc) (fun _ => ?_)
          refine r_iload 1 dX10_decide_126 rfl ?_
          refine r_aload_n 4 dX10_decide_128 rfl ?_
          refine r_iload 0 dX10_decide_129 rfl ?_
          have J : ∀ c1 : Bool, c1 = (z.testBit o || !conS cl d T o) → R g mX10_decide (k + 1 + 1) 0 0 151 [(7, .int (nI o)), (6, .int (bI (canS cl d z T o))), (0, .ref s), (1, .int (nI T)), (2, .ref r), (3, .int (nI (pcN z))), (4, .ref bo), (5, .ref ag)] [.int (bI c1), .int (bI (canS cl d z T o))] ((r, iA g nt (dbF z)) :: ((b0, iA g nt (dbF q.1)) :: ((b1, iA g 1 (o1 (nI q.2.1))) :: ((b2, iA g 1 (o1 (nI q.2.2))) :: t)))) (Dv none ((r, iA g nt (dbF z)) :: (b0, iA g nt (dbF (dcd cl d nt (k + 1) z q).1)) :: (b1, iA g 1 (o1 (nI (dcd cl d nt (k + 1) z q).2.1))) :: (b2, iA g 1 (o1 (nI (dcd cl d nt (k + 1) z q).2.2))) :: t)) := by
            intro c1 hc1
            refine r_iand dX10_decide_151 ?_
            refine r_top (w := .int (bI (canS cl d z T (o + 1)))) (by show _ = Value.int (bI (canS cl d z T o && (z.testBit o || !conS cl d T o))); rw [← hc1]; cases canS cl d z T o <;> cases c1 <;> rfl) ?_
            refine r_istore [(6, .int (bI (canS cl d z T (o + 1)))), (7, .int (nI o)), (0, .ref s), (1, .int (nI T)), (2, .ref r), (3, .int (nI (pcN z))), (4, .ref bo), (5, .ref ag)] dX10_decide_152 (by decide) rfl ?_
            refine r_iinc (v2 := (nI (o + 1))) 1 [(7, .int (nI (o + 1))), (6, .int (bI (canS cl d z T (o + 1)))), (0, .ref s), (1, .int (nI T)), (2, .ref r), (3, .int (nI (pcN z))), (4, .ref bo), (5, .ref ag)] dX10_decide_154 rfl (nI_1 o) (by decide) rfl ?_
            refine r_goto (tgt := 111) dX10_decide_157 (by decide) ?_
            refine r_ls [0, 1, 2, 3, 4, 5, 6, 7] (ls2 := [(7, .int (nI (o + 1))), (6, .int (bI (canS cl d z T (o + 1)))), (0, .ref s), (1, .int (nI T)), (2, .ref r), (3, .int (nI (pcN z))), (4, .ref bo), (5, .ref ag)]) rfl ?_
            exact ih2 (o + 1) (by omega) hdT
          refine r_ialdm (n := nt) (f := (dbF z)) dX10_decide_131 List.mem_cons_self (ib_nI (by omega) (by omega)) ?_
          refine r_top (w := .int (dbF z o)) (by rw [nI_clamp (by omega)]) ?_
          refine r_iconst (v := (1 : Int32)) dX10_decide_132 (by decide) ?_
          refine r_icmp_eq (tgt := 146) dX10_decide_133 (by decide) (fun h7 => ?_) (fun h7 => ?_)
          · have e2 : z.testBit o = true := by cases h9 : z.testBit o with | false => rw [dbF_f h9] at h7; exact absurd h7 (by decide) | true => rfl
            refine r_iconst (v := (1 : Int32)) dX10_decide_146 (by decide) ?_
            refine r_goto (tgt := 151) dX10_decide_147 (by decide) ?_
            refine r_top (w := .int (bI true)) (rfl) ?_
            exact J _ (by rw [e2]; rfl)
          · have e2 : z.testBit o = false := by cases h9 : z.testBit o with | false => rfl | true => exact absurd (dbF_t h9) h7
            refine r_aload 7 dX10_decide_136 rfl ?_
            refine r_iload_n 3 dX10_decide_138 rfl ?_
            refine r_aaldm (t := 5) (n := nt) (f := (fun i => if i < nt then some (ra i) else none)) (v := .ref (ra T)) dX10_decide_139 rfl rfl (List.mem_cons_of_mem _ (List.mem_cons_of_mem _ (List.mem_cons_of_mem _ (List.mem_cons_of_mem _ hag)))) (ib_nI (by omega) (by omega)) (by rw [nI_clamp (by omega), if_pos (by omega)]; rfl) ?_
            refine r_iload 0 dX10_decide_140 rfl ?_
            refine r_zaldm (n := nt) (f := (agF cl d nt nt 0 T)) dX10_decide_142 (List.mem_cons_of_mem _ (List.mem_cons_of_mem _ (List.mem_cons_of_mem _ (List.mem_cons_of_mem _ (har T (by omega)))))) (ib_nI (by omega) (by omega)) ?_
            refine r_top (w := .int (bI (conS cl d T o))) (by rw [nI_clamp (by omega)]; unfold agF; rw [if_pos ⟨Or.inl (by omega), by omega⟩]) ?_
            refine r_if_ne (tgt := 150) dX10_decide_143 (by decide) (fun h8 => ?_) (fun h8 => ?_)
            · have e3 : conS cl d T o = true := by cases h9 : conS cl d T o with | false => rw [h9] at h8; exact absurd rfl h8 | true => rfl
              refine r_iconst (v := (0 : Int32)) dX10_decide_150 (by decide) ?_
              refine r_top (w := .int (bI false)) (rfl) ?_
              exact J _ (by rw [e2, e3]; rfl)
            · refine r_iconst (v := (1 : Int32)) dX10_decide_146 (by decide) ?_
              refine r_goto (tgt := 151) dX10_decide_147 (by decide) ?_
              refine r_top (w := .int (bI true)) (rfl) ?_
              exact J _ (by rw [e2, bI_0.mp h8]; rfl)
      refine r_aload_n 0 dX10_decide_83 rfl ?_
      refine r_getm (v := .ref aD) (ci := 10) (fs := [.int (nI ne), .int (nI nt), .ref aC, .ref aD, .ref aO, .ref aT, .int ev, .int cr]) dX10_decide_84 fl_X10_15 (List.mem_cons_of_mem _ (List.mem_cons_of_mem _ (List.mem_cons_of_mem _ (List.mem_cons_of_mem _ hS.1)))) rfl ?_
      refine r_iload_n 1 dX10_decide_87 rfl ?_
      refine r_zaldm (n := 10) (f := (dbF d)) dX10_decide_88 (List.mem_cons_of_mem _ (List.mem_cons_of_mem _ (List.mem_cons_of_mem _ (List.mem_cons_of_mem _ hS.2.2.2)))) (ib_nI (by omega) (by decide)) ?_
      refine r_top (w := .int (dbF d T)) (by rw [nI_clamp (by omega)]) ?_
      refine r_if_ne (tgt := 101) dX10_decide_89 (by decide) (fun h3 => ?_) (fun h3 => ?_)
      · have e1 : d.testBit T = true := by cases h9 : d.testBit T with | false => exact absurd (dbF_0.mpr h9) h3 | true => rfl
        refine r_iconst (v := (1 : Int32)) dX10_decide_101 (by decide) ?_
        refine r_goto (tgt := 106) dX10_decide_102 (by decide) ?_
        refine r_top (w := .int (bI true)) (rfl) ?_
        refine r_istore [(6, .int (bI true)), (0, .ref s), (1, .int (nI (T))), (2, .ref r), (3, .int (nI (pcN z))), (4, .ref bo), (5, .ref ag)] dX10_decide_106 (by decide) rfl ?_
        refine r_iconst (v := (0 : Int32)) dX10_decide_108 (by decide) ?_
        refine r_top (w := .int (nI 0)) (rfl) ?_
        refine r_istore [(7, .int (nI 0)), (6, .int (bI true)), (0, .ref s), (1, .int (nI (T))), (2, .ref r), (3, .int (nI (pcN z))), (4, .ref bo), (5, .ref ag)] dX10_decide_109 (by decide) rfl ?_
        refine r_iload 0 dX10_decide_111 rfl ?_
        refine r_iload_n 3 dX10_decide_113 rfl ?_
        refine r_icmp_ge (tgt := 160) dX10_decide_114 (by decide) (fun h4 => ?_) (fun h4 => ?_)
        · refine r_ls [1, 2, 3, 4, 5, 6, 7] (ls2 := [(6, .int (bI true)), (0, .ref s), (1, .int (nI (T))), (2, .ref r), (3, .int (nI (pcN z))), (4, .ref bo), (5, .ref ag)]) rfl ?_
          exact H _ (by unfold canB; rw [if_pos e1])
        · refine r_aload_n 2 dX10_decide_117 rfl ?_
          refine r_getm (v := .ref aD) (ci := 10) (fs := [.int (nI ne), .int (nI nt), .ref aC, .ref aD, .ref aO, .ref aT, .int ev, .int cr]) dX10_decide_118 fl_X10_15 (List.mem_cons_of_mem _ (List.mem_cons_of_mem _ (List.mem_cons_of_mem _ (List.mem_cons_of_mem _ hS.1)))) rfl ?_
          refine r_iload_n 3 dX10_decide_121 rfl ?_
          refine r_zaldm (n := 10) (f := (dbF d)) dX10_decide_122 (List.mem_cons_of_mem _ (List.mem_cons_of_mem _ (List.mem_cons_of_mem _ (List.mem_cons_of_mem _ hS.2.2.2)))) (ib_nI (by omega) (by decide)) ?_
          refine r_top (w := .int (dbF d T)) (by rw [nI_clamp (by omega)]) ?_
          refine r_if_ne (tgt := 160) dX10_decide_123 (by decide) (fun _ => ?_) (fun hc => absurd hc (by rw [dbF_t e1]; decide))
          refine r_ls [1, 2, 3, 4, 5, 6, 7] (ls2 := [(6, .int (bI true)), (0, .ref s), (1, .int (nI (T))), (2, .ref r), (3, .int (nI (pcN z))), (4, .ref bo), (5, .ref ag)]) rfl ?_
          exact H _ (by unfold canB; rw [if_pos e1])
      · have e1 : d.testBit T = false := dbF_0.mp h3
        refine r_aload 5 dX10_decide_92 rfl ?_
        refine r_iload_n 1 dX10_decide_94 rfl ?_
        refine r_aaldm (t := 5) (n := nt) (f := (fun i => if i < nt then some (ra i) else none)) (v := .ref (ra T)) dX10_decide_95 rfl rfl (List.mem_cons_of_mem _ (List.mem_cons_of_mem _ (List.mem_cons_of_mem _ (List.mem_cons_of_mem _ hag)))) (ib_nI (by omega) (by omega)) (by rw [nI_clamp (by omega), if_pos (by omega)]; rfl) ?_
        refine r_iload_n 1 dX10_decide_96 rfl ?_
        refine r_zaldm (n := nt) (f := (agF cl d nt nt 0 T)) dX10_decide_97 (List.mem_cons_of_mem _ (List.mem_cons_of_mem _ (List.mem_cons_of_mem _ (List.mem_cons_of_mem _ (har T (by omega)))))) (ib_nI (by omega) (by omega)) ?_
        refine r_top (w := .int (bI (conS cl d T T))) (by rw [nI_clamp (by omega)]; unfold agF; rw [if_pos ⟨Or.inl (by omega), by omega⟩]) ?_
        refine r_if_ne (tgt := 105) dX10_decide_98 (by decide) (fun h4 => ?_) (fun h4 => ?_)
        · have e2 : conS cl d T T = true := by cases h9 : conS cl d T T with | false => rw [h9] at h4; exact absurd rfl h4 | true => rfl
          refine r_iconst (v := (0 : Int32)) dX10_decide_105 (by decide) ?_
          refine r_top (w := .int (bI (canS cl d z T 0))) (by show _ = Value.int (bI (d.testBit T || !conS cl d T T)); rw [e1, e2]; rfl) ?_
          refine r_istore [(6, .int (bI (canS cl d z T 0))), (0, .ref s), (1, .int (nI (T))), (2, .ref r), (3, .int (nI (pcN z))), (4, .ref bo), (5, .ref ag)] dX10_decide_106 (by decide) rfl ?_
          refine r_iconst (v := (0 : Int32)) dX10_decide_108 (by decide) ?_
          refine r_top (w := .int (nI 0)) (rfl) ?_
          refine r_istore [(7, .int (nI 0)), (6, .int (bI (canS cl d z T 0))), (0, .ref s), (1, .int (nI (T))), (2, .ref r), (3, .int (nI (pcN z))), (4, .ref bo), (5, .ref ag)] dX10_decide_109 (by decide) rfl ?_
          refine r_ls [0, 1, 2, 3, 4, 5, 6, 7] (ls2 := [(7, .int (nI 0)), (6, .int (bI (canS cl d z T 0))), (0, .ref s), (1, .int (nI (T))), (2, .ref r), (3, .int (nI (pcN z))), (4, .ref bo), (5, .ref ag)]) rfl ?_
          exact L T 0 (by omega) (by rw [e1]; decide)
        · refine r_iconst (v := (1 : Int32)) dX10_decide_101 (by decide) ?_
          refine r_goto (tgt := 106) dX10_decide_102 (by decide) ?_
          refine r_top (w := .int (bI (canS cl d z T 0))) (by show _ = Value.int (bI (d.testBit T || !conS cl d T T)); rw [e1, bI_0.mp h4]; rfl) ?_
          refine r_istore [(6, .int (bI (canS cl d z T 0))), (0, .ref s), (1, .int (nI (T))), (2, .ref r), (3, .int (nI (pcN z))), (4, .ref bo), (5, .ref ag)] dX10_decide_106 (by decide) rfl ?_
          refine r_iconst (v := (0 : Int32)) dX10_decide_108 (by decide) ?_
          refine r_top (w := .int (nI 0)) (rfl) ?_
          refine r_istore [(7, .int (nI 0)), (6, .int (bI (canS cl d z T 0))), (0, .ref s), (1, .int (nI (T))), (2, .ref r), (3, .int (nI (pcN z))), (4, .ref bo), (5, .ref ag)] dX10_decide_109 (by decide) rfl ?_
          refine r_ls [0, 1, 2, 3, 4, 5, 6, 7] (ls2 := [(7, .int (nI 0)), (6, .int (bI (canS cl d z T 0))), (0, .ref s), (1, .int (nI (T))), (2, .ref r), (3, .int (nI (pcN z))), (4, .ref bo), (5, .ref ag)]) rfl ?_
          exact L T 0 (by omega) (by rw [e1]; decide)
    · have c1 : q.2.2 < pcN z := by have : ¬ _ := fun h => hc ((nI_leI (a := pcN z) (b := q.2.2) (by omega) (by omega)).mpr h); omega
      refine r_vret dX10_decide_10 rfl ?_
      exact ⟨rfl, by rw [dcd, if_pos c1]⟩
