set_option maxRecDepth 20000 in
set_option maxHeartbeats 4000000 in
theorem cl_liars {g : GG} {t : va_W} {s aC aD aO aT ne nt : Nat} {ev cr : Int32} {ca : List Nat} {cl : List (Nat → Int32)} {d : Nat} (hS : SimM g t s aC aD aO aT ne nt ev cr ca cl d) (hV : CV ne nt ca cl) (hn : nt ≤ 6) : Ct g mX10_liars 8 20 200 [.ref s] t (Dq (fun (z : Nat × Nat × Nat × Nat) => some (.ref z.1)) (fun z => (z.1, qA g 4 3 (bestF z.2.1 z.2.2.1 z.2.2.2)) :: (z.2.1, iA g nt (dbF (dcd cl d nt nt 0 (0, 0, 99)).1)) :: (z.2.2.1, iA g 1 (o1 (nI (dcd cl d nt nt 0 (0, 0, 99)).2.1))) :: (z.2.2.2, iA g 1 (o1 (nI (dcd cl d nt nt 0 (0, 0, 99)).2.2))) :: t) (fun z => True)) := by
  refine Ct.ofR (by decide +kernel) rfl (Nat.le_of_ble_eq_true rfl) ?_
  show R g mX10_liars 8 20 200 0 [(0, .ref s)] [] t _
  refine r_aload_n 0 dX10_liars_0 rfl ?_
  refine r_getm (v := .int (nI nt)) (ci := 10) (fs := [.int (nI ne), .int (nI nt), .ref aC, .ref aD, .ref aO, .ref aT, .int ev, .int cr]) dX10_liars_1 fl_X10_33 hS.1 rfl ?_
  refine r_aload_n 0 dX10_liars_4 rfl ?_
  refine r_getm (v := .int (nI nt)) (ci := 10) (fs := [.int (nI ne), .int (nI nt), .ref aC, .ref aD, .ref aO, .ref aT, .int ev, .int cr]) dX10_liars_5 fl_X10_33 hS.1 rfl ?_
  refine r_room (x2 := 13 + 1 + nt) (y2 := 158 + nt + nt * nt) (by omega) (by have := Nat.mul_le_mul hn hn; omega) ?_
  refine r_newZZ (x := 13) (y := 158) (N := nt) (K := nt) dX10_liars_8 kk_911 kk_954 (nI_pos (by omega)) (nI_clamp (by omega)) (nI_pos (by omega)) (nI_clamp (by omega)) (by omega) (by omega) (fun ag ra => ?_)
  have eW : (List.range nt).map (fun i => (ra i, zA g nt (fun _ => (0 : Int32)))) = agW g ra nt nt (agF cl d nt 0 0) := by
    unfold agW
    rw [← agF_0 cl d nt]
  rw [eW]
  show R g mX10_liars 8 13 158 12 [(0, .ref s)] [.ref ag] ((ag, qA g 5 nt (fun i => if i < nt then some (ra i) else none)) :: (t ++ agW g ra nt nt (agF cl d nt 0 0))) _
  refine r_seg (ws2 := agW g ra nt nt (agF cl d nt 0 0) ++ ((ag, qA g 5 nt (fun i => if i < nt then some (ra i) else none)) :: t)) [[(ag, qA g 5 nt (fun i => if i < nt then some (ra i) else none))], t, agW g ra nt nt (agF cl d nt 0 0)] [2, 0, 1] rfl rfl rfl ?_
  refine r_astore_n [(1, .ref ag), (0, .ref s)] dX10_liars_12 (by decide) rfl ?_
  refine r_iconst (v := (0 : Int32)) dX10_liars_13 (by decide) ?_
  refine r_top (w := .int (nI 0)) (rfl) ?_
  refine r_istore_n [(2, .int (nI 0)), (1, .ref ag), (0, .ref s)] dX10_liars_14 (by decide) rfl ?_
  have L : ∀ m a, m + a = nt → R g mX10_liars 8 13 158 15 [(2, .int (nI a)), (1, .ref ag), (0, .ref s)] [] (agW g ra nt nt (agF cl d nt a 0) ++ ((ag, qA g 5 nt (fun i => if i < nt then some (ra i) else none)) :: t)) (Dq (fun (z : Nat × Nat × Nat × Nat) => some (.ref z.1)) (fun z => (z.1, qA g 4 3 (bestF z.2.1 z.2.2.1 z.2.2.2)) :: (z.2.1, iA g nt (dbF (dcd cl d nt nt 0 (0, 0, 99)).1)) :: (z.2.2.1, iA g 1 (o1 (nI (dcd cl d nt nt 0 (0, 0, 99)).2.1))) :: (z.2.2.2, iA g 1 (o1 (nI (dcd cl d nt nt 0 (0, 0, 99)).2.2))) :: t) (fun z => True)) := by
    intro m
    induction m with
    | zero =>
      intro a ha
      have ea : a = nt := by omega
      rw [ea]
      refine r_iload_n 0 dX10_liars_15 rfl ?_
      refine r_aload_n 2 dX10_liars_16 rfl ?_
      refine r_getm (v := .int (nI nt)) (ci := 10) (fs := [.int (nI ne), .int (nI nt), .ref aC, .ref aD, .ref aO, .ref aT, .int ev, .int cr]) dX10_liars_17 fl_X10_33 (List.mem_append_right _ (List.mem_cons_of_mem _ hS.1)) rfl ?_
      refine r_icmp_ge (tgt := 56) dX10_liars_20 (by decide) (fun _ => ?_) (fun hc => absurd (nI_le (Nat.le_refl _) (by omega)) hc)
      refine r_iconst (v := (3 : Int32)) dX10_liars_56 (by decide) ?_
      refine r_newA (x := 12) (y := 155) (N := 3) dX10_liars_57 kk_924 (by decide) (by decide) (by decide) (fun q1 => ?_)
      refine r_dup dX10_liars_60 rfl ?_
      refine r_iconst (v := (0 : Int32)) dX10_liars_61 (by decide) ?_
      refine r_aload_n 2 dX10_liars_62 rfl ?_
      refine r_getm (v := .int (nI nt)) (ci := 10) (fs := [.int (nI ne), .int (nI nt), .ref aC, .ref aD, .ref aO, .ref aT, .int ev, .int cr]) dX10_liars_63 fl_X10_33 (List.mem_cons_of_mem _ (List.mem_append_right _ (List.mem_cons_of_mem _ hS.1))) rfl ?_
      refine r_room (x2 := 11 + 1) (y2 := 149 + nt) (by omega) (by omega) ?_
      refine r_newIv (x := 11) (y := 149) (N := nt) dX10_liars_66 kk_105 (nI_pos (by omega)) (nI_clamp (by omega)) (by omega) (fun b0 => ?_)
      refine r_astA (ws2 := ((b0, iA g nt (fun _ => 0)) :: ((q1, qA g 4 3 (va_up (fun _ => none) 0 (some b0))) :: (agW g ra nt nt (agF cl d nt nt 0) ++ ((ag, qA g 5 nt (fun i => if i < nt then some (ra i) else none)) :: t))))) 1 0 0 dX10_liars_68 rfl rfl (fun C h => by cases h) (fun U H h => h.2.2.2.2.1.2.2.2.2.2.1) rfl rfl (by decide) (by rw [cl0] <;> rfl) ?_
      refine r_dup dX10_liars_69 rfl ?_
      refine r_iconst (v := (1 : Int32)) dX10_liars_70 (by decide) ?_
      refine r_iconst (v := (1 : Int32)) dX10_liars_71 (by decide) ?_
      refine r_room (x2 := 10 + 1) (y2 := 148 + 1) (by omega) (by omega) ?_
      refine r_newIv (x := 10) (y := 148) (N := 1) dX10_liars_72 kk_105 (by decide) (by decide) (by decide) (fun b1 => ?_)
      refine r_dup dX10_liars_74 rfl ?_
      refine r_iconst (v := (0 : Int32)) dX10_liars_75 (by decide) ?_
      refine r_iconst (v := (0 : Int32)) dX10_liars_76 (by decide) ?_
      refine r_iast (ws2 := ((b1, iA g 1 (o1 (nI 0))) :: ((b0, iA g nt (fun _ => 0)) :: ((q1, qA g 4 3 (va_up (fun _ => none) 0 (some b0))) :: (agW g ra nt nt (agF cl d nt nt 0) ++ ((ag, qA g 5 nt (fun i => if i < nt then some (ra i) else none)) :: t)))))) 0 dX10_liars_77 rfl (by decide) (rfl) ?_
      refine r_astA (ws2 := ((b1, iA g 1 (o1 (nI 0))) :: ((b0, iA g nt (fun _ => 0)) :: ((q1, qA g 4 3 (va_up (va_up (fun _ => none) 0 (some b0)) 1 (some b1))) :: (agW g ra nt nt (agF cl d nt nt 0) ++ ((ag, qA g 5 nt (fun i => if i < nt then some (ra i) else none)) :: t)))))) 2 0 0 dX10_liars_78 rfl rfl (fun C h => by cases h) (fun U H h => h.2.2.2.2.1.2.2.2.2.2.1) rfl rfl (by decide) (by rw [cl1] <;> rfl) ?_
      refine r_dup dX10_liars_79 rfl ?_
      refine r_iconst (v := (2 : Int32)) dX10_liars_80 (by decide) ?_
      refine r_iconst (v := (1 : Int32)) dX10_liars_81 (by decide) ?_
      refine r_room (x2 := 9 + 1) (y2 := 147 + 1) (by omega) (by omega) ?_
      refine r_newIv (x := 9) (y := 147) (N := 1) dX10_liars_82 kk_105 (by decide) (by decide) (by decide) (fun b2 => ?_)
      refine r_dup dX10_liars_84 rfl ?_
      refine r_iconst (v := (0 : Int32)) dX10_liars_85 (by decide) ?_
      refine r_bipush (v := (99 : Int32)) dX10_liars_86 (by decide) ?_
      refine r_iast (ws2 := ((b2, iA g 1 (o1 (nI 99))) :: ((b1, iA g 1 (o1 (nI 0))) :: ((b0, iA g nt (fun _ => 0)) :: ((q1, qA g 4 3 (va_up (va_up (fun _ => none) 0 (some b0)) 1 (some b1))) :: (agW g ra nt nt (agF cl d nt nt 0) ++ ((ag, qA g 5 nt (fun i => if i < nt then some (ra i) else none)) :: t))))))) 0 dX10_liars_88 rfl (by decide) (rfl) ?_
      refine r_astA (ws2 := ((b2, iA g 1 (o1 (nI 99))) :: ((b1, iA g 1 (o1 (nI 0))) :: ((b0, iA g nt (fun _ => 0)) :: ((q1, qA g 4 3 (bestF b0 b1 b2)) :: (agW g ra nt nt (agF cl d nt nt 0) ++ ((ag, qA g 5 nt (fun i => if i < nt then some (ra i) else none)) :: t))))))) 3 0 0 dX10_liars_89 rfl rfl (fun C h => by cases h) (fun U H h => h.2.2.2.2.1.2.2.2.2.2.1) rfl rfl (by decide) (by rw [cl2]; rfl) ?_
      refine r_astore_n [(2, .ref q1), (1, .ref ag), (0, .ref s)] dX10_liars_90 (by decide) rfl ?_
      refine r_aload_n 2 dX10_liars_91 rfl ?_
      refine r_iconst (v := (0 : Int32)) dX10_liars_92 (by decide) ?_
      refine r_aload_n 2 dX10_liars_93 rfl ?_
      refine r_getm (v := .int (nI nt)) (ci := 10) (fs := [.int (nI ne), .int (nI nt), .ref aC, .ref aD, .ref aO, .ref aT, .int ev, .int cr]) dX10_liars_94 fl_X10_33 (List.mem_cons_of_mem _ (List.mem_cons_of_mem _ (List.mem_cons_of_mem _ (List.mem_cons_of_mem _ (List.mem_append_right _ (List.mem_cons_of_mem _ hS.1)))))) rfl ?_
      refine r_room (x2 := 8 + 1) (y2 := 138 + nt) (by omega) (by omega) ?_
      refine r_newIv (x := 8) (y := 138) (N := nt) dX10_liars_97 kk_105 (nI_pos (by omega)) (nI_clamp (by omega)) (by omega) (fun r => ?_)
      refine r_iconst (v := (0 : Int32)) dX10_liars_99 (by decide) ?_
      refine r_aload_n 0 dX10_liars_100 rfl ?_
      refine r_aload_n 1 dX10_liars_101 rfl ?_
      rw [dbF_zero]
      refine r_seg (ws2 := ((r, iA g nt (dbF 0)) :: ((b0, iA g nt (dbF 0)) :: ((b1, iA g 1 (o1 (nI 0))) :: ((b2, iA g 1 (o1 (nI 99))) :: ((q1, qA g 4 3 (bestF b0 b1 b2)) :: (agW g ra nt nt (agF cl d nt nt 0) ++ ((ag, qA g 5 nt (fun i => if i < nt then some (ra i) else none)) :: t)))))))) [[(r, iA g nt (dbF 0))], [(b2, iA g 1 (o1 (nI 99)))], [(b1, iA g 1 (o1 (nI 0)))], [(b0, iA g nt (dbF 0))], [(q1, qA g 4 3 (bestF b0 b1 b2))], (agW g ra nt nt (agF cl d nt nt 0) ++ ((ag, qA g 5 nt (fun i => if i < nt then some (ra i) else none)) :: t))] [0, 3, 2, 1, 4, 5] rfl rfl rfl ?_
      have e1 : (0 : Int32) = nI (nt - nt) := by rw [Nat.sub_self]; rfl
      have e2 : (0 : Int32) = nI (pcN 0) := rfl
      refine r_seg (ws2 := ((r, iA g nt (dbF 0)) :: ((b0, iA g nt (dbF 0)) :: ((b1, iA g 1 (o1 (nI 0))) :: ((b2, iA g 1 (o1 (nI 99))) :: ((q1, qA g 4 3 (bestF b0 b1 b2)) :: (agW g ra nt nt (agF cl d nt nt 0) ++ ((ag, qA g 5 nt (fun i => if i < nt then some (ra i) else none)) :: t)))))))) [[(r, iA g nt (dbF 0))], [(b0, iA g nt (dbF 0))], [(b1, iA g 1 (o1 (nI 0)))], [(b2, iA g 1 (o1 (nI 99)))], ((q1, qA g 4 3 (bestF b0 b1 b2)) :: (agW g ra nt nt (agF cl d nt nt 0) ++ ((ag, qA g 5 nt (fun i => if i < nt then some (ra i) else none)) :: t)))] [0, 1, 2, 3, 4] rfl rfl rfl ?_
      have C := cl_decide (g := g) (t := ((q1, qA g 4 3 (bestF b0 b1 b2)) :: (agW g ra nt nt (agF cl d nt nt 0) ++ ((ag, qA g 5 nt (fun i => if i < nt then some (ra i) else none)) :: t)))) (r := r) (b0 := b0) (b1 := b1) (b2 := b2) (bo := q1) (ag := ag) (ra := ra) (s := s) (aC := aC) (aD := aD) (aO := aO) (aT := aT) (ne := ne) (ev := ev) (cr := cr) (ca := ca) (cl := cl) (d := d) ⟨(List.mem_cons_of_mem _ (List.mem_append_right _ (List.mem_cons_of_mem _ hS.1))), (List.mem_cons_of_mem _ (List.mem_append_right _ (List.mem_cons_of_mem _ hS.2.1))), fun k hk => (List.mem_cons_of_mem _ (List.mem_append_right _ (List.mem_cons_of_mem _ (hS.2.2.1 k hk)))), (List.mem_cons_of_mem _ (List.mem_append_right _ (List.mem_cons_of_mem _ hS.2.2.2)))⟩ (by omega) List.mem_cons_self (List.mem_cons_of_mem _ (List.mem_append_right _ List.mem_cons_self)) (fun i hi => List.mem_cons_of_mem _ (List.mem_append_left _ (agW_mem hi))) nt 0 (0, 0, 99) (Nat.le_refl _) (Nat.two_pow_pos _) (Nat.two_pow_pos _) (by decide)
      rw [Nat.sub_self] at C
      refine k_Vm (x := 8) (y := 138) (rest := []) dX10_liars_102 kv_X10_58 (C.dq) rfl rfl (List.mem_cons_of_mem _ (List.mem_cons_of_mem _ (List.mem_cons_of_mem _ (List.mem_cons_of_mem _ (List.mem_cons_of_mem _ (List.mem_append_right _ (List.mem_cons_of_mem _ hS.1))))))) rfl (Nat.le_of_ble_eq_true rfl) (by omega) (by decide) ?_
      rintro ⟨⟩ -
      show R g mX10_liars 8 8 138 105 [(2, .ref q1), (1, .ref ag), (0, .ref s)] [] ((r, iA g nt (dbF 0)) :: ((b0, iA g nt (dbF (dcd cl d nt nt 0 (0, 0, 99)).1)) :: ((b1, iA g 1 (o1 (nI (dcd cl d nt nt 0 (0, 0, 99)).2.1))) :: ((b2, iA g 1 (o1 (nI (dcd cl d nt nt 0 (0, 0, 99)).2.2))) :: ((q1, qA g 4 3 (bestF b0 b1 b2)) :: (agW g ra nt nt (agF cl d nt nt 0) ++ ((ag, qA g 5 nt (fun i => if i < nt then some (ra i) else none)) :: t))))))) _
      refine r_seg (ws2 := ((q1, qA g 4 3 (bestF b0 b1 b2)) :: ((b0, iA g nt (dbF (dcd cl d nt nt 0 (0, 0, 99)).1)) :: ((b1, iA g 1 (o1 (nI (dcd cl d nt nt 0 (0, 0, 99)).2.1))) :: ((b2, iA g 1 (o1 (nI (dcd cl d nt nt 0 (0, 0, 99)).2.2))) :: t))))) [[(r, iA g nt (dbF 0))], [(b0, iA g nt (dbF (dcd cl d nt nt 0 (0, 0, 99)).1))], [(b1, iA g 1 (o1 (nI (dcd cl d nt nt 0 (0, 0, 99)).2.1)))], [(b2, iA g 1 (o1 (nI (dcd cl d nt nt 0 (0, 0, 99)).2.2)))], [(q1, qA g 4 3 (bestF b0 b1 b2))], agW g ra nt nt (agF cl d nt nt 0), [(ag, qA g 5 nt (fun i => if i < nt then some (ra i) else none))], t] [4, 1, 2, 3, 7] rfl rfl rfl ?_
      refine r_aload_n 0 dX10_liars_105 rfl ?_
      refine r_aret dX10_liars_106 rfl rfl (Or.inr ⟨_, rfl⟩) ?_
      exact Dq.mk (q1, b0, b1, b2) rfl rfl trivial
    | succ m ih =>
      intro a ha
      have ha2 : a < nt := by omega
      refine r_iload_n 0 dX10_liars_15 rfl ?_
      refine r_aload_n 2 dX10_liars_16 rfl ?_
      refine r_getm (v := .int (nI nt)) (ci := 10) (fs := [.int (nI ne), .int (nI nt), .ref aC, .ref aD, .ref aO, .ref aT, .int ev, .int cr]) dX10_liars_17 fl_X10_33 (List.mem_append_right _ (List.mem_cons_of_mem _ hS.1)) rfl ?_
      refine r_icmp_ge (tgt := 56) dX10_liars_20 (by decide) (fun hc => absurd hc (nI_ge (by omega) (by omega))) (fun _ => ?_)
      refine r_iconst (v := (0 : Int32)) dX10_liars_23 (by decide) ?_
      refine r_top (w := .int (nI 0)) (rfl) ?_
      refine r_istore_n [(3, .int (nI 0)), (2, .int (nI a)), (1, .ref ag), (0, .ref s)] dX10_liars_24 (by decide) rfl ?_
      have L2 : ∀ m2 b, m2 + b = nt → R g mX10_liars 8 13 158 25 [(3, .int (nI b)), (2, .int (nI a)), (1, .ref ag), (0, .ref s)] [] (agW g ra nt nt (agF cl d nt a b) ++ ((ag, qA g 5 nt (fun i => if i < nt then some (ra i) else none)) :: t)) (Dq (fun (z : Nat × Nat × Nat × Nat) => some (.ref z.1)) (fun z => (z.1, qA g 4 3 (bestF z.2.1 z.2.2.1 z.2.2.2)) :: (z.2.1, iA g nt (dbF (dcd cl d nt nt 0 (0, 0, 99)).1)) :: (z.2.2.1, iA g 1 (o1 (nI (dcd cl d nt nt 0 (0, 0, 99)).2.1))) :: (z.2.2.2, iA g 1 (o1 (nI (dcd cl d nt nt 0 (0, 0, 99)).2.2))) :: t) (fun z => True)) := by
        intro m2
        induction m2 with
        | zero =>
          intro b hb
          have eb : b = nt := by omega
          rw [eb, agF_row]
          refine r_iload_n 0 dX10_liars_25 rfl ?_
          refine r_aload_n 3 dX10_liars_26 rfl ?_
          refine r_getm (v := .int (nI nt)) (ci := 10) (fs := [.int (nI ne), .int (nI nt), .ref aC, .ref aD, .ref aO, .ref aT, .int ev, .int cr]) dX10_liars_27 fl_X10_33 (List.mem_append_right _ (List.mem_cons_of_mem _ hS.1)) rfl ?_
          refine r_icmp_ge (tgt := 50) dX10_liars_30 (by decide) (fun _ => ?_) (fun hc => absurd (nI_le (Nat.le_refl _) (by omega)) hc)
          refine r_iinc (v2 := (nI (a + 1))) 1 [(2, .int (nI (a + 1))), (3, .int (nI nt)), (1, .ref ag), (0, .ref s)] dX10_liars_50 rfl (nI_1 a) (by decide) rfl ?_
          refine r_goto (tgt := 15) dX10_liars_53 (by decide) ?_
          refine r_ls [0, 2, 3] (ls2 := [(2, .int (nI (a + 1))), (1, .ref ag), (0, .ref s)]) rfl ?_
          exact ih (a + 1) (by omega)
        | succ m2 ih2 =>
          intro b hb
          have hb2 : b < nt := by omega
          refine r_iload_n 0 dX10_liars_25 rfl ?_
          refine r_aload_n 3 dX10_liars_26 rfl ?_
          refine r_getm (v := .int (nI nt)) (ci := 10) (fs := [.int (nI ne), .int (nI nt), .ref aC, .ref aD, .ref aO, .ref aT, .int ev, .int cr]) dX10_liars_27 fl_X10_33 (List.mem_append_right _ (List.mem_cons_of_mem _ hS.1)) rfl ?_
          refine r_icmp_ge (tgt := 50) dX10_liars_30 (by decide) (fun hc => absurd hc (nI_ge (by omega) (by omega))) (fun _ => ?_)
          refine r_aload_n 2 dX10_liars_33 rfl ?_
          refine r_iload_n 1 dX10_liars_34 rfl ?_
          refine r_aaldm (t := 5) (n := nt) (f := (fun i => if i < nt then some (ra i) else none)) (v := .ref (ra a)) dX10_liars_35 rfl rfl (List.mem_append_right _ List.mem_cons_self) (ib_nI ha2 (by omega)) (by rw [nI_clamp (by omega), if_pos ha2]; rfl) ?_
          refine r_iload_n 0 dX10_liars_36 rfl ?_
          refine r_aload_n 3 dX10_liars_37 rfl ?_
          refine r_iload_n 1 dX10_liars_38 rfl ?_
          refine r_iload_n 0 dX10_liars_39 rfl ?_
          refine k_Vm (x := 13) (y := 158) (rest := [.int (nI b), .ref (ra a)]) dX10_liars_40 kv_X10_54 ((cl_contradict (s := s) (aC := aC) (aD := aD) (aO := aO) (aT := aT) (ne := ne) (nt := nt) (ev := ev) (cr := cr) (ca := ca) (cl := cl) (d := d) (a := a) (b := b) ⟨(List.mem_append_right _ (List.mem_cons_of_mem _ hS.1)), (List.mem_append_right _ (List.mem_cons_of_mem _ hS.2.1)), fun k hk => (List.mem_append_right _ (List.mem_cons_of_mem _ (hS.2.2.1 k hk))), (List.mem_append_right _ (List.mem_cons_of_mem _ hS.2.2.2))⟩ hV (by omega) (by omega)).dq) rfl rfl (List.mem_append_right _ (List.mem_cons_of_mem _ hS.1)) rfl (Nat.le_of_ble_eq_true rfl) (by decide) (by decide) ?_
          rintro ⟨⟩ -
          show R g mX10_liars 8 13 158 43 [(3, .int (nI b)), (2, .int (nI a)), (1, .ref ag), (0, .ref s)] [.int (bI (conS cl d a b)), .int (nI b), .ref (ra a)] (agW g ra nt nt (agF cl d nt a b) ++ ((ag, qA g 5 nt (fun i => if i < nt then some (ra i) else none)) :: t)) _
          refine r_zast (w := bI (conS cl d a b)) (ws2 := (agW g ra nt nt (agF cl d nt a (b + 1)) ++ ((ag, qA g 5 nt (fun i => if i < nt then some (ra i) else none)) :: t))) a dX10_liars_43 (agW_get ha2) (ib_nI hb2 (by omega)) (bI_nar _) (by rw [nI_clamp (by omega), (agF_put cl d nt a b hb2).1]; exact agW_set ha2 (agF_put cl d nt a b hb2).2) ?_
          refine r_iinc (v2 := (nI (b + 1))) 0 [(3, .int (nI (b + 1))), (2, .int (nI a)), (1, .ref ag), (0, .ref s)] dX10_liars_44 rfl (nI_1 b) (by decide) rfl ?_
          refine r_goto (tgt := 25) dX10_liars_47 (by decide) ?_
          exact ih2 (b + 1) (by omega)
      exact L2 nt 0 (by omega)
  exact L nt 0 (by omega)
set_option maxRecDepth 20000 in
set_option maxHeartbeats 4000000 in
theorem cl_window {g : GG} {t : va_W} {s aC aD aO aT ne nt : Nat} {ev cr : Int32} {ca : List Nat} {cl : List (Nat → Int32)} {d : Nat} {e : Nat} (hS : SimM g t s aC aD aO aT ne nt ev cr ca cl d) (hV : CV ne nt ca cl) (hn : nt ≤ 10) : Ct g mX10_window 1 1 3 [.ref s, .int (nI e)] t (Dq (fun (z : Nat) => some (.ref z)) (fun z => (z, iA g 3 (r3 (winS cl d e 100).1 (winS cl d e 100).2.1 (nI (winS cl d e 100).2.2))) :: t) (fun z => True)) := by
  refine Ct.ofR (by decide +kernel) rfl (Nat.le_of_ble_eq_true rfl) ?_
  show R g mX10_window 1 1 3 0 [(0, .ref s), (1, .int (nI e))] [] t _
  obtain ⟨hlen, h40, hV1⟩ := id hV
  refine r_iconst (v := (3 : Int32)) dX10_window_0 (by decide) ?_
  refine r_newIv (x := 0) (y := 0) (N := 3) dX10_window_1 kk_105 (by decide) (by decide) (by decide) (fun q2 => ?_)
  refine r_dup dX10_window_3 rfl ?_
  refine r_iconst (v := (0 : Int32)) dX10_window_4 (by decide) ?_
  refine r_iconst (v := (-1 : Int32)) dX10_window_5 (by decide) ?_
  refine r_iast (ws2 := ((q2, iA g 3 (upd (fun _ => 0) 0 (-1 : Int32))) :: t)) 0 dX10_window_6 rfl (by decide) (by rw [cl0] <;> rfl) ?_
  refine r_dup dX10_window_7 rfl ?_
  refine r_iconst (v := (1 : Int32)) dX10_window_8 (by decide) ?_
  refine r_iconst (v := (-1 : Int32)) dX10_window_9 (by decide) ?_
  refine r_iast (ws2 := ((q2, iA g 3 (upd (upd (fun _ => 0) 0 (-1 : Int32)) 1 (-1 : Int32))) :: t)) 0 dX10_window_10 rfl (by decide) (by rw [cl1] <;> rfl) ?_
  refine r_dup dX10_window_11 rfl ?_
  refine r_iconst (v := (2 : Int32)) dX10_window_12 (by decide) ?_
  refine r_iconst (v := (0 : Int32)) dX10_window_13 (by decide) ?_
  refine r_iast (ws2 := ((q2, iA g 3 (r3 (-1) (-1) (nI 0))) :: t)) 0 dX10_window_14 rfl (by decide) (by rw [cl2]; rfl) ?_
  refine r_astore_n [(2, .ref q2), (0, .ref s), (1, .int (nI e))] dX10_window_15 (by decide) rfl ?_
  refine r_iconst (v := (0 : Int32)) dX10_window_16 (by decide) ?_
  refine r_top (w := .int (nI 0)) (rfl) ?_
  refine r_istore_n [(3, .int (nI 0)), (2, .ref q2), (0, .ref s), (1, .int (nI e))] dX10_window_17 (by decide) rfl ?_
  have L : ∀ m h, m + h = 100 → R g mX10_window 1 0 0 18 [(3, .int (nI h)), (2, .ref q2), (0, .ref s), (1, .int (nI e))] [] ((q2, iA g 3 (r3 (winS cl d e h).1 (winS cl d e h).2.1 (nI (winS cl d e h).2.2))) :: t) (Dq (fun (z : Nat) => some (.ref z)) (fun z => (z, iA g 3 (r3 (winS cl d e 100).1 (winS cl d e 100).2.1 (nI (winS cl d e 100).2.2))) :: t) (fun z => True)) := by
    intro m
    induction m with
    | zero =>
      intro h hh
      have eh : h = 100 := by omega
      subst eh
      refine r_iload_n 0 dX10_window_18 rfl ?_
      refine r_bipush (v := (100 : Int32)) dX10_window_19 (by decide) ?_
      refine r_icmp_ge (tgt := 149) dX10_window_21 (by decide) (fun _ => ?_) (fun hc => absurd (by decide) hc)
      refine r_aload_n 1 dX10_window_149 rfl ?_
      refine r_aret dX10_window_150 rfl rfl (Or.inr ⟨_, rfl⟩) ?_
      exact Dq.mk q2 rfl rfl trivial
    | succ m ih =>
      intro h hh
      have hw := win_le cl d e h
      refine r_iload_n 0 dX10_window_18 rfl ?_
      refine r_bipush (v := (100 : Int32)) dX10_window_19 (by decide) ?_
      refine r_icmp_ge (tgt := 149) dX10_window_21 (by decide) (fun hc => absurd hc (by show ¬ nI 100 ≤ nI h; exact nI_ge (by omega) (by decide))) (fun _ => ?_)
      refine r_iconst (v := (1 : Int32)) dX10_window_24 (by decide) ?_
      refine r_top (w := .int (bI (okH cl d e h 0))) (rfl) ?_
      refine r_istore [(4, .int (bI (okH cl d e h 0))), (3, .int (nI h)), (2, .ref q2), (0, .ref s), (1, .int (nI e))] dX10_window_25 (by decide) rfl ?_
      refine r_aload_n 3 dX10_window_27 rfl ?_
      refine r_getm (v := .ref aC) (ci := 10) (fs := [.int (nI ne), .int (nI nt), .ref aC, .ref aD, .ref aO, .ref aT, .int ev, .int cr]) dX10_window_28 fl_X10_9 (List.mem_cons_of_mem _ hS.1) rfl ?_
      refine r_astore [(5, .ref aC), (4, .int (bI (okH cl d e h 0))), (3, .int (nI h)), (2, .ref q2), (0, .ref s), (1, .int (nI e))] dX10_window_31 (by decide) rfl ?_
      refine r_aload 0 dX10_window_33 rfl ?_
      refine r_alenm (t := 4) (v := (nI ca.length)) dX10_window_35 rfl (List.mem_cons_of_mem _ hS.2.1) (by rfl) ?_
      refine r_istore [(6, .int (nI ca.length)), (5, .ref aC), (4, .int (bI (okH cl d e h 0))), (3, .int (nI h)), (2, .ref q2), (0, .ref s), (1, .int (nI e))] dX10_window_36 (by decide) rfl ?_
      refine r_iconst (v := (0 : Int32)) dX10_window_38 (by decide) ?_
      refine r_top (w := .int (nI 0)) (rfl) ?_
      refine r_istore [(7, .int (nI 0)), (6, .int (nI ca.length)), (5, .ref aC), (4, .int (bI (okH cl d e h 0))), (3, .int (nI h)), (2, .ref q2), (0, .ref s), (1, .int (nI e))] dX10_window_39 (by decide) rfl ?_
      have L2 : ∀ m2 c, m2 + c = ca.length → R g mX10_window 1 0 0 41 [(7, .int (nI c)), (6, .int (nI ca.length)), (5, .ref aC), (4, .int (bI (okH cl d e h c))), (3, .int (nI h)), (2, .ref q2), (0, .ref s), (1, .int (nI e))] [] ((q2, iA g 3 (r3 (winS cl d e h).1 (winS cl d e h).2.1 (nI (winS cl d e h).2.2))) :: t) (Dq (fun (z : Nat) => some (.ref z)) (fun z => (z, iA g 3 (r3 (winS cl d e 100).1 (winS cl d e 100).2.1 (nI (winS cl d e 100).2.2))) :: t) (fun z => True)) := by
        intro m2
        induction m2 with
        | zero =>
          intro c hc
          have ec : c = cl.length := by omega
          subst ec
          refine r_iload 0 dX10_window_41 rfl ?_
          refine r_iload 1 dX10_window_43 rfl ?_
          refine r_icmp_ge (tgt := 114) dX10_window_45 (by decide) (fun _ => ?_) (fun hc => absurd (nI_le (by omega) (by omega)) hc)
          refine r_iload 3 dX10_window_114 rfl ?_
          refine r_if_ne (tgt := 122) dX10_window_116 (by decide) (fun h1 => ?_) (fun h1 => ?_)
          · have e0 : okH cl d e h cl.length = true := by cases h9 : okH cl d e h cl.length with | false => rw [h9] at h1; exact absurd rfl h1 | true => rfl
            refine r_aload_n 5 dX10_window_122 rfl ?_
            refine r_iconst (v := (2 : Int32)) dX10_window_123 (by decide) ?_
            refine r_ialdm (n := 3) (f := (r3 (winS cl d e h).1 (winS cl d e h).2.1 (nI (winS cl d e h).2.2))) dX10_window_124 List.mem_cons_self (by decide) ?_
            refine r_top (w := .int (nI (winS cl d e h).2.2)) (by rw [cl2]; rfl) ?_
            refine r_if_ne (tgt := 132) dX10_window_125 (by decide) (fun h2 => ?_) (fun h2 => ?_)
            · have e2 : ¬ (winS cl d e h).2.2 = 0 := fun h9 => h2 (by rw [h9]; rfl)
              have e1 : winS cl d e (h + 1) = ((winS cl d e h).1, nI h, (winS cl d e h).2.2 + 1) := by rw [winS, if_pos e0, if_neg e2]
              refine r_aload_n 5 dX10_window_132 rfl ?_
              refine r_iconst (v := (1 : Int32)) dX10_window_133 (by decide) ?_
              refine r_iload_n 4 dX10_window_134 rfl ?_
              refine r_iast (ws2 := ((q2, iA g 3 (r3 (winS cl d e h).1 (nI h) (nI (winS cl d e h).2.2))) :: t)) 0 dX10_window_135 rfl (by decide) (by rw [cl1, r3_1] <;> rfl) ?_
              refine r_aload_n 5 dX10_window_136 rfl ?_
              refine r_iconst (v := (2 : Int32)) dX10_window_137 (by decide) ?_
              refine r_dup2 dX10_window_138 rfl rfl ?_
              refine r_ialdm (n := 3) (f := (r3 (winS cl d e h).1 (nI h) (nI (winS cl d e h).2.2))) dX10_window_139 List.mem_cons_self (by decide) ?_
              refine r_top (w := .int (nI (winS cl d e h).2.2)) (by rw [cl2]; rfl) ?_
              refine r_iconst (v := (1 : Int32)) dX10_window_140 (by decide) ?_
              refine r_iadd dX10_window_141 ?_
              refine r_top (w := .int (nI ((winS cl d e h).2.2 + 1))) (by rw [← nI_1]) ?_
              refine r_iast (ws2 := ((q2, iA g 3 (r3 (winS cl d e h).1 (nI h) (nI ((winS cl d e h).2.2 + 1)))) :: t)) 0 dX10_window_142 rfl (by decide) (by rw [cl2, r3_2] <;> rfl) ?_
              refine r_iinc (v2 := (nI (h + 1))) 4 [(3, .int (nI (h + 1))), (7, .int (nI cl.length)), (6, .int (nI ca.length)), (5, .ref aC), (4, .int (bI (okH cl d e h cl.length))), (2, .ref q2), (0, .ref s), (1, .int (nI e))] dX10_window_143 rfl (nI_1 h) (by decide) rfl ?_
              refine r_goto (tgt := 18) dX10_window_146 (by decide) ?_
              refine r_ls [0, 5, 6, 7] (ls2 := [(3, .int (nI (h + 1))), (2, .ref q2), (0, .ref s), (1, .int (nI e))]) rfl ?_
              have K := ih (h + 1) (by omega)
              rw [e1] at K
              exact K
            · have e2 : (winS cl d e h).2.2 = 0 := (q_0 (by omega)).mp h2
              refine r_aload_n 5 dX10_window_128 rfl ?_
              refine r_iconst (v := (0 : Int32)) dX10_window_129 (by decide) ?_
              refine r_iload_n 4 dX10_window_130 rfl ?_
              refine r_iast (ws2 := ((q2, iA g 3 (r3 (nI h) (winS cl d e h).2.1 (nI (winS cl d e h).2.2))) :: t)) 0 dX10_window_131 rfl (by decide) (by rw [cl0, r3_0] <;> rfl) ?_
              have e1 : winS cl d e (h + 1) = ((nI h), nI h, (winS cl d e h).2.2 + 1) := by rw [winS, if_pos e0, if_pos e2]
              refine r_aload_n 5 dX10_window_132 rfl ?_
              refine r_iconst (v := (1 : Int32)) dX10_window_133 (by decide) ?_
              refine r_iload_n 4 dX10_window_134 rfl ?_
              refine r_iast (ws2 := ((q2, iA g 3 (r3 (nI h) (nI h) (nI (winS cl d e h).2.2))) :: t)) 0 dX10_window_135 rfl (by decide) (by rw [cl1, r3_1] <;> rfl) ?_
              refine r_aload_n 5 dX10_window_136 rfl ?_
              refine r_iconst (v := (2 : Int32)) dX10_window_137 (by decide) ?_
              refine r_dup2 dX10_window_138 rfl rfl ?_
              refine r_ialdm (n := 3) (f := (r3 (nI h) (nI h) (nI (winS cl d e h).2.2))) dX10_window_139 List.mem_cons_self (by decide) ?_
              refine r_top (w := .int (nI (winS cl d e h).2.2)) (by rw [cl2]; rfl) ?_
              refine r_iconst (v := (1 : Int32)) dX10_window_140 (by decide) ?_
              refine r_iadd dX10_window_141 ?_
              refine r_top (w := .int (nI ((winS cl d e h).2.2 + 1))) (by rw [← nI_1]) ?_
              refine r_iast (ws2 := ((q2, iA g 3 (r3 (nI h) (nI h) (nI ((winS cl d e h).2.2 + 1)))) :: t)) 0 dX10_window_142 rfl (by decide) (by rw [cl2, r3_2] <;> rfl) ?_
              refine r_iinc (v2 := (nI (h + 1))) 4 [(3, .int (nI (h + 1))), (7, .int (nI cl.length)), (6, .int (nI ca.length)), (5, .ref aC), (4, .int (bI (okH cl d e h cl.length))), (2, .ref q2), (0, .ref s), (1, .int (nI e))] dX10_window_143 rfl (nI_1 h) (by decide) rfl ?_
              refine r_goto (tgt := 18) dX10_window_146 (by decide) ?_
              refine r_ls [0, 5, 6, 7] (ls2 := [(3, .int (nI (h + 1))), (2, .ref q2), (0, .ref s), (1, .int (nI e))]) rfl ?_
              have K := ih (h + 1) (by omega)
              rw [e1] at K
              exact K
          · have e1 : winS cl d e (h + 1) = winS cl d e h := by rw [winS, if_neg (by rw [bI_0.mp h1]; decide)]
            refine r_goto (tgt := 143) dX10_window_119 (by decide) ?_
            refine r_iinc (v2 := (nI (h + 1))) 4 [(3, .int (nI (h + 1))), (7, .int (nI cl.length)), (6, .int (nI ca.length)), (5, .ref aC), (4, .int (bI (okH cl d e h cl.length))), (2, .ref q2), (0, .ref s), (1, .int (nI e))] dX10_window_143 rfl (nI_1 h) (by decide) rfl ?_
            refine r_goto (tgt := 18) dX10_window_146 (by decide) ?_
            refine r_ls [0, 5, 6, 7] (ls2 := [(3, .int (nI (h + 1))), (2, .ref q2), (0, .ref s), (1, .int (nI e))]) rfl ?_
            have K := ih (h + 1) (by omega)
            rw [e1] at K
            exact K
        | succ m2 ih2 =>
          intro c hc
          have hc2 : c < ca.length := by omega
          obtain ⟨et, ht⟩ := cv_t hV (by omega) (c := c) (by omega)
          refine r_iload 0 dX10_window_41 rfl ?_
          refine r_iload 1 dX10_window_43 rfl ?_
          refine r_icmp_ge (tgt := 114) dX10_window_45 (by decide) (fun hc => absurd hc (nI_ge (by omega) (by omega))) (fun _ => ?_)
          refine r_aload 2 dX10_window_48 rfl ?_
          refine r_iload 0 dX10_window_50 rfl ?_
          refine r_aaldm (t := 4) (n := ca.length) (f := (fun k => ca[k]?)) (v := .ref (ca.getD c 0)) dX10_window_52 rfl rfl (List.mem_cons_of_mem _ hS.2.1) (ib_nI (hc2) (by omega)) (by rw [nI_clamp (by omega), List.getD_eq_getElem?_getD, List.getElem?_eq_getElem (hc2)]; rfl) ?_
          refine r_astore [(8, .ref (ca.getD c 0)), (7, .int (nI c)), (6, .int (nI ca.length)), (5, .ref aC), (4, .int (bI (okH cl d e h c))), (3, .int (nI h)), (2, .ref q2), (0, .ref s), (1, .int (nI e))] dX10_window_53 (by decide) rfl ?_
          refine r_iload 4 dX10_window_55 rfl ?_
          refine r_aload 0 dX10_window_57 rfl ?_
          refine r_iconst (v := (0 : Int32)) dX10_window_59 (by decide) ?_
          have J : ∀ b : Bool, b = (decide (0 < rw5 cl c 0) || !decide (rw5 cl c 2 = nI e) || d.testBit (tN (rwK cl 1) c) || (!decide (nI h < rw5 cl c 3) && !decide (rw5 cl c 4 < nI h))) → R g mX10_window 1 0 0 105 [(8, .ref (ca.getD c 0)), (7, .int (nI c)), (6, .int (nI ca.length)), (5, .ref aC), (4, .int (bI (okH cl d e h c))), (3, .int (nI h)), (2, .ref q2), (0, .ref s), (1, .int (nI e))] [.int (bI b), .int (bI (okH cl d e h c))] ((q2, iA g 3 (r3 (winS cl d e h).1 (winS cl d e h).2.1 (nI (winS cl d e h).2.2))) :: t) (Dq (fun (z : Nat) => some (.ref z)) (fun z => (z, iA g 3 (r3 (winS cl d e 100).1 (winS cl d e 100).2.1 (nI (winS cl d e 100).2.2))) :: t) (fun z => True)) := by
            intro b hb
            refine r_iand dX10_window_105 ?_
            refine r_top (w := .int (bI (okH cl d e h (c + 1)))) (by show _ = Value.int (bI (okH cl d e h c && (decide (0 < rw5 cl c 0) || !decide (rw5 cl c 2 = nI e) || d.testBit (tN (rwK cl 1) c) || (!decide (nI h < rw5 cl c 3) && !decide (rw5 cl c 4 < nI h))))); rw [← hb]; cases okH cl d e h c <;> cases b <;> rfl) ?_
            refine r_istore [(4, .int (bI (okH cl d e h (c + 1)))), (8, .ref (ca.getD c 0)), (7, .int (nI c)), (6, .int (nI ca.length)), (5, .ref aC), (3, .int (nI h)), (2, .ref q2), (0, .ref s), (1, .int (nI e))] dX10_window_106 (by decide) rfl ?_
            refine r_iinc (v2 := (nI (c + 1))) 2 [(7, .int (nI (c + 1))), (4, .int (bI (okH cl d e h (c + 1)))), (8, .ref (ca.getD c 0)), (6, .int (nI ca.length)), (5, .ref aC), (3, .int (nI h)), (2, .ref q2), (0, .ref s), (1, .int (nI e))] dX10_window_108 rfl (nI_1 c) (by decide) rfl ?_
            refine r_goto (tgt := 41) dX10_window_111 (by decide) ?_
            refine r_ls [0, 3, 4, 1, 5, 6, 7, 8] (ls2 := [(7, .int (nI (c + 1))), (6, .int (nI ca.length)), (5, .ref aC), (4, .int (bI (okH cl d e h (c + 1)))), (3, .int (nI h)), (2, .ref q2), (0, .ref s), (1, .int (nI e))]) rfl ?_
            exact ih2 (c + 1) (by omega)
          refine r_ialdm (n := 5) (f := (rw5 cl c)) dX10_window_60 (List.mem_cons_of_mem _ (hS.2.2.1 c (hc2))) (by decide) ?_
          refine r_top (w := .int (rw5 cl c 0)) (by rw [cl0]) ?_
          refine r_if_gt (tgt := 100) dX10_window_61 (by decide) (fun c0 => ?_) (fun c0 => ?_)
          · refine r_iconst (v := (1 : Int32)) dX10_window_100 (by decide) ?_
            refine r_goto (tgt := 105) dX10_window_101 (by decide) ?_
            refine r_top (w := .int (bI true)) (rfl) ?_
            exact J _ (by simp only [eq_true c0, decide_true, decide_false, Bool.and_true, Bool.true_and, Bool.and_false, Bool.false_and, Bool.or_true, Bool.true_or, Bool.or_false, Bool.false_or, Bool.not_true, Bool.not_false])
          · refine r_aload 0 dX10_window_64 rfl ?_
            refine r_iconst (v := (2 : Int32)) dX10_window_66 (by decide) ?_
            refine r_ialdm (n := 5) (f := (rw5 cl c)) dX10_window_67 (List.mem_cons_of_mem _ (hS.2.2.1 c (hc2))) (by decide) ?_
            refine r_top (w := .int (rw5 cl c 2)) (by rw [cl2]) ?_
            refine r_iload_n 8 dX10_window_68 rfl ?_
            refine r_icmp_ne (tgt := 100) dX10_window_69 (by decide) (fun c1 => ?_) (fun c1 => ?_)
            · refine r_iconst (v := (1 : Int32)) dX10_window_100 (by decide) ?_
              refine r_goto (tgt := 105) dX10_window_101 (by decide) ?_
              refine r_top (w := .int (bI true)) (rfl) ?_
              exact J _ (by simp only [eq_false c0, eq_false c1, decide_true, decide_false, Bool.and_true, Bool.true_and, Bool.and_false, Bool.false_and, Bool.or_true, Bool.true_or, Bool.or_false, Bool.false_or, Bool.not_true, Bool.not_false])
            · refine r_aload_n 7 dX10_window_72 rfl ?_
              refine r_getm (v := .ref aD) (ci := 10) (fs := [.int (nI ne), .int (nI nt), .ref aC, .ref aD, .ref aO, .ref aT, .int ev, .int cr]) dX10_window_73 fl_X10_15 (List.mem_cons_of_mem _ hS.1) rfl ?_
              refine r_aload 0 dX10_window_76 rfl ?_
              refine r_iconst (v := (1 : Int32)) dX10_window_78 (by decide) ?_
              refine r_ialdm (n := 5) (f := (rw5 cl c)) dX10_window_79 (List.mem_cons_of_mem _ (hS.2.2.1 c (hc2))) (by decide) ?_
              refine r_top (w := .int (nI (tN (rwK cl 1) c))) (by rw [cl1, et]) ?_
              refine r_zaldm (n := 10) (f := (dbF d)) dX10_window_80 (List.mem_cons_of_mem _ hS.2.2.2) (ib_nI (by omega) (by decide)) ?_
              refine r_top (w := .int (dbF d (tN (rwK cl 1) c))) (by rw [nI_clamp (by omega)]) ?_
              refine r_if_ne (tgt := 100) dX10_window_81 (by decide) (fun c2 => ?_) (fun c2 => ?_)
              · have e3 : d.testBit (tN (rwK cl 1) c) = true := by cases h9 : d.testBit (tN (rwK cl 1) c) with | false => exact absurd (dbF_0.mpr h9) c2 | true => rfl
                refine r_iconst (v := (1 : Int32)) dX10_window_100 (by decide) ?_
                refine r_goto (tgt := 105) dX10_window_101 (by decide) ?_
                refine r_top (w := .int (bI true)) (rfl) ?_
                exact J _ (by simp only [e3, decide_true, decide_false, Bool.and_true, Bool.true_and, Bool.and_false, Bool.false_and, Bool.or_true, Bool.true_or, Bool.or_false, Bool.false_or, Bool.not_true, Bool.not_false])
              · have e3 : d.testBit (tN (rwK cl 1) c) = false := dbF_0.mp c2
                refine r_iload_n 5 dX10_window_84 rfl ?_
                refine r_aload 0 dX10_window_85 rfl ?_
                refine r_iconst (v := (3 : Int32)) dX10_window_87 (by decide) ?_
                refine r_ialdm (n := 5) (f := (rw5 cl c)) dX10_window_88 (List.mem_cons_of_mem _ (hS.2.2.1 c (hc2))) (by decide) ?_
                refine r_top (w := .int (rw5 cl c 3)) (by rw [cl3]) ?_
                refine r_icmp_lt (tgt := 104) dX10_window_89 (by decide) (fun c3 => ?_) (fun c3 => ?_)
                · refine r_iconst (v := (0 : Int32)) dX10_window_104 (by decide) ?_
                  refine r_top (w := .int (bI false)) (rfl) ?_
                  exact J _ (by simp only [eq_false c0, eq_true c1, e3, eq_true c3, decide_true, decide_false, Bool.and_true, Bool.true_and, Bool.and_false, Bool.false_and, Bool.or_true, Bool.true_or, Bool.or_false, Bool.false_or, Bool.not_true, Bool.not_false])
                · refine r_iload_n 5 dX10_window_92 rfl ?_
                  refine r_aload 0 dX10_window_93 rfl ?_
                  refine r_iconst (v := (4 : Int32)) dX10_window_95 (by decide) ?_
                  refine r_ialdm (n := 5) (f := (rw5 cl c)) dX10_window_96 (List.mem_cons_of_mem _ (hS.2.2.1 c (hc2))) (by decide) ?_
                  refine r_top (w := .int (rw5 cl c 4)) (by rw [cl4]) ?_
                  refine r_icmp_gt (tgt := 104) dX10_window_97 (by decide) (fun c4 => ?_) (fun c4 => ?_)
                  · refine r_iconst (v := (0 : Int32)) dX10_window_104 (by decide) ?_
                    refine r_top (w := .int (bI false)) (rfl) ?_
                    exact J _ (by simp only [eq_false c0, eq_true c1, e3, eq_false c3, eq_true c4, decide_true, decide_false, Bool.and_true, Bool.true_and, Bool.and_false, Bool.false_and, Bool.or_true, Bool.true_or, Bool.or_false, Bool.false_or, Bool.not_true, Bool.not_false])
                  · refine r_iconst (v := (1 : Int32)) dX10_window_100 (by decide) ?_
                    refine r_goto (tgt := 105) dX10_window_101 (by decide) ?_
                    refine r_top (w := .int (bI true)) (rfl) ?_
                    exact J _ (by simp only [eq_false c0, eq_true c1, e3, eq_false c3, eq_false c4, decide_true, decide_false, Bool.and_true, Bool.true_and, Bool.and_false, Bool.false_and, Bool.or_true, Bool.true_or, Bool.or_false, Bool.false_or, Bool.not_true, Bool.not_false])
      exact L2 ca.length 0 (by omega)
  exact L 100 0 rfl
