set_option maxRecDepth 20000 in
set_option maxHeartbeats 16000000 in
theorem cl_isSame {g : GG} {ad : Nat → Nat} {t W : va_W} {s ne nt d : Nat} {cl : List (Nat → Int32)} {os : List OT} {ev cr : Int32} (hP : PS g ad s W ne nt cl os d ev cr) : Ct g mX10_isSame 11 2000 12000 [.ref s, .ref (ad 0)] (W ++ t) (Dq (fun (_ : va_W) => some (.int (1 : Int32))) (fun z => z ++ t) (fun _ => True)) := by
  obtain ⟨aC, aD, aO, aT, ca, oa, w0, r, rfl, hI, hC, hO, hV, hD⟩ := hP
  obtain ⟨n1, n2, n3, n4, hd, h40, hV1, -⟩ := CI.num hI
  obtain ⟨fs0, hc0⟩ := CI.cell hI
  have hlc := hV.1
  obtain ⟨sB, hsB⟩ : ∃ sB : va_W, sB = simO s aC aD aO aT ne nt ev cr :: (aD, zA g 10 (dbF d)) :: r := ⟨_, rfl⟩
  have hS : SimM g sB s aC aD aO aT ne nt ev cr ca cl d := by rw [hsB]; exact SimR.m hC
  refine Ct.ofR (by decide +kernel) rfl (Nat.le_of_ble_eq_true rfl) ?_
  refine r_seg (ws2 := (w0 ++ (sB ++ t))) [[simO s aC aD aO aT ne nt ev cr], [(aD, zA g 10 (dbF d))], w0, r, t] [2, 0, 1, 3, 4] rfl (by simp [wj]) (by rw [hsB]; rfl) ?_
  show R g mX10_isSame 11 2000 12000 0 [(0, .ref s), (1, .ref (ad 0))] [] (w0 ++ (sB ++ t)) (Dq (fun (_ : va_W) => some (.int (1 : Int32))) (fun z => z ++ t) (fun _ => True))
  refine r_aload_n 1 dX10_isSame_0 rfl ?_
  refine k_Vm (x := 2000) (y := 12000) (rest := []) dX10_isSame_1 kv_X10_72 (ap_events hI) rfl rfl (List.mem_append_left _ hc0) rfl (Nat.le_of_ble_eq_true rfl) (by decide) (by decide) ?_
  rintro w1 hI1
  obtain ⟨fs2, hc1⟩ := CI.cell hI1
  show R g mX10_isSame 11 2000 12000 4 [(0, .ref s), (1, .ref (ad 0))] [.int (nI ne)] (w1 ++ (sB ++ t)) (Dq (fun (_ : va_W) => some (.int (1 : Int32))) (fun z => z ++ t) (fun _ => True))
  refine r_aload_n 0 dX10_isSame_4 rfl ?_
  refine r_getm (v := .int (nI ne)) (ci := 10) (fs := [.int (nI ne), .int (nI nt), .ref aC, .ref aD, .ref aO, .ref aT, .int ev, .int cr]) dX10_isSame_5 fl_X10_29 (List.mem_append_right _ (List.mem_append_left _ hS.1)) rfl ?_
  refine r_icmp_ne (tgt := 99) dX10_isSame_8 (by decide) (fun hc => absurd (rfl) hc) (fun _ => ?_)
  refine r_aload_n 1 dX10_isSame_11 rfl ?_
  refine k_Vm (x := 2000) (y := 12000) (rest := []) dX10_isSame_12 kv_X10_77 (ap_tellers hI1) rfl rfl (List.mem_append_left _ hc1) rfl (Nat.le_of_ble_eq_true rfl) (by decide) (by decide) ?_
  rintro w2 hI2
  obtain ⟨fs4, hc3⟩ := CI.cell hI2
  show R g mX10_isSame 11 2000 12000 15 [(0, .ref s), (1, .ref (ad 0))] [.int (nI nt)] (w2 ++ (sB ++ t)) (Dq (fun (_ : va_W) => some (.int (1 : Int32))) (fun z => z ++ t) (fun _ => True))
  refine r_aload_n 0 dX10_isSame_15 rfl ?_
  refine r_getm (v := .int (nI nt)) (ci := 10) (fs := [.int (nI ne), .int (nI nt), .ref aC, .ref aD, .ref aO, .ref aT, .int ev, .int cr]) dX10_isSame_16 fl_X10_33 (List.mem_append_right _ (List.mem_append_left _ hS.1)) rfl ?_
  refine r_icmp_ne (tgt := 99) dX10_isSame_19 (by decide) (fun hc => absurd (rfl) hc) (fun _ => ?_)
  refine r_aload_n 1 dX10_isSame_22 rfl ?_
  refine k_Vm (x := 2000) (y := 12000) (rest := []) dX10_isSame_23 kv_X10_79 (ap_claims hI2) rfl rfl (List.mem_append_left _ hc3) rfl (Nat.le_of_ble_eq_true rfl) (by decide) (by decide) ?_
  rintro w3 hI3
  obtain ⟨fs6, hc5⟩ := CI.cell hI3
  show R g mX10_isSame 11 2000 12000 26 [(0, .ref s), (1, .ref (ad 0))] [.int (nI cl.length)] (w3 ++ (sB ++ t)) (Dq (fun (_ : va_W) => some (.int (1 : Int32))) (fun z => z ++ t) (fun _ => True))
  refine r_aload_n 0 dX10_isSame_26 rfl ?_
  refine r_getm (v := .ref aC) (ci := 10) (fs := [.int (nI ne), .int (nI nt), .ref aC, .ref aD, .ref aO, .ref aT, .int ev, .int cr]) dX10_isSame_27 fl_X10_9 (List.mem_append_right _ (List.mem_append_left _ hS.1)) rfl ?_
  refine r_alenm (t := 4) (v := (nI ca.length)) dX10_isSame_30 rfl (List.mem_append_right _ (List.mem_append_left _ hS.2.1)) (by rfl) ?_
  refine r_top (w := .int (nI cl.length)) (by rw [hlc]) ?_
  refine r_icmp_ne (tgt := 99) dX10_isSame_31 (by decide) (fun hc => absurd (rfl) hc) (fun _ => ?_)
  refine r_aload_n 1 dX10_isSame_34 rfl ?_
  refine k_Vm (x := 2000) (y := 12000) (rest := []) dX10_isSame_35 kv_X10_81 (ap_evenings hI3) rfl rfl (List.mem_append_left _ hc5) rfl (Nat.le_of_ble_eq_true rfl) (by decide) (by decide) ?_
  rintro w4 hI4
  obtain ⟨fs8, hc7⟩ := CI.cell hI4
  show R g mX10_isSame 11 2000 12000 38 [(0, .ref s), (1, .ref (ad 0))] [.int ev] (w4 ++ (sB ++ t)) (Dq (fun (_ : va_W) => some (.int (1 : Int32))) (fun z => z ++ t) (fun _ => True))
  refine r_aload_n 0 dX10_isSame_38 rfl ?_
  refine r_getm (v := .int ev) (ci := 10) (fs := [.int (nI ne), .int (nI nt), .ref aC, .ref aD, .ref aO, .ref aT, .int ev, .int cr]) dX10_isSame_39 fl_X10_36 (List.mem_append_right _ (List.mem_append_left _ hS.1)) rfl ?_
  refine r_icmp_ne (tgt := 99) dX10_isSame_42 (by decide) (fun hc => absurd (rfl) hc) (fun _ => ?_)
  refine r_aload_n 1 dX10_isSame_45 rfl ?_
  refine k_Vm (x := 2000) (y := 12000) (rest := []) dX10_isSame_46 kv_X10_83 (ap_ordersCarriedOut hI4) rfl rfl (List.mem_append_left _ hc7) rfl (Nat.le_of_ble_eq_true rfl) (by decide) (by decide) ?_
  rintro w5 hI5
  obtain ⟨fs10, hc9⟩ := CI.cell hI5
  show R g mX10_isSame 11 2000 12000 49 [(0, .ref s), (1, .ref (ad 0))] [.int cr] (w5 ++ (sB ++ t)) (Dq (fun (_ : va_W) => some (.int (1 : Int32))) (fun z => z ++ t) (fun _ => True))
  refine r_aload_n 0 dX10_isSame_49 rfl ?_
  refine r_getm (v := .int cr) (ci := 10) (fs := [.int (nI ne), .int (nI nt), .ref aC, .ref aD, .ref aO, .ref aT, .int ev, .int cr]) dX10_isSame_50 fl_X10_39 (List.mem_append_right _ (List.mem_append_left _ hS.1)) rfl ?_
  refine r_icmp_ne (tgt := 99) dX10_isSame_53 (by decide) (fun hc => absurd (rfl) hc) (fun _ => ?_)
  refine r_aload_n 1 dX10_isSame_56 rfl ?_
  refine k_Vm (x := 2000) (y := 12000) (rest := []) dX10_isSame_57 kv_X10_86 (ap_contradictions hI5) rfl rfl (List.mem_append_left _ hc9) rfl (Nat.le_of_ble_eq_true rfl) (by decide) (by decide) ?_
  rintro w6 hI6
  obtain ⟨fs12, hc11⟩ := CI.cell hI6
  show R g mX10_isSame 11 2000 12000 60 [(0, .ref s), (1, .ref (ad 0))] [.int (nI (pnS cl d nt nt))] (w6 ++ (sB ++ t)) (Dq (fun (_ : va_W) => some (.int (1 : Int32))) (fun z => z ++ t) (fun _ => True))
  refine r_aload_n 0 dX10_isSame_60 rfl ?_
  refine r_iconst (v := (-1 : Int32)) dX10_isSame_61 (by decide) ?_
  refine k_Vm (x := 2000) (y := 12000) (rest := [.int (nI (pnS cl d nt nt))]) dX10_isSame_62 kv_X10_89 ((cl_pairs1 (SimM.add hS (fun p hp => (List.mem_append_right _ (List.mem_append_left _ hp)))) hV (by omega)).dq) rfl rfl (List.mem_append_right _ (List.mem_append_left _ hS.1)) rfl (Nat.le_of_ble_eq_true rfl) (by decide) (by decide) ?_
  rintro ⟨⟩ -
  show R g mX10_isSame 11 2000 12000 65 [(0, .ref s), (1, .ref (ad 0))] [.int (nI (pnS cl d nt nt)), .int (nI (pnS cl d nt nt))] (w6 ++ (sB ++ t)) (Dq (fun (_ : va_W) => some (.int (1 : Int32))) (fun z => z ++ t) (fun _ => True))
  refine r_icmp_ne (tgt := 99) dX10_isSame_65 (by decide) (fun hc => absurd (rfl) hc) (fun _ => ?_)
  refine r_aload_n 1 dX10_isSame_68 rfl ?_
  refine k_Vm (x := 2000) (y := 12000) (rest := []) dX10_isSame_69 kv_X10_92 (ap_meanClaims hI6) rfl rfl (List.mem_append_left _ hc11) rfl (Nat.le_of_ble_eq_true rfl) (by decide) (by decide) ?_
  rintro w7 hI7
  obtain ⟨fs14, hc13⟩ := CI.cell hI7
  show R g mX10_isSame 11 2000 12000 72 [(0, .ref s), (1, .ref (ad 0))] [.double (FP.ddiv (FP.i2d (nI cl.length)) (FP.i2d (nI nt)))] (w7 ++ (sB ++ t)) (Dq (fun (_ : va_W) => some (.int (1 : Int32))) (fun z => z ++ t) (fun _ => True))
  refine r_aload_n 0 dX10_isSame_72 rfl ?_
  refine r_getm (v := .int (nI nt)) (ci := 10) (fs := [.int (nI ne), .int (nI nt), .ref aC, .ref aD, .ref aO, .ref aT, .int ev, .int cr]) dX10_isSame_73 fl_X10_33 (List.mem_append_right _ (List.mem_append_left _ hS.1)) rfl ?_
  refine r_if_ne (tgt := 83) dX10_isSame_76 (by decide) (fun _ => ?_) (fun hc => absurd hc (nI_ne0 n3 (by omega)))
  refine r_aload_n 0 dX10_isSame_83 rfl ?_
  refine r_getm (v := .ref aC) (ci := 10) (fs := [.int (nI ne), .int (nI nt), .ref aC, .ref aD, .ref aO, .ref aT, .int ev, .int cr]) dX10_isSame_84 fl_X10_9 (List.mem_append_right _ (List.mem_append_left _ hS.1)) rfl ?_
  refine r_alenm (t := 4) (v := (nI ca.length)) dX10_isSame_87 rfl (List.mem_append_right _ (List.mem_append_left _ hS.2.1)) (by rfl) ?_
  refine r_top (w := .int (nI cl.length)) (by rw [hlc]) ?_
  refine r_i2d dX10_isSame_88 ?_
  refine r_aload_n 0 dX10_isSame_89 rfl ?_
  refine r_getm (v := .int (nI nt)) (ci := 10) (fs := [.int (nI ne), .int (nI nt), .ref aC, .ref aD, .ref aO, .ref aT, .int ev, .int cr]) dX10_isSame_90 fl_X10_33 (List.mem_append_right _ (List.mem_append_left _ hS.1)) rfl ?_
  refine r_i2d dX10_isSame_93 ?_
  refine r_ddiv dX10_isSame_94 (nfB_n (mean_ok nt (by omega) n3 cl.length (by omega))) ?_
  show R g mX10_isSame 11 2000 12000 95 [(0, .ref s), (1, .ref (ad 0))] [.double (FP.ddiv (FP.i2d (nI cl.length)) (FP.i2d (nI nt))), .double (FP.ddiv (FP.i2d (nI cl.length)) (FP.i2d (nI nt)))] (w7 ++ (sB ++ t)) (Dq (fun (_ : va_W) => some (.int (1 : Int32))) (fun z => z ++ t) (fun _ => True))
  refine r_dcmp dX10_isSame_95 ?_
  refine r_top (w := .int (0 : Int32)) (congrArg Value.int (mean_eq nt (by omega) n3 cl.length (by omega))) ?_
  refine r_if_eq (tgt := 101) dX10_isSame_96 (by decide) (fun _ => ?_) (fun hc => absurd (rfl) hc)
  refine r_iconst (v := (0 : Int32)) dX10_isSame_101 (by decide) ?_
  refine r_top (w := .int (nI 0)) (rfl) ?_
  refine r_istore_n [(2, .int (nI 0)), (0, .ref s), (1, .ref (ad 0))] dX10_isSame_102 (by decide) rfl ?_
  have LEn : (ogS cl ne (trS cl d nt) ne) = none → ∀ m k, m + k = ne → ∀ u : va_W, CI g ad u ne nt cl os d ev cr → R g mX10_isSame 11 (10 * m + 10) (60 * m + 60) 426 [(4, .int (nI k)), (3, .null), (0, .ref s), (1, .ref (ad 0))] [] (u ++ (sB ++ t)) (Dq (fun (_ : va_W) => some (.int (1 : Int32))) (fun z => z ++ t) (fun _ => True)) := by
    intro hq m
    induction m with
    | zero =>
      intro k hk u hu
      have ek : k = ne := by omega
      rw [ek]
      obtain ⟨fsu, hcu⟩ := CI.cell hu
      refine r_iload 0 dX10_isSame_426 rfl ?_
      refine r_aload_n 2 dX10_isSame_428 rfl ?_
      refine r_getm (v := .int (nI ne)) (ci := 10) (fs := [.int (nI ne), .int (nI nt), .ref aC, .ref aD, .ref aO, .ref aT, .int ev, .int cr]) dX10_isSame_429 fl_X10_29 (List.mem_append_right _ (List.mem_append_left _ hS.1)) rfl ?_
      refine r_icmp_ge (tgt := 522) dX10_isSame_432 (by decide) (fun _ => ?_) (fun hc => absurd (nI_le (Nat.le_refl _) (by omega)) hc)
      refine r_iconst (v := (1 : Int32)) dX10_isSame_522 (by decide) ?_
      refine r_zret dX10_isSame_523 rfl (by decide) ?_
      exact Dq.mk (u ++ sB) rfl (by simp only [List.append_assoc]) trivial
    | succ m ih =>
      intro k hk u hu
      have hk2 : k < ne := by omega
      have hwl := win_le cl d k 100
      obtain ⟨fsu, hcu⟩ := CI.cell hu
      refine r_room (x2 := (10 * m + 10 + 10)) (y2 := (60 * m + 60 + 60)) (by omega) (by omega) ?_
      refine r_iload 0 dX10_isSame_426 rfl ?_
      refine r_aload_n 2 dX10_isSame_428 rfl ?_
      refine r_getm (v := .int (nI ne)) (ci := 10) (fs := [.int (nI ne), .int (nI nt), .ref aC, .ref aD, .ref aO, .ref aT, .int ev, .int cr]) dX10_isSame_429 fl_X10_29 (List.mem_append_right _ (List.mem_append_left _ hS.1)) rfl ?_
      refine r_icmp_ge (tgt := 522) dX10_isSame_432 (by decide) (fun hc => absurd hc (nI_ge (by omega) (by omega))) (fun _ => ?_)
      refine r_aload_n 2 dX10_isSame_435 rfl ?_
      refine r_iload 0 dX10_isSame_436 rfl ?_
      refine r_room (x2 := (10 * m + 10 + 9) + 1) (y2 := (60 * m + 60 + 57) + 3) (rq rfl) (rq rfl) ?_
      refine k_Vm (x := (10 * m + 10 + 9)) (y := (60 * m + 60 + 57)) (rest := []) dX10_isSame_438 kv_X10_146 (cl_window (e := k) (SimM.add hS (fun p hp => (List.mem_append_right _ (List.mem_append_left _ hp)))) hV (by omega)) rfl rfl (List.mem_append_right _ (List.mem_append_left _ hS.1)) rfl (Nat.le_of_ble_eq_true rfl) (by decide) (by decide) ?_
      rintro wq -
      show R g mX10_isSame 11 (10 * m + 10 + 9) (60 * m + 60 + 57) 441 [(4, .int (nI k)), (3, .null), (0, .ref s), (1, .ref (ad 0))] [.ref wq] ((wq, iA g 3 (r3 (winS cl d k 100).1 (winS cl d k 100).2.1 (nI (winS cl d k 100).2.2))) :: (u ++ (sB ++ t))) (Dq (fun (_ : va_W) => some (.int (1 : Int32))) (fun z => z ++ t) (fun _ => True))
      refine r_seg (ws2 := (u ++ (sB ++ ([(wq, iA g 3 (r3 (winS cl d k 100).1 (winS cl d k 100).2.1 (nI (winS cl d k 100).2.2)))] ++ t)))) [[(wq, iA g 3 (r3 (winS cl d k 100).1 (winS cl d k 100).2.1 (nI (winS cl d k 100).2.2)))], u, sB, t] [1, 2, 0, 3] rfl rfl rfl ?_
      refine r_astore [(5, .ref wq), (4, .int (nI k)), (3, .null), (0, .ref s), (1, .ref (ad 0))] dX10_isSame_441 (by decide) rfl ?_
      refine r_aload_n 4 dX10_isSame_443 rfl ?_
      refine r_iload 1 dX10_isSame_444 rfl ?_
      refine r_room (x2 := (10 * m + 10 + 8) + 1) (y2 := (60 * m + 60 + 51) + 6) (rq rfl) (rq rfl) ?_
      refine k_Vm (x := (10 * m + 10 + 8)) (y := (60 * m + 60 + 51)) (rest := []) dX10_isSame_446 kv_X10_150 (ap_isAgreed (e := k) hu hk2) rfl rfl (List.mem_append_left _ hcu) rfl (Nat.le_of_ble_eq_true rfl) (by decide) (by decide) ?_
      rintro w8 hI8
      obtain ⟨fs16, hc15⟩ := CI.cell hI8
      show R g mX10_isSame 11 (10 * m + 10 + 8) (60 * m + 60 + 51) 449 [(5, .ref wq), (4, .int (nI k)), (3, .null), (0, .ref s), (1, .ref (ad 0))] [.int (bI (decide (0 < (winS cl d k 100).2.2)))] (w8 ++ (sB ++ ([(wq, iA g 3 (r3 (winS cl d k 100).1 (winS cl d k 100).2.1 (nI (winS cl d k 100).2.2)))] ++ t))) (Dq (fun (_ : va_W) => some (.int (1 : Int32))) (fun z => z ++ t) (fun _ => True))
      refine r_aload 0 dX10_isSame_449 rfl ?_
      refine r_iconst (v := (2 : Int32)) dX10_isSame_451 (by decide) ?_
      refine r_ialdm (n := 3) (f := (r3 (winS cl d k 100).1 (winS cl d k 100).2.1 (nI (winS cl d k 100).2.2))) dX10_isSame_452 (List.mem_append_right _ (List.mem_append_right _ (List.mem_append_left _ List.mem_cons_self))) (by decide) ?_
      refine r_top (w := .int (nI (winS cl d k 100).2.2)) (by rw [cl2]; rfl) ?_
      refine r_if_le (tgt := 460) dX10_isSame_453 (by decide) (fun h1 => ?_) (fun h1 => ?_)
      · have h0 : (winS cl d k 100).2.2 = 0 := win_le0.mp h1
        have hb : bI (decide (0 < (winS cl d k 100).2.2)) = 0 := by rw [h0]; rfl
        refine r_iconst (v := (0 : Int32)) dX10_isSame_460 (by decide) ?_
        refine r_icmp_ne (tgt := 514) dX10_isSame_461 (by decide) (fun hc => absurd (hb) hc) (fun _ => ?_)
        refine r_aload 0 dX10_isSame_464 rfl ?_
        refine r_iconst (v := (2 : Int32)) dX10_isSame_466 (by decide) ?_
        refine r_ialdm (n := 3) (f := (r3 (winS cl d k 100).1 (winS cl d k 100).2.1 (nI (winS cl d k 100).2.2))) dX10_isSame_467 (List.mem_append_right _ (List.mem_append_right _ (List.mem_append_left _ List.mem_cons_self))) (by decide) ?_
        refine r_top (w := .int (nI (winS cl d k 100).2.2)) (by rw [cl2]; rfl) ?_
        refine r_if_le (tgt := 497) dX10_isSame_468 (by decide) (fun _ => ?_) (fun hc => absurd (h1) hc)
        refine r_aload_nN 2 dX10_isSame_497 rfl ?_
        refine r_ifnullN (tgt := 516) dX10_isSame_498 (by decide) ?_
        refine r_iinc (v2 := (nI (k + 1))) 1 [(4, .int (nI (k + 1))), (5, .ref wq), (3, .null), (0, .ref s), (1, .ref (ad 0))] dX10_isSame_516 rfl (nI_1 k) (by decide) rfl ?_
        refine r_goto (tgt := 426) dX10_isSame_519 (by decide) ?_
        refine r_seg (ws2 := (w8 ++ (sB ++ t))) [w8, sB, [(wq, iA g 3 (r3 (winS cl d k 100).1 (winS cl d k 100).2.1 (nI (winS cl d k 100).2.2)))], t] [0, 1, 3] rfl rfl rfl ?_
        refine r_ls [0, 2, 3, 4] (ls2 := [(4, .int (nI (k + 1))), (3, .null), (0, .ref s), (1, .ref (ad 0))]) rfl ?_
        refine r_room (x2 := 10 * m + 10) (y2 := 60 * m + 60) (by omega) (by omega) ?_
        exact ih (k + 1) (by omega) _ hI8
      · have h0 : 0 < (winS cl d k 100).2.2 := by
          have : ¬ (winS cl d k 100).2.2 = 0 := fun e => h1 (win_le0.mpr e)
          omega
        have hb : bI (decide (0 < (winS cl d k 100).2.2)) = 1 := by rw [decide_eq_true h0]; rfl
        refine r_iconst (v := (1 : Int32)) dX10_isSame_456 (by decide) ?_
        refine r_goto (tgt := 461) dX10_isSame_457 (by decide) ?_
        refine r_icmp_ne (tgt := 514) dX10_isSame_461 (by decide) (fun hc => absurd (hb) hc) (fun _ => ?_)
        refine r_aload 0 dX10_isSame_464 rfl ?_
        refine r_iconst (v := (2 : Int32)) dX10_isSame_466 (by decide) ?_
        refine r_ialdm (n := 3) (f := (r3 (winS cl d k 100).1 (winS cl d k 100).2.1 (nI (winS cl d k 100).2.2))) dX10_isSame_467 (List.mem_append_right _ (List.mem_append_right _ (List.mem_append_left _ List.mem_cons_self))) (by decide) ?_
        refine r_top (w := .int (nI (winS cl d k 100).2.2)) (by rw [cl2]; rfl) ?_
        refine r_if_le (tgt := 497) dX10_isSame_468 (by decide) (fun hc => absurd hc (h1)) (fun _ => ?_)
        refine r_aload_n 4 dX10_isSame_471 rfl ?_
        refine r_iload 1 dX10_isSame_472 rfl ?_
        refine r_room (x2 := (10 * m + 10 + 6) + 2) (y2 := (60 * m + 60 + 39) + 12) (rq rfl) (rq rfl) ?_
        refine k_Vm (x := (10 * m + 10 + 6)) (y := (60 * m + 60 + 39)) (rest := []) dX10_isSame_474 kv_X10_153 (ap_windowFrom (e := k) hI8 hk2 h0) rfl rfl (List.mem_append_left _ hc15) rfl (Nat.le_of_ble_eq_true rfl) (by decide) (by decide) ?_
        rintro w9 hI9
        obtain ⟨fs18, hc17⟩ := CI.cell hI9
        show R g mX10_isSame 11 (10 * m + 10 + 6) (60 * m + 60 + 39) 477 [(5, .ref wq), (4, .int (nI k)), (3, .null), (0, .ref s), (1, .ref (ad 0))] [.int (winS cl d k 100).1] (w9 ++ (sB ++ ([(wq, iA g 3 (r3 (winS cl d k 100).1 (winS cl d k 100).2.1 (nI (winS cl d k 100).2.2)))] ++ t))) (Dq (fun (_ : va_W) => some (.int (1 : Int32))) (fun z => z ++ t) (fun _ => True))
        refine r_aload 0 dX10_isSame_477 rfl ?_
        refine r_iconst (v := (0 : Int32)) dX10_isSame_479 (by decide) ?_
        refine r_ialdm (n := 3) (f := (r3 (winS cl d k 100).1 (winS cl d k 100).2.1 (nI (winS cl d k 100).2.2))) dX10_isSame_480 (List.mem_append_right _ (List.mem_append_right _ (List.mem_append_left _ List.mem_cons_self))) (by decide) ?_
        refine r_top (w := .int (winS cl d k 100).1) (by rw [cl0]; rfl) ?_
        refine r_icmp_ne (tgt := 514) dX10_isSame_481 (by decide) (fun hc => absurd (rfl) hc) (fun _ => ?_)
        refine r_aload_n 4 dX10_isSame_484 rfl ?_
        refine r_iload 1 dX10_isSame_485 rfl ?_
        refine r_room (x2 := (10 * m + 10 + 4) + 2) (y2 := (60 * m + 60 + 27) + 12) (rq rfl) (rq rfl) ?_
        refine k_Vm (x := (10 * m + 10 + 4)) (y := (60 * m + 60 + 27)) (rest := []) dX10_isSame_487 kv_X10_156 (ap_windowTo (e := k) hI9 hk2 h0) rfl rfl (List.mem_append_left _ hc17) rfl (Nat.le_of_ble_eq_true rfl) (by decide) (by decide) ?_
        rintro w10 hI10
        obtain ⟨fs20, hc19⟩ := CI.cell hI10
        show R g mX10_isSame 11 (10 * m + 10 + 4) (60 * m + 60 + 27) 490 [(5, .ref wq), (4, .int (nI k)), (3, .null), (0, .ref s), (1, .ref (ad 0))] [.int (winS cl d k 100).2.1] (w10 ++ (sB ++ ([(wq, iA g 3 (r3 (winS cl d k 100).1 (winS cl d k 100).2.1 (nI (winS cl d k 100).2.2)))] ++ t))) (Dq (fun (_ : va_W) => some (.int (1 : Int32))) (fun z => z ++ t) (fun _ => True))
        refine r_aload 0 dX10_isSame_490 rfl ?_
        refine r_iconst (v := (1 : Int32)) dX10_isSame_492 (by decide) ?_
        refine r_ialdm (n := 3) (f := (r3 (winS cl d k 100).1 (winS cl d k 100).2.1 (nI (winS cl d k 100).2.2))) dX10_isSame_493 (List.mem_append_right _ (List.mem_append_right _ (List.mem_append_left _ List.mem_cons_self))) (by decide) ?_
        refine r_top (w := .int (winS cl d k 100).2.1) (by rw [cl1]; rfl) ?_
        refine r_icmp_ne (tgt := 514) dX10_isSame_494 (by decide) (fun hc => absurd (rfl) hc) (fun _ => ?_)
        refine r_aload_nN 2 dX10_isSame_497 rfl ?_
        refine r_ifnullN (tgt := 516) dX10_isSame_498 (by decide) ?_
        refine r_iinc (v2 := (nI (k + 1))) 1 [(4, .int (nI (k + 1))), (5, .ref wq), (3, .null), (0, .ref s), (1, .ref (ad 0))] dX10_isSame_516 rfl (nI_1 k) (by decide) rfl ?_
        refine r_goto (tgt := 426) dX10_isSame_519 (by decide) ?_
        refine r_seg (ws2 := (w10 ++ (sB ++ t))) [w10, sB, [(wq, iA g 3 (r3 (winS cl d k 100).1 (winS cl d k 100).2.1 (nI (winS cl d k 100).2.2)))], t] [0, 1, 3] rfl rfl rfl ?_
        refine r_ls [0, 2, 3, 4] (ls2 := [(4, .int (nI (k + 1))), (3, .null), (0, .ref s), (1, .ref (ad 0))]) rfl ?_
        refine r_room (x2 := 10 * m + 10) (y2 := 60 * m + 60) (by omega) (by omega) ?_
        exact ih (k + 1) (by omega) _ hI10
  have LEs : ∀ (o3 : Nat) (q3 : Nat × (Nat → Nat)), (ogS cl ne (trS cl d nt) ne) = some q3 → ∀ m k, m + k = ne → ∀ u : va_W, CI g ad u ne nt cl os d ev cr → R g mX10_isSame 11 (10 * m + 10) (60 * m + 60) 426 [(4, .int (nI k)), (3, .ref o3), (0, .ref s), (1, .ref (ad 0))] [] (u ++ (sB ++ ([(o3, iA g ne (mkF q3.2 ne))] ++ t))) (Dq (fun (_ : va_W) => some (.int (1 : Int32))) (fun z => z ++ t) (fun _ => True)) := by
    intro o3 q3 hq m
    induction m with
    | zero =>
      intro k hk u hu
      have ek : k = ne := by omega
      rw [ek]
      obtain ⟨fsu, hcu⟩ := CI.cell hu
      refine r_iload 0 dX10_isSame_426 rfl ?_
      refine r_aload_n 2 dX10_isSame_428 rfl ?_
      refine r_getm (v := .int (nI ne)) (ci := 10) (fs := [.int (nI ne), .int (nI nt), .ref aC, .ref aD, .ref aO, .ref aT, .int ev, .int cr]) dX10_isSame_429 fl_X10_29 (List.mem_append_right _ (List.mem_append_left _ hS.1)) rfl ?_
      refine r_icmp_ge (tgt := 522) dX10_isSame_432 (by decide) (fun _ => ?_) (fun hc => absurd (nI_le (Nat.le_refl _) (by omega)) hc)
      refine r_iconst (v := (1 : Int32)) dX10_isSame_522 (by decide) ?_
      refine r_zret dX10_isSame_523 rfl (by decide) ?_
      exact Dq.mk (u ++ (sB ++ [(o3, iA g ne (mkF q3.2 ne))])) rfl (by simp only [List.append_assoc]) trivial
    | succ m ih =>
      intro k hk u hu
      have hk2 : k < ne := by omega
      have hwl := win_le cl d k 100
      obtain ⟨fsu, hcu⟩ := CI.cell hu
      refine r_room (x2 := (10 * m + 10 + 10)) (y2 := (60 * m + 60 + 60)) (by omega) (by omega) ?_
      refine r_iload 0 dX10_isSame_426 rfl ?_
      refine r_aload_n 2 dX10_isSame_428 rfl ?_
      refine r_getm (v := .int (nI ne)) (ci := 10) (fs := [.int (nI ne), .int (nI nt), .ref aC, .ref aD, .ref aO, .ref aT, .int ev, .int cr]) dX10_isSame_429 fl_X10_29 (List.mem_append_right _ (List.mem_append_left _ hS.1)) rfl ?_
      refine r_icmp_ge (tgt := 522) dX10_isSame_432 (by decide) (fun hc => absurd hc (nI_ge (by omega) (by omega))) (fun _ => ?_)
      refine r_aload_n 2 dX10_isSame_435 rfl ?_
      refine r_iload 0 dX10_isSame_436 rfl ?_
      refine r_room (x2 := (10 * m + 10 + 9) + 1) (y2 := (60 * m + 60 + 57) + 3) (rq rfl) (rq rfl) ?_
      refine k_Vm (x := (10 * m + 10 + 9)) (y := (60 * m + 60 + 57)) (rest := []) dX10_isSame_438 kv_X10_146 (cl_window (e := k) (SimM.add hS (fun p hp => (List.mem_append_right _ (List.mem_append_left _ hp)))) hV (by omega)) rfl rfl (List.mem_append_right _ (List.mem_append_left _ hS.1)) rfl (Nat.le_of_ble_eq_true rfl) (by decide) (by decide) ?_
      rintro wq -
      show R g mX10_isSame 11 (10 * m + 10 + 9) (60 * m + 60 + 57) 441 [(4, .int (nI k)), (3, .ref o3), (0, .ref s), (1, .ref (ad 0))] [.ref wq] ((wq, iA g 3 (r3 (winS cl d k 100).1 (winS cl d k 100).2.1 (nI (winS cl d k 100).2.2))) :: (u ++ (sB ++ ([(o3, iA g ne (mkF q3.2 ne))] ++ t)))) (Dq (fun (_ : va_W) => some (.int (1 : Int32))) (fun z => z ++ t) (fun _ => True))
      refine r_seg (ws2 := (u ++ (sB ++ ([(wq, iA g 3 (r3 (winS cl d k 100).1 (winS cl d k 100).2.1 (nI (winS cl d k 100).2.2)))] ++ ([(o3, iA g ne (mkF q3.2 ne))] ++ t))))) [[(wq, iA g 3 (r3 (winS cl d k 100).1 (winS cl d k 100).2.1 (nI (winS cl d k 100).2.2)))], u, sB, [(o3, iA g ne (mkF q3.2 ne))], t] [1, 2, 0, 3, 4] rfl rfl rfl ?_
      refine r_astore [(5, .ref wq), (4, .int (nI k)), (3, .ref o3), (0, .ref s), (1, .ref (ad 0))] dX10_isSame_441 (by decide) rfl ?_
      refine r_aload_n 4 dX10_isSame_443 rfl ?_
      refine r_iload 1 dX10_isSame_444 rfl ?_
      refine r_room (x2 := (10 * m + 10 + 8) + 1) (y2 := (60 * m + 60 + 51) + 6) (rq rfl) (rq rfl) ?_
      refine k_Vm (x := (10 * m + 10 + 8)) (y := (60 * m + 60 + 51)) (rest := []) dX10_isSame_446 kv_X10_150 (ap_isAgreed (e := k) hu hk2) rfl rfl (List.mem_append_left _ hcu) rfl (Nat.le_of_ble_eq_true rfl) (by decide) (by decide) ?_
      rintro w11 hI11
      obtain ⟨fs22, hc21⟩ := CI.cell hI11
      show R g mX10_isSame 11 (10 * m + 10 + 8) (60 * m + 60 + 51) 449 [(5, .ref wq), (4, .int (nI k)), (3, .ref o3), (0, .ref s), (1, .ref (ad 0))] [.int (bI (decide (0 < (winS cl d k 100).2.2)))] (w11 ++ (sB ++ ([(wq, iA g 3 (r3 (winS cl d k 100).1 (winS cl d k 100).2.1 (nI (winS cl d k 100).2.2)))] ++ ([(o3, iA g ne (mkF q3.2 ne))] ++ t)))) (Dq (fun (_ : va_W) => some (.int (1 : Int32))) (fun z => z ++ t) (fun _ => True))
      refine r_aload 0 dX10_isSame_449 rfl ?_
      refine r_iconst (v := (2 : Int32)) dX10_isSame_451 (by decide) ?_
      refine r_ialdm (n := 3) (f := (r3 (winS cl d k 100).1 (winS cl d k 100).2.1 (nI (winS cl d k 100).2.2))) dX10_isSame_452 (List.mem_append_right _ (List.mem_append_right _ (List.mem_append_left _ List.mem_cons_self))) (by decide) ?_
      refine r_top (w := .int (nI (winS cl d k 100).2.2)) (by rw [cl2]; rfl) ?_
      refine r_if_le (tgt := 460) dX10_isSame_453 (by decide) (fun h1 => ?_) (fun h1 => ?_)
      · have h0 : (winS cl d k 100).2.2 = 0 := win_le0.mp h1
        have hb : bI (decide (0 < (winS cl d k 100).2.2)) = 0 := by rw [h0]; rfl
        refine r_iconst (v := (0 : Int32)) dX10_isSame_460 (by decide) ?_
        refine r_icmp_ne (tgt := 514) dX10_isSame_461 (by decide) (fun hc => absurd (hb) hc) (fun _ => ?_)
        refine r_aload 0 dX10_isSame_464 rfl ?_
        refine r_iconst (v := (2 : Int32)) dX10_isSame_466 (by decide) ?_
        refine r_ialdm (n := 3) (f := (r3 (winS cl d k 100).1 (winS cl d k 100).2.1 (nI (winS cl d k 100).2.2))) dX10_isSame_467 (List.mem_append_right _ (List.mem_append_right _ (List.mem_append_left _ List.mem_cons_self))) (by decide) ?_
        refine r_top (w := .int (nI (winS cl d k 100).2.2)) (by rw [cl2]; rfl) ?_
        refine r_if_le (tgt := 497) dX10_isSame_468 (by decide) (fun _ => ?_) (fun hc => absurd (h1) hc)
        refine r_aload_n 2 dX10_isSame_497 rfl ?_
        refine r_ifnull dX10_isSame_498 ?_
        refine r_aload_n 4 dX10_isSame_501 rfl ?_
        refine r_iload 1 dX10_isSame_502 rfl ?_
        refine r_room (x2 := (10 * m + 10 + 7) + 1) (y2 := (60 * m + 60 + 45) + 6) (rq rfl) (rq rfl) ?_
        refine k_Vm (x := (10 * m + 10 + 7)) (y := (60 * m + 60 + 45)) (rest := []) dX10_isSame_504 kv_X10_159 (ap_eventAt (e := k) (q := q3) hI11 hk2 hq) rfl rfl (List.mem_append_left _ hc21) rfl (Nat.le_of_ble_eq_true rfl) (by decide) (by decide) ?_
        rintro w12 hI12
        obtain ⟨fs24, hc23⟩ := CI.cell hI12
        show R g mX10_isSame 11 (10 * m + 10 + 7) (60 * m + 60 + 45) 507 [(5, .ref wq), (4, .int (nI k)), (3, .ref o3), (0, .ref s), (1, .ref (ad 0))] [.int (nI (q3.2 k))] (w12 ++ (sB ++ ([(wq, iA g 3 (r3 (winS cl d k 100).1 (winS cl d k 100).2.1 (nI (winS cl d k 100).2.2)))] ++ ([(o3, iA g ne (mkF q3.2 ne))] ++ t)))) (Dq (fun (_ : va_W) => some (.int (1 : Int32))) (fun z => z ++ t) (fun _ => True))
        refine r_aload_n 2 dX10_isSame_507 rfl ?_
        refine r_iload 1 dX10_isSame_508 rfl ?_
        refine r_ialdm (n := ne) (f := (mkF q3.2 ne)) dX10_isSame_510 (List.mem_append_right _ (List.mem_append_right _ (List.mem_append_right _ (List.mem_append_left _ List.mem_cons_self)))) (ib_nI hk2 (by omega)) ?_
        refine r_top (w := .int (nI (q3.2 k))) (by rw [nI_clamp (by omega)]; exact congrArg Value.int (if_pos hk2)) ?_
        refine r_icmp_eq (tgt := 516) dX10_isSame_511 (by decide) (fun _ => ?_) (fun hc => absurd (rfl) hc)
        refine r_iinc (v2 := (nI (k + 1))) 1 [(4, .int (nI (k + 1))), (5, .ref wq), (3, .ref o3), (0, .ref s), (1, .ref (ad 0))] dX10_isSame_516 rfl (nI_1 k) (by decide) rfl ?_
        refine r_goto (tgt := 426) dX10_isSame_519 (by decide) ?_
        refine r_seg (ws2 := (w12 ++ (sB ++ ([(o3, iA g ne (mkF q3.2 ne))] ++ t)))) [w12, sB, [(wq, iA g 3 (r3 (winS cl d k 100).1 (winS cl d k 100).2.1 (nI (winS cl d k 100).2.2)))], [(o3, iA g ne (mkF q3.2 ne))], t] [0, 1, 3, 4] rfl rfl rfl ?_
        refine r_ls [0, 2, 3, 4] (ls2 := [(4, .int (nI (k + 1))), (3, .ref o3), (0, .ref s), (1, .ref (ad 0))]) rfl ?_
        refine r_room (x2 := 10 * m + 10) (y2 := 60 * m + 60) (by omega) (by omega) ?_
        exact ih (k + 1) (by omega) _ hI12
      · have h0 : 0 < (winS cl d k 100).2.2 := by
          have : ¬ (winS cl d k 100).2.2 = 0 := fun e => h1 (win_le0.mpr e)
          omega
        have hb : bI (decide (0 < (winS cl d k 100).2.2)) = 1 := by rw [decide_eq_true h0]; rfl
        refine r_iconst (v := (1 : Int32)) dX10_isSame_456 (by decide) ?_
        refine r_goto (tgt := 461) dX10_isSame_457 (by decide) ?_
        refine r_icmp_ne (tgt := 514) dX10_isSame_461 (by decide) (fun hc => absurd (hb) hc) (fun _ => ?_)
        refine r_aload 0 dX10_isSame_464 rfl ?_
        refine r_iconst (v := (2 : Int32)) dX10_isSame_466 (by decide) ?_
        refine r_ialdm (n := 3) (f := (r3 (winS cl d k 100).1 (winS cl d k 100).2.1 (nI (winS cl d k 100).2.2))) dX10_isSame_467 (List.mem_append_right _ (List.mem_append_right _ (List.mem_append_left _ List.mem_cons_self))) (by decide) ?_
        refine r_top (w := .int (nI (winS cl d k 100).2.2)) (by rw [cl2]; rfl) ?_
        refine r_if_le (tgt := 497) dX10_isSame_468 (by decide) (fun hc => absurd hc (h1)) (fun _ => ?_)
        refine r_aload_n 4 dX10_isSame_471 rfl ?_
        refine r_iload 1 dX10_isSame_472 rfl ?_
        refine r_room (x2 := (10 * m + 10 + 6) + 2) (y2 := (60 * m + 60 + 39) + 12) (rq rfl) (rq rfl) ?_
        refine k_Vm (x := (10 * m + 10 + 6)) (y := (60 * m + 60 + 39)) (rest := []) dX10_isSame_474 kv_X10_153 (ap_windowFrom (e := k) hI11 hk2 h0) rfl rfl (List.mem_append_left _ hc21) rfl (Nat.le_of_ble_eq_true rfl) (by decide) (by decide) ?_
        rintro w13 hI13
        obtain ⟨fs26, hc25⟩ := CI.cell hI13
        show R g mX10_isSame 11 (10 * m + 10 + 6) (60 * m + 60 + 39) 477 [(5, .ref wq), (4, .int (nI k)), (3, .ref o3), (0, .ref s), (1, .ref (ad 0))] [.int (winS cl d k 100).1] (w13 ++ (sB ++ ([(wq, iA g 3 (r3 (winS cl d k 100).1 (winS cl d k 100).2.1 (nI (winS cl d k 100).2.2)))] ++ ([(o3, iA g ne (mkF q3.2 ne))] ++ t)))) (Dq (fun (_ : va_W) => some (.int (1 : Int32))) (fun z => z ++ t) (fun _ => True))
        refine r_aload 0 dX10_isSame_477 rfl ?_
        refine r_iconst (v := (0 : Int32)) dX10_isSame_479 (by decide) ?_
        refine r_ialdm (n := 3) (f := (r3 (winS cl d k 100).1 (winS cl d k 100).2.1 (nI (winS cl d k 100).2.2))) dX10_isSame_480 (List.mem_append_right _ (List.mem_append_right _ (List.mem_append_left _ List.mem_cons_self))) (by decide) ?_
        refine r_top (w := .int (winS cl d k 100).1) (by rw [cl0]; rfl) ?_
        refine r_icmp_ne (tgt := 514) dX10_isSame_481 (by decide) (fun hc => absurd (rfl) hc) (fun _ => ?_)
        refine r_aload_n 4 dX10_isSame_484 rfl ?_
        refine r_iload 1 dX10_isSame_485 rfl ?_
        refine r_room (x2 := (10 * m + 10 + 4) + 2) (y2 := (60 * m + 60 + 27) + 12) (rq rfl) (rq rfl) ?_
        refine k_Vm (x := (10 * m + 10 + 4)) (y := (60 * m + 60 + 27)) (rest := []) dX10_isSame_487 kv_X10_156 (ap_windowTo (e := k) hI13 hk2 h0) rfl rfl (List.mem_append_left _ hc25) rfl (Nat.le_of_ble_eq_true rfl) (by decide) (by decide) ?_
        rintro w14 hI14
        obtain ⟨fs28, hc27⟩ := CI.cell hI14
        show R g mX10_isSame 11 (10 * m + 10 + 4) (60 * m + 60 + 27) 490 [(5, .ref wq), (4, .int (nI k)), (3, .ref o3), (0, .ref s), (1, .ref (ad 0))] [.int (winS cl d k 100).2.1] (w14 ++ (sB ++ ([(wq, iA g 3 (r3 (winS cl d k 100).1 (winS cl d k 100).2.1 (nI (winS cl d k 100).2.2)))] ++ ([(o3, iA g ne (mkF q3.2 ne))] ++ t)))) (Dq (fun (_ : va_W) => some (.int (1 : Int32))) (fun z => z ++ t) (fun _ => True))
        refine r_aload 0 dX10_isSame_490 rfl ?_
        refine r_iconst (v := (1 : Int32)) dX10_isSame_492 (by decide) ?_
        refine r_ialdm (n := 3) (f := (r3 (winS cl d k 100).1 (winS cl d k 100).2.1 (nI (winS cl d k 100).2.2))) dX10_isSame_493 (List.mem_append_right _ (List.mem_append_right _ (List.mem_append_left _ List.mem_cons_self))) (by decide) ?_
        refine r_top (w := .int (winS cl d k 100).2.1) (by rw [cl1]; rfl) ?_
        refine r_icmp_ne (tgt := 514) dX10_isSame_494 (by decide) (fun hc => absurd (rfl) hc) (fun _ => ?_)
        refine r_aload_n 2 dX10_isSame_497 rfl ?_
        refine r_ifnull dX10_isSame_498 ?_
        refine r_aload_n 4 dX10_isSame_501 rfl ?_
        refine r_iload 1 dX10_isSame_502 rfl ?_
        refine r_room (x2 := (10 * m + 10 + 3) + 1) (y2 := (60 * m + 60 + 21) + 6) (rq rfl) (rq rfl) ?_
        refine k_Vm (x := (10 * m + 10 + 3)) (y := (60 * m + 60 + 21)) (rest := []) dX10_isSame_504 kv_X10_159 (ap_eventAt (e := k) (q := q3) hI14 hk2 hq) rfl rfl (List.mem_append_left _ hc27) rfl (Nat.le_of_ble_eq_true rfl) (by decide) (by decide) ?_
        rintro w15 hI15
        obtain ⟨fs30, hc29⟩ := CI.cell hI15
        show R g mX10_isSame 11 (10 * m + 10 + 3) (60 * m + 60 + 21) 507 [(5, .ref wq), (4, .int (nI k)), (3, .ref o3), (0, .ref s), (1, .ref (ad 0))] [.int (nI (q3.2 k))] (w15 ++ (sB ++ ([(wq, iA g 3 (r3 (winS cl d k 100).1 (winS cl d k 100).2.1 (nI (winS cl d k 100).2.2)))] ++ ([(o3, iA g ne (mkF q3.2 ne))] ++ t)))) (Dq (fun (_ : va_W) => some (.int (1 : Int32))) (fun z => z ++ t) (fun _ => True))
        refine r_aload_n 2 dX10_isSame_507 rfl ?_
        refine r_iload 1 dX10_isSame_508 rfl ?_
        refine r_ialdm (n := ne) (f := (mkF q3.2 ne)) dX10_isSame_510 (List.mem_append_right _ (List.mem_append_right _ (List.mem_append_right _ (List.mem_append_left _ List.mem_cons_self)))) (ib_nI hk2 (by omega)) ?_
        refine r_top (w := .int (nI (q3.2 k))) (by rw [nI_clamp (by omega)]; exact congrArg Value.int (if_pos hk2)) ?_
        refine r_icmp_eq (tgt := 516) dX10_isSame_511 (by decide) (fun _ => ?_) (fun hc => absurd (rfl) hc)
        refine r_iinc (v2 := (nI (k + 1))) 1 [(4, .int (nI (k + 1))), (5, .ref wq), (3, .ref o3), (0, .ref s), (1, .ref (ad 0))] dX10_isSame_516 rfl (nI_1 k) (by decide) rfl ?_
        refine r_goto (tgt := 426) dX10_isSame_519 (by decide) ?_
        refine r_seg (ws2 := (w15 ++ (sB ++ ([(o3, iA g ne (mkF q3.2 ne))] ++ t)))) [w15, sB, [(wq, iA g 3 (r3 (winS cl d k 100).1 (winS cl d k 100).2.1 (nI (winS cl d k 100).2.2)))], [(o3, iA g ne (mkF q3.2 ne))], t] [0, 1, 3, 4] rfl rfl rfl ?_
        refine r_ls [0, 2, 3, 4] (ls2 := [(4, .int (nI (k + 1))), (3, .ref o3), (0, .ref s), (1, .ref (ad 0))]) rfl ?_
        refine r_room (x2 := 10 * m + 10) (y2 := 60 * m + 60) (by omega) (by omega) ?_
        exact ih (k + 1) (by omega) _ hI15
  have J400 :  ∀ u : va_W, CI g ad u ne nt cl os d ev cr → R g mX10_isSame 11 200 1200 400 [(0, .ref s), (1, .ref (ad 0))] [] (u ++ (sB ++ t)) (Dq (fun (_ : va_W) => some (.int (1 : Int32))) (fun z => z ++ t) (fun _ => True)) := by
    intro u hu
    obtain ⟨fsu, hcu⟩ := CI.cell hu
    refine r_aload_n 0 dX10_isSame_400 rfl ?_
    refine k_Vm (x := 178) (y := 980) (rest := []) dX10_isSame_401 kv_X10_138 (cl_order (tr := trS cl d nt) (SimM.add hS (fun p hp => (List.mem_append_right _ (List.mem_append_left _ hp)))) hV (by omega) (by omega) (trS_TrS cl d nt)) rfl rfl (List.mem_append_right _ (List.mem_append_left _ hS.1)) rfl (Nat.le_of_ble_eq_true rfl) (by decide) (by decide) ?_
    rintro z3 h3
    cases z3 with
    | none =>
      have hq : (ogS cl ne (trS cl d nt) ne) = none := h3.mp rfl
      have hb : bI (ogS cl ne (trS cl d nt) ne).isSome = 0 := by rw [hq]; rfl
      show R g mX10_isSame 11 178 980 404 [(0, .ref s), (1, .ref (ad 0))] [.null] (u ++ (sB ++ t)) (Dq (fun (_ : va_W) => some (.int (1 : Int32))) (fun z => z ++ t) (fun _ => True))
      refine r_astore_nN [(3, .null), (0, .ref s), (1, .ref (ad 0))] dX10_isSame_404 (by decide) rfl ?_
      refine r_aload_n 2 dX10_isSame_405 rfl ?_
      refine k_Vm (x := 178) (y := 980) (rest := []) dX10_isSame_406 kv_X10_142 (ap_hasOrder hu) rfl rfl (List.mem_append_left _ hcu) rfl (Nat.le_of_ble_eq_true rfl) (by decide) (by decide) ?_
      rintro w16 hI16
      obtain ⟨fs32, hc31⟩ := CI.cell hI16
      show R g mX10_isSame 11 178 980 409 [(3, .null), (0, .ref s), (1, .ref (ad 0))] [.int (bI (ogS cl ne (trS cl d nt) ne).isSome)] (w16 ++ (sB ++ t)) (Dq (fun (_ : va_W) => some (.int (1 : Int32))) (fun z => z ++ t) (fun _ => True))
      refine r_aload_nN 0 dX10_isSame_409 rfl ?_
      refine r_ifnullN (tgt := 417) dX10_isSame_410 (by decide) ?_
      refine r_iconst (v := (0 : Int32)) dX10_isSame_417 (by decide) ?_
      refine r_icmp_eq (tgt := 423) dX10_isSame_418 (by decide) (fun _ => ?_) (fun hc => absurd (hb) hc)
      refine r_iconst (v := (0 : Int32)) dX10_isSame_423 (by decide) ?_
      refine r_top (w := .int (nI 0)) (rfl) ?_
      refine r_istore [(4, .int (nI 0)), (3, .null), (0, .ref s), (1, .ref (ad 0))] dX10_isSame_424 (by decide) rfl ?_
      refine r_ls [0, 1, 2, 3] (ls2 := [(4, .int (nI 0)), (3, .null), (0, .ref s), (1, .ref (ad 0))]) rfl ?_
      refine r_room (x2 := 10 * ne + 10) (y2 := 60 * ne + 60) (by omega) (by omega) ?_
      exact LEn hq ne 0 (by omega) _ hI16
    | some o3 =>
      have hq0 : ¬ (ogS cl ne (trS cl d nt) ne) = none := fun h => nomatch h3.mpr h
      obtain ⟨q3, hq⟩ := Option.ne_none_iff_exists'.mp hq0
      have hb : bI (ogS cl ne (trS cl d nt) ne).isSome = 1 := by rw [hq]; rfl
      rw [hq]
      show R g mX10_isSame 11 178 980 404 [(0, .ref s), (1, .ref (ad 0))] [.ref o3] ((o3, iA g ne (mkF q3.2 ne)) :: (u ++ (sB ++ t))) (Dq (fun (_ : va_W) => some (.int (1 : Int32))) (fun z => z ++ t) (fun _ => True))
      refine r_seg (ws2 := (u ++ (sB ++ ([(o3, iA g ne (mkF q3.2 ne))] ++ t)))) [[(o3, iA g ne (mkF q3.2 ne))], u, sB, t] [1, 2, 0, 3] rfl rfl rfl ?_
      refine r_astore_n [(3, .ref o3), (0, .ref s), (1, .ref (ad 0))] dX10_isSame_404 (by decide) rfl ?_
      refine r_aload_n 2 dX10_isSame_405 rfl ?_
      refine k_Vm (x := 178) (y := 980) (rest := []) dX10_isSame_406 kv_X10_142 (ap_hasOrder hu) rfl rfl (List.mem_append_left _ hcu) rfl (Nat.le_of_ble_eq_true rfl) (by decide) (by decide) ?_
      rintro w17 hI17
      obtain ⟨fs34, hc33⟩ := CI.cell hI17
      show R g mX10_isSame 11 178 980 409 [(3, .ref o3), (0, .ref s), (1, .ref (ad 0))] [.int (bI (ogS cl ne (trS cl d nt) ne).isSome)] (w17 ++ (sB ++ ([(o3, iA g ne (mkF q3.2 ne))] ++ t))) (Dq (fun (_ : va_W) => some (.int (1 : Int32))) (fun z => z ++ t) (fun _ => True))
      refine r_aload_n 0 dX10_isSame_409 rfl ?_
      refine r_ifnull dX10_isSame_410 ?_
      refine r_iconst (v := (1 : Int32)) dX10_isSame_413 (by decide) ?_
      refine r_goto (tgt := 418) dX10_isSame_414 (by decide) ?_
      refine r_icmp_eq (tgt := 423) dX10_isSame_418 (by decide) (fun _ => ?_) (fun hc => absurd (hb) hc)
      refine r_iconst (v := (0 : Int32)) dX10_isSame_423 (by decide) ?_
      refine r_top (w := .int (nI 0)) (rfl) ?_
      refine r_istore [(4, .int (nI 0)), (3, .ref o3), (0, .ref s), (1, .ref (ad 0))] dX10_isSame_424 (by decide) rfl ?_
      refine r_ls [0, 1, 2, 3] (ls2 := [(4, .int (nI 0)), (3, .ref o3), (0, .ref s), (1, .ref (ad 0))]) rfl ?_
      refine r_room (x2 := 10 * ne + 10) (y2 := 60 * ne + 60) (by omega) (by omega) ?_
      exact LEs o3 q3 hq ne 0 (by omega) _ hI17
  have LT : ∀ (lb l0 l1 l2 : Nat) m k, m + k = nt → ∀ u : va_W, CI g ad u ne nt cl os d ev cr → R g mX10_isSame 11 (40 * m + 200) (240 * m + 1200) 281 [(3, .int (nI k)), (2, .ref lb), (0, .ref s), (1, .ref (ad 0))] [] (u ++ (sB ++ ([(lb, qA g 4 3 (bestF l0 l1 l2)), (l0, iA g nt (dbF (LIs cl d nt).1)), (l1, iA g 1 (o1 (nI (LIs cl d nt).2.1))), (l2, iA g 1 (o1 (nI (LIs cl d nt).2.2)))] ++ t))) (Dq (fun (_ : va_W) => some (.int (1 : Int32))) (fun z => z ++ t) (fun _ => True)) := by
    intro lb l0 l1 l2 m
    induction m with
    | zero =>
      intro k hk u hu
      have ek : k = nt := by omega
      rw [ek]
      obtain ⟨fsu, hcu⟩ := CI.cell hu
      refine r_iload_n 0 dX10_isSame_281 rfl ?_
      refine r_aload_n 2 dX10_isSame_282 rfl ?_
      refine r_getm (v := .int (nI nt)) (ci := 10) (fs := [.int (nI ne), .int (nI nt), .ref aC, .ref aD, .ref aO, .ref aT, .int ev, .int cr]) dX10_isSame_283 fl_X10_33 (List.mem_append_right _ (List.mem_append_left _ hS.1)) rfl ?_
      refine r_icmp_ge (tgt := 400) dX10_isSame_286 (by decide) (fun _ => ?_) (fun hc => absurd (nI_le (Nat.le_refl _) (by omega)) hc)
      refine r_seg (ws2 := (u ++ (sB ++ t))) [u, sB, [(lb, qA g 4 3 (bestF l0 l1 l2)), (l0, iA g nt (dbF (LIs cl d nt).1)), (l1, iA g 1 (o1 (nI (LIs cl d nt).2.1))), (l2, iA g 1 (o1 (nI (LIs cl d nt).2.2)))], t] [0, 1, 3] rfl rfl rfl ?_
      refine r_ls [2, 3] (ls2 := [(0, .ref s), (1, .ref (ad 0))]) rfl ?_
      refine r_room (x2 := 200) (y2 := 1200) (by omega) (by omega) ?_
      exact J400 u hu
    | succ m ih =>
      intro k hk u hu
      have hk2 : k < nt := by omega
      obtain ⟨fsu, hcu⟩ := CI.cell hu
      refine r_room (x2 := (40 * m + 200 + 40)) (y2 := (240 * m + 1200 + 240)) (by omega) (by omega) ?_
      refine r_iload_n 0 dX10_isSame_281 rfl ?_
      refine r_aload_n 2 dX10_isSame_282 rfl ?_
      refine r_getm (v := .int (nI nt)) (ci := 10) (fs := [.int (nI ne), .int (nI nt), .ref aC, .ref aD, .ref aO, .ref aT, .int ev, .int cr]) dX10_isSame_283 fl_X10_33 (List.mem_append_right _ (List.mem_append_left _ hS.1)) rfl ?_
      refine r_icmp_ge (tgt := 400) dX10_isSame_286 (by decide) (fun hc => absurd hc (nI_ge (by omega) (by omega))) (fun _ => ?_)
      refine r_aload_n 3 dX10_isSame_289 rfl ?_
      refine r_iload_n 0 dX10_isSame_290 rfl ?_
      refine r_room (x2 := (40 * m + 200 + 39) + 1) (y2 := (240 * m + 1200 + 234) + 6) (rq rfl) (rq rfl) ?_
      refine k_Vm (x := (40 * m + 200 + 39)) (y := (240 * m + 1200 + 234)) (rest := []) dX10_isSame_291 kv_X10_122 (ap_claimsOf (a := k) hu hk2) rfl rfl (List.mem_append_left _ hcu) rfl (Nat.le_of_ble_eq_true rfl) (by decide) (by decide) ?_
      rintro w18 hI18
      obtain ⟨fs36, hc35⟩ := CI.cell hI18
      show R g mX10_isSame 11 (40 * m + 200 + 39) (240 * m + 1200 + 234) 294 [(3, .int (nI k)), (2, .ref lb), (0, .ref s), (1, .ref (ad 0))] [.int (nI (cntS cl (nI k) cl.length))] (w18 ++ (sB ++ ([(lb, qA g 4 3 (bestF l0 l1 l2)), (l0, iA g nt (dbF (LIs cl d nt).1)), (l1, iA g 1 (o1 (nI (LIs cl d nt).2.1))), (l2, iA g 1 (o1 (nI (LIs cl d nt).2.2)))] ++ t))) (Dq (fun (_ : va_W) => some (.int (1 : Int32))) (fun z => z ++ t) (fun _ => True))
      refine r_aload_n 2 dX10_isSame_294 rfl ?_
      refine r_iload_n 0 dX10_isSame_295 rfl ?_
      refine k_Vm (x := (40 * m + 200 + 39)) (y := (240 * m + 1200 + 234)) (rest := [.int (nI (cntS cl (nI k) cl.length))]) dX10_isSame_296 kv_X10_125 ((cl_claimsOf (p := nI k) (SimM.add hS (fun p hp => (List.mem_append_right _ (List.mem_append_left _ hp)))) hV).dq) rfl rfl (List.mem_append_right _ (List.mem_append_left _ hS.1)) rfl (Nat.le_of_ble_eq_true rfl) (by decide) (by decide) ?_
      rintro ⟨⟩ -
      show R g mX10_isSame 11 (40 * m + 200 + 39) (240 * m + 1200 + 234) 299 [(3, .int (nI k)), (2, .ref lb), (0, .ref s), (1, .ref (ad 0))] [.int (nI (cntS cl (nI k) cl.length)), .int (nI (cntS cl (nI k) cl.length))] (w18 ++ (sB ++ ([(lb, qA g 4 3 (bestF l0 l1 l2)), (l0, iA g nt (dbF (LIs cl d nt).1)), (l1, iA g 1 (o1 (nI (LIs cl d nt).2.1))), (l2, iA g 1 (o1 (nI (LIs cl d nt).2.2)))] ++ t))) (Dq (fun (_ : va_W) => some (.int (1 : Int32))) (fun z => z ++ t) (fun _ => True))
      refine r_icmp_ne (tgt := 338) dX10_isSame_299 (by decide) (fun hc => absurd (rfl) hc) (fun _ => ?_)
      refine r_aload_n 3 dX10_isSame_302 rfl ?_
      refine r_iload_n 0 dX10_isSame_303 rfl ?_
      refine r_room (x2 := (40 * m + 200 + 38) + 1) (y2 := (240 * m + 1200 + 228) + 6) (rq rfl) (rq rfl) ?_
      refine k_Vm (x := (40 * m + 200 + 38)) (y := (240 * m + 1200 + 228)) (rest := []) dX10_isSame_304 kv_X10_126 (ap_isDoubted (a := k) hI18 hk2) rfl rfl (List.mem_append_left _ hc35) rfl (Nat.le_of_ble_eq_true rfl) (by decide) (by decide) ?_
      rintro w19 hI19
      obtain ⟨fs38, hc37⟩ := CI.cell hI19
      show R g mX10_isSame 11 (40 * m + 200 + 38) (240 * m + 1200 + 228) 307 [(3, .int (nI k)), (2, .ref lb), (0, .ref s), (1, .ref (ad 0))] [.int (dbF d k)] (w19 ++ (sB ++ ([(lb, qA g 4 3 (bestF l0 l1 l2)), (l0, iA g nt (dbF (LIs cl d nt).1)), (l1, iA g 1 (o1 (nI (LIs cl d nt).2.1))), (l2, iA g 1 (o1 (nI (LIs cl d nt).2.2)))] ++ t))) (Dq (fun (_ : va_W) => some (.int (1 : Int32))) (fun z => z ++ t) (fun _ => True))
      refine r_aload_n 2 dX10_isSame_307 rfl ?_
      refine r_getm (v := .ref aD) (ci := 10) (fs := [.int (nI ne), .int (nI nt), .ref aC, .ref aD, .ref aO, .ref aT, .int ev, .int cr]) dX10_isSame_308 fl_X10_15 (List.mem_append_right _ (List.mem_append_left _ hS.1)) rfl ?_
      refine r_iload_n 0 dX10_isSame_311 rfl ?_
      refine r_zaldm (n := 10) (f := (dbF d)) dX10_isSame_312 (List.mem_append_right _ (List.mem_append_left _ hS.2.2.2)) (ib_nI (by omega) (by decide)) ?_
      refine r_top (w := .int (dbF d k)) (by rw [nI_clamp (by omega)]) ?_
      refine r_icmp_ne (tgt := 338) dX10_isSame_313 (by decide) (fun hc => absurd (rfl) hc) (fun _ => ?_)
      refine r_aload_n 3 dX10_isSame_316 rfl ?_
      refine r_iload_n 0 dX10_isSame_317 rfl ?_
      refine r_room (x2 := (40 * m + 200 + 37) + 1) (y2 := (240 * m + 1200 + 222) + 6) (rq rfl) (rq rfl) ?_
      refine k_Vm (x := (40 * m + 200 + 37)) (y := (240 * m + 1200 + 222)) (rest := []) dX10_isSame_318 kv_X10_129 (ap_isLiar (a := k) hI19 hk2) rfl rfl (List.mem_append_left _ hc37) rfl (Nat.le_of_ble_eq_true rfl) (by decide) (by decide) ?_
      rintro w20 hI20
      obtain ⟨fs40, hc39⟩ := CI.cell hI20
      show R g mX10_isSame 11 (40 * m + 200 + 37) (240 * m + 1200 + 222) 321 [(3, .int (nI k)), (2, .ref lb), (0, .ref s), (1, .ref (ad 0))] [.int (dbF (LIs cl d nt).1 k)] (w20 ++ (sB ++ ([(lb, qA g 4 3 (bestF l0 l1 l2)), (l0, iA g nt (dbF (LIs cl d nt).1)), (l1, iA g 1 (o1 (nI (LIs cl d nt).2.1))), (l2, iA g 1 (o1 (nI (LIs cl d nt).2.2)))] ++ t))) (Dq (fun (_ : va_W) => some (.int (1 : Int32))) (fun z => z ++ t) (fun _ => True))
      refine r_aload_n 1 dX10_isSame_321 rfl ?_
      refine r_iconst (v := (0 : Int32)) dX10_isSame_322 (by decide) ?_
      refine r_aaldm (t := 4) (n := 3) (f := (bestF l0 l1 l2)) (v := .ref l0) dX10_isSame_323 rfl rfl (List.mem_append_right _ (List.mem_append_right _ (List.mem_append_left _ List.mem_cons_self))) (by decide) (by rw [cl0]; rfl) ?_
      refine r_iload_n 0 dX10_isSame_324 rfl ?_
      refine r_ialdm (n := nt) (f := (dbF (LIs cl d nt).1)) dX10_isSame_325 (List.mem_append_right _ (List.mem_append_right _ (List.mem_append_left _ (List.mem_cons_of_mem _ List.mem_cons_self)))) (ib_nI hk2 (by omega)) ?_
      refine r_top (w := .int (dbF (LIs cl d nt).1 k)) (by rw [nI_clamp (by omega)]) ?_
      refine r_iconst (v := (1 : Int32)) dX10_isSame_326 (by decide) ?_
      have LB : ∀ m2 b, m2 + b = nt → ∀ u : va_W, CI g ad u ne nt cl os d ev cr → R g mX10_isSame 11 (4 * m2 + 40 * m + 200) (24 * m2 + 240 * m + 1200) 343 [(4, .int (nI b)), (3, .int (nI k)), (2, .ref lb), (0, .ref s), (1, .ref (ad 0))] [] (u ++ (sB ++ ([(lb, qA g 4 3 (bestF l0 l1 l2)), (l0, iA g nt (dbF (LIs cl d nt).1)), (l1, iA g 1 (o1 (nI (LIs cl d nt).2.1))), (l2, iA g 1 (o1 (nI (LIs cl d nt).2.2)))] ++ t))) (Dq (fun (_ : va_W) => some (.int (1 : Int32))) (fun z => z ++ t) (fun _ => True)) := by
        intro m2
        induction m2 with
        | zero =>
          intro b hb u hu
          have eb : b = nt := by omega
          rw [eb]
          obtain ⟨fsu, hcu⟩ := CI.cell hu
          refine r_iload 0 dX10_isSame_343 rfl ?_
          refine r_aload_n 3 dX10_isSame_345 rfl ?_
          refine r_getm (v := .int (nI nt)) (ci := 10) (fs := [.int (nI ne), .int (nI nt), .ref aC, .ref aD, .ref aO, .ref aT, .int ev, .int cr]) dX10_isSame_346 fl_X10_33 (List.mem_append_right _ (List.mem_append_left _ hS.1)) rfl ?_
          refine r_icmp_ge (tgt := 394) dX10_isSame_349 (by decide) (fun _ => ?_) (fun hc => absurd (nI_le (Nat.le_refl _) (by omega)) hc)
          refine r_iinc (v2 := (nI (k + 1))) 1 [(3, .int (nI (k + 1))), (4, .int (nI nt)), (2, .ref lb), (0, .ref s), (1, .ref (ad 0))] dX10_isSame_394 rfl (nI_1 k) (by decide) rfl ?_
          refine r_goto (tgt := 281) dX10_isSame_397 (by decide) ?_
          refine r_ls [0, 2, 3, 4] (ls2 := [(3, .int (nI (k + 1))), (2, .ref lb), (0, .ref s), (1, .ref (ad 0))]) rfl ?_
          refine r_room (x2 := 40 * m + 200) (y2 := 240 * m + 1200) (by omega) (by omega) ?_
          exact ih (k + 1) (by omega) u hu
        | succ m2 ih2 =>
          intro b hb u hu
          have hb2 : b < nt := by omega
          obtain ⟨fsu, hcu⟩ := CI.cell hu
          refine r_room (x2 := (4 * m2 + 40 * m + 200 + 4)) (y2 := (24 * m2 + 240 * m + 1200 + 24)) (by omega) (by omega) ?_
          refine r_iload 0 dX10_isSame_343 rfl ?_
          refine r_aload_n 3 dX10_isSame_345 rfl ?_
          refine r_getm (v := .int (nI nt)) (ci := 10) (fs := [.int (nI ne), .int (nI nt), .ref aC, .ref aD, .ref aO, .ref aT, .int ev, .int cr]) dX10_isSame_346 fl_X10_33 (List.mem_append_right _ (List.mem_append_left _ hS.1)) rfl ?_
          refine r_icmp_ge (tgt := 394) dX10_isSame_349 (by decide) (fun hc => absurd hc (nI_ge (by omega) (by omega))) (fun _ => ?_)
          refine r_aload_n 4 dX10_isSame_352 rfl ?_
          refine r_iload_n 1 dX10_isSame_353 rfl ?_
          refine r_iload 0 dX10_isSame_354 rfl ?_
          refine r_room (x2 := (4 * m2 + 40 * m + 200 + 2) + 2) (y2 := (24 * m2 + 240 * m + 1200 + 12) + 12) (rq rfl) (rq rfl) ?_
          refine k_Vm (x := (4 * m2 + 40 * m + 200 + 2)) (y := (24 * m2 + 240 * m + 1200 + 12)) (rest := []) dX10_isSame_356 kv_X10_132 (ap_contraryPairs (a := k) (b := b) hu hk2 hb2) rfl rfl (List.mem_append_left _ hcu) rfl (Nat.le_of_ble_eq_true rfl) (by decide) (by decide) ?_
          rintro w21 hI21
          obtain ⟨fs42, hc41⟩ := CI.cell hI21
          show R g mX10_isSame 11 (4 * m2 + 40 * m + 200 + 2) (24 * m2 + 240 * m + 1200 + 12) 359 [(4, .int (nI b)), (3, .int (nI k)), (2, .ref lb), (0, .ref s), (1, .ref (ad 0))] [.int (nI (prsS cl (nI k) (nI b) cl.length))] (w21 ++ (sB ++ ([(lb, qA g 4 3 (bestF l0 l1 l2)), (l0, iA g nt (dbF (LIs cl d nt).1)), (l1, iA g 1 (o1 (nI (LIs cl d nt).2.1))), (l2, iA g 1 (o1 (nI (LIs cl d nt).2.2)))] ++ t))) (Dq (fun (_ : va_W) => some (.int (1 : Int32))) (fun z => z ++ t) (fun _ => True))
          refine r_aload_n 3 dX10_isSame_359 rfl ?_
          refine r_iload_n 1 dX10_isSame_360 rfl ?_
          refine r_iload 0 dX10_isSame_361 rfl ?_
          refine k_Vm (x := (4 * m2 + 40 * m + 200 + 2)) (y := (24 * m2 + 240 * m + 1200 + 12)) (rest := [.int (nI (prsS cl (nI k) (nI b) cl.length))]) dX10_isSame_363 kv_X10_50 ((cl_pairs (p := nI k) (q := nI b) (SimM.add hS (fun p hp => (List.mem_append_right _ (List.mem_append_left _ hp)))) hV).dq) rfl rfl (List.mem_append_right _ (List.mem_append_left _ hS.1)) rfl (Nat.le_of_ble_eq_true rfl) (by decide) (by decide) ?_
          rintro ⟨⟩ -
          show R g mX10_isSame 11 (4 * m2 + 40 * m + 200 + 2) (24 * m2 + 240 * m + 1200 + 12) 366 [(4, .int (nI b)), (3, .int (nI k)), (2, .ref lb), (0, .ref s), (1, .ref (ad 0))] [.int (nI (prsS cl (nI k) (nI b) cl.length)), .int (nI (prsS cl (nI k) (nI b) cl.length))] (w21 ++ (sB ++ ([(lb, qA g 4 3 (bestF l0 l1 l2)), (l0, iA g nt (dbF (LIs cl d nt).1)), (l1, iA g 1 (o1 (nI (LIs cl d nt).2.1))), (l2, iA g 1 (o1 (nI (LIs cl d nt).2.2)))] ++ t))) (Dq (fun (_ : va_W) => some (.int (1 : Int32))) (fun z => z ++ t) (fun _ => True))
          refine r_icmp_ne (tgt := 386) dX10_isSame_366 (by decide) (fun hc => absurd (rfl) hc) (fun _ => ?_)
          refine r_aload_n 4 dX10_isSame_369 rfl ?_
          refine r_iload_n 1 dX10_isSame_370 rfl ?_
          refine r_iload 0 dX10_isSame_371 rfl ?_
          refine r_room (x2 := (4 * m2 + 40 * m + 200 + 0) + 2) (y2 := (24 * m2 + 240 * m + 1200 + 0) + 12) (rq rfl) (rq rfl) ?_
          refine k_Vm (x := (4 * m2 + 40 * m + 200 + 0)) (y := (24 * m2 + 240 * m + 1200 + 0)) (rest := []) dX10_isSame_373 kv_X10_135 (ap_doContradict (a := k) (b := b) hI21 hk2 hb2) rfl rfl (List.mem_append_left _ hc41) rfl (Nat.le_of_ble_eq_true rfl) (by decide) (by decide) ?_
          rintro w22 hI22
          obtain ⟨fs44, hc43⟩ := CI.cell hI22
          show R g mX10_isSame 11 (4 * m2 + 40 * m + 200 + 0) (24 * m2 + 240 * m + 1200 + 0) 376 [(4, .int (nI b)), (3, .int (nI k)), (2, .ref lb), (0, .ref s), (1, .ref (ad 0))] [.int (bI (conS cl d k b))] (w22 ++ (sB ++ ([(lb, qA g 4 3 (bestF l0 l1 l2)), (l0, iA g nt (dbF (LIs cl d nt).1)), (l1, iA g 1 (o1 (nI (LIs cl d nt).2.1))), (l2, iA g 1 (o1 (nI (LIs cl d nt).2.2)))] ++ t))) (Dq (fun (_ : va_W) => some (.int (1 : Int32))) (fun z => z ++ t) (fun _ => True))
          refine r_aload_n 3 dX10_isSame_376 rfl ?_
          refine r_iload_n 1 dX10_isSame_377 rfl ?_
          refine r_iload 0 dX10_isSame_378 rfl ?_
          refine k_Vm (x := (4 * m2 + 40 * m + 200 + 0)) (y := (24 * m2 + 240 * m + 1200 + 0)) (rest := [.int (bI (conS cl d k b))]) dX10_isSame_380 kv_X10_54 ((cl_contradict (a := k) (b := b) (SimM.add hS (fun p hp => (List.mem_append_right _ (List.mem_append_left _ hp)))) hV (by omega) (by omega)).dq) rfl rfl (List.mem_append_right _ (List.mem_append_left _ hS.1)) rfl (Nat.le_of_ble_eq_true rfl) (by decide) (by decide) ?_
          rintro ⟨⟩ -
          show R g mX10_isSame 11 (4 * m2 + 40 * m + 200 + 0) (24 * m2 + 240 * m + 1200 + 0) 383 [(4, .int (nI b)), (3, .int (nI k)), (2, .ref lb), (0, .ref s), (1, .ref (ad 0))] [.int (bI (conS cl d k b)), .int (bI (conS cl d k b))] (w22 ++ (sB ++ ([(lb, qA g 4 3 (bestF l0 l1 l2)), (l0, iA g nt (dbF (LIs cl d nt).1)), (l1, iA g 1 (o1 (nI (LIs cl d nt).2.1))), (l2, iA g 1 (o1 (nI (LIs cl d nt).2.2)))] ++ t))) (Dq (fun (_ : va_W) => some (.int (1 : Int32))) (fun z => z ++ t) (fun _ => True))
          refine r_icmp_eq (tgt := 388) dX10_isSame_383 (by decide) (fun _ => ?_) (fun hc => absurd (rfl) hc)
          refine r_iinc (v2 := (nI (b + 1))) 0 [(4, .int (nI (b + 1))), (3, .int (nI k)), (2, .ref lb), (0, .ref s), (1, .ref (ad 0))] dX10_isSame_388 rfl (nI_1 b) (by decide) rfl ?_
          refine r_goto (tgt := 343) dX10_isSame_391 (by decide) ?_
          refine r_room (x2 := 4 * m2 + 40 * m + 200) (y2 := 24 * m2 + 240 * m + 1200) (by omega) (by omega) ?_
          refine r_ls [0, 1, 2, 3, 4] (ls2 := [(4, .int (nI (b + 1))), (3, .int (nI k)), (2, .ref lb), (0, .ref s), (1, .ref (ad 0))]) rfl ?_
          exact ih2 (b + 1) (by omega) _ hI22
      refine r_icmp_ne (tgt := 334) dX10_isSame_327 (by decide) (fun h1 => ?_) (fun h1 => ?_)
      · have hb : dbF (LIs cl d nt).1 k = 0 := by rw [dbF_bI] at h1 ⊢; revert h1; cases (LIs cl d nt).1.testBit k <;> decide
        refine r_iconst (v := (0 : Int32)) dX10_isSame_334 (by decide) ?_
        refine r_icmp_eq (tgt := 340) dX10_isSame_335 (by decide) (fun _ => ?_) (fun hc => absurd (hb) hc)
        refine r_iconst (v := (0 : Int32)) dX10_isSame_340 (by decide) ?_
        refine r_top (w := .int (nI 0)) (rfl) ?_
        refine r_istore [(4, .int (nI 0)), (3, .int (nI k)), (2, .ref lb), (0, .ref s), (1, .ref (ad 0))] dX10_isSame_341 (by decide) rfl ?_
        refine r_ls [0, 1, 2, 3, 4] (ls2 := [(4, .int (nI 0)), (3, .int (nI k)), (2, .ref lb), (0, .ref s), (1, .ref (ad 0))]) rfl ?_
        refine r_room (x2 := 4 * nt + 40 * m + 200) (y2 := 24 * nt + 240 * m + 1200) (by omega) (by omega) ?_
        exact LB nt 0 (by omega) _ hI20
      · have hb : dbF (LIs cl d nt).1 k = 1 := h1
        refine r_iconst (v := (1 : Int32)) dX10_isSame_330 (by decide) ?_
        refine r_goto (tgt := 335) dX10_isSame_331 (by decide) ?_
        refine r_icmp_eq (tgt := 340) dX10_isSame_335 (by decide) (fun _ => ?_) (fun hc => absurd (hb) hc)
        refine r_iconst (v := (0 : Int32)) dX10_isSame_340 (by decide) ?_
        refine r_top (w := .int (nI 0)) (rfl) ?_
        refine r_istore [(4, .int (nI 0)), (3, .int (nI k)), (2, .ref lb), (0, .ref s), (1, .ref (ad 0))] dX10_isSame_341 (by decide) rfl ?_
        refine r_ls [0, 1, 2, 3, 4] (ls2 := [(4, .int (nI 0)), (3, .int (nI k)), (2, .ref lb), (0, .ref s), (1, .ref (ad 0))]) rfl ?_
        refine r_room (x2 := 4 * nt + 40 * m + 200) (y2 := 24 * nt + 240 * m + 1200) (by omega) (by omega) ?_
        exact LB nt 0 (by omega) _ hI20
  have J248 :  ∀ u : va_W, CI g ad u ne nt cl os d ev cr → R g mX10_isSame 11 500 3000 248 [(0, .ref s), (1, .ref (ad 0))] [] (u ++ (sB ++ t)) (Dq (fun (_ : va_W) => some (.int (1 : Int32))) (fun z => z ++ t) (fun _ => True)) := by
    intro u hu
    obtain ⟨fsu, hcu⟩ := CI.cell hu
    refine r_aload_n 0 dX10_isSame_248 rfl ?_
    refine k_Vm (x := 480) (y := 2800) (rest := []) dX10_isSame_249 kv_X10_64 (cl_liars (SimM.add hS (fun p hp => (List.mem_append_right _ (List.mem_append_left _ hp)))) hV n4) rfl rfl (List.mem_append_right _ (List.mem_append_left _ hS.1)) rfl (Nat.le_of_ble_eq_true rfl) (by decide) (by decide) ?_
    rintro ⟨lb, l0, l1, l2⟩ -
    show R g mX10_isSame 11 480 2800 252 [(0, .ref s), (1, .ref (ad 0))] [.ref lb] ((lb, qA g 4 3 (bestF l0 l1 l2)) :: ((l0, iA g nt (dbF (LIs cl d nt).1)) :: ((l1, iA g 1 (o1 (nI (LIs cl d nt).2.1))) :: ((l2, iA g 1 (o1 (nI (LIs cl d nt).2.2))) :: (u ++ (sB ++ t)))))) (Dq (fun (_ : va_W) => some (.int (1 : Int32))) (fun z => z ++ t) (fun _ => True))
    refine r_seg (ws2 := (u ++ (sB ++ ([(lb, qA g 4 3 (bestF l0 l1 l2)), (l0, iA g nt (dbF (LIs cl d nt).1)), (l1, iA g 1 (o1 (nI (LIs cl d nt).2.1))), (l2, iA g 1 (o1 (nI (LIs cl d nt).2.2)))] ++ t)))) [[(lb, qA g 4 3 (bestF l0 l1 l2))], [(l0, iA g nt (dbF (LIs cl d nt).1))], [(l1, iA g 1 (o1 (nI (LIs cl d nt).2.1)))], [(l2, iA g 1 (o1 (nI (LIs cl d nt).2.2)))], u, sB, t] [4, 5, 0, 1, 2, 3, 6] rfl rfl rfl ?_
    refine r_astore_n [(2, .ref lb), (0, .ref s), (1, .ref (ad 0))] dX10_isSame_252 (by decide) rfl ?_
    refine r_aload_n 2 dX10_isSame_253 rfl ?_
    refine k_Vm (x := 480) (y := 2800) (rest := []) dX10_isSame_254 kv_X10_117 (ap_liars hu) rfl rfl (List.mem_append_left _ hcu) rfl (Nat.le_of_ble_eq_true rfl) (by decide) (by decide) ?_
    rintro w23 hI23
    obtain ⟨fs46, hc45⟩ := CI.cell hI23
    show R g mX10_isSame 11 480 2800 257 [(2, .ref lb), (0, .ref s), (1, .ref (ad 0))] [.int (nI (LIs cl d nt).2.2)] (w23 ++ (sB ++ ([(lb, qA g 4 3 (bestF l0 l1 l2)), (l0, iA g nt (dbF (LIs cl d nt).1)), (l1, iA g 1 (o1 (nI (LIs cl d nt).2.1))), (l2, iA g 1 (o1 (nI (LIs cl d nt).2.2)))] ++ t))) (Dq (fun (_ : va_W) => some (.int (1 : Int32))) (fun z => z ++ t) (fun _ => True))
    refine r_aload_n 0 dX10_isSame_257 rfl ?_
    refine r_iconst (v := (2 : Int32)) dX10_isSame_258 (by decide) ?_
    refine r_aaldm (t := 4) (n := 3) (f := (bestF l0 l1 l2)) (v := .ref l2) dX10_isSame_259 rfl rfl (List.mem_append_right _ (List.mem_append_right _ (List.mem_append_left _ List.mem_cons_self))) (by decide) (by rw [cl2]; rfl) ?_
    refine r_iconst (v := (0 : Int32)) dX10_isSame_260 (by decide) ?_
    refine r_ialdm (n := 1) (f := (o1 (nI (LIs cl d nt).2.2))) dX10_isSame_261 (List.mem_append_right _ (List.mem_append_right _ (List.mem_append_left _ (List.mem_cons_of_mem _ (List.mem_cons_of_mem _ (List.mem_cons_of_mem _ List.mem_cons_self)))))) (by decide) ?_
    refine r_top (w := .int (nI (LIs cl d nt).2.2)) (by rw [cl0]; rfl) ?_
    refine r_icmp_ne (tgt := 277) dX10_isSame_262 (by decide) (fun hc => absurd (rfl) hc) (fun _ => ?_)
    refine r_aload_n 2 dX10_isSame_265 rfl ?_
    refine k_Vm (x := 480) (y := 2800) (rest := []) dX10_isSame_266 kv_X10_119 (ap_smallestSets hI23) rfl rfl (List.mem_append_left _ hc45) rfl (Nat.le_of_ble_eq_true rfl) (by decide) (by decide) ?_
    rintro w24 hI24
    obtain ⟨fs48, hc47⟩ := CI.cell hI24
    show R g mX10_isSame 11 480 2800 269 [(2, .ref lb), (0, .ref s), (1, .ref (ad 0))] [.int (nI (LIs cl d nt).2.1)] (w24 ++ (sB ++ ([(lb, qA g 4 3 (bestF l0 l1 l2)), (l0, iA g nt (dbF (LIs cl d nt).1)), (l1, iA g 1 (o1 (nI (LIs cl d nt).2.1))), (l2, iA g 1 (o1 (nI (LIs cl d nt).2.2)))] ++ t))) (Dq (fun (_ : va_W) => some (.int (1 : Int32))) (fun z => z ++ t) (fun _ => True))
    refine r_aload_n 0 dX10_isSame_269 rfl ?_
    refine r_iconst (v := (1 : Int32)) dX10_isSame_270 (by decide) ?_
    refine r_aaldm (t := 4) (n := 3) (f := (bestF l0 l1 l2)) (v := .ref l1) dX10_isSame_271 rfl rfl (List.mem_append_right _ (List.mem_append_right _ (List.mem_append_left _ List.mem_cons_self))) (by decide) (by rw [cl1]; rfl) ?_
    refine r_iconst (v := (0 : Int32)) dX10_isSame_272 (by decide) ?_
    refine r_ialdm (n := 1) (f := (o1 (nI (LIs cl d nt).2.1))) dX10_isSame_273 (List.mem_append_right _ (List.mem_append_right _ (List.mem_append_left _ (List.mem_cons_of_mem _ (List.mem_cons_of_mem _ List.mem_cons_self))))) (by decide) ?_
    refine r_top (w := .int (nI (LIs cl d nt).2.1)) (by rw [cl0]; rfl) ?_
    refine r_icmp_eq (tgt := 279) dX10_isSame_274 (by decide) (fun _ => ?_) (fun hc => absurd (rfl) hc)
    refine r_iconst (v := (0 : Int32)) dX10_isSame_279 (by decide) ?_
    refine r_top (w := .int (nI 0)) (rfl) ?_
    refine r_istore_n [(3, .int (nI 0)), (2, .ref lb), (0, .ref s), (1, .ref (ad 0))] dX10_isSame_280 (by decide) rfl ?_
    refine r_ls [0, 1, 2, 3] (ls2 := [(3, .int (nI 0)), (2, .ref lb), (0, .ref s), (1, .ref (ad 0))]) rfl ?_
    refine r_room (x2 := 40 * nt + 200) (y2 := 240 * nt + 1200) (by omega) (by omega) ?_
    exact LT lb l0 l1 l2 nt 0 (by omega) _ hI24
  have LC : ∀ m k, m + k = cl.length → ∀ u : va_W, CI g ad u ne nt cl os d ev cr → R g mX10_isSame 11 (36 * m + 500) (216 * m + 3000) 103 [(2, .int (nI k)), (0, .ref s), (1, .ref (ad 0))] [] (u ++ (sB ++ t)) (Dq (fun (_ : va_W) => some (.int (1 : Int32))) (fun z => z ++ t) (fun _ => True)) := by
    intro m
    induction m with
    | zero =>
      intro k hk u hu
      have ek : k = cl.length := by omega
      rw [ek]
      obtain ⟨fsu, hcu⟩ := CI.cell hu
      refine r_iload_n 0 dX10_isSame_103 rfl ?_
      refine r_aload_n 1 dX10_isSame_104 rfl ?_
      refine r_getm (v := .ref aC) (ci := 10) (fs := [.int (nI ne), .int (nI nt), .ref aC, .ref aD, .ref aO, .ref aT, .int ev, .int cr]) dX10_isSame_105 fl_X10_9 (List.mem_append_right _ (List.mem_append_left _ hS.1)) rfl ?_
      refine r_alenm (t := 4) (v := (nI ca.length)) dX10_isSame_108 rfl (List.mem_append_right _ (List.mem_append_left _ hS.2.1)) (by rfl) ?_
      refine r_top (w := .int (nI cl.length)) (by rw [hlc]) ?_
      refine r_icmp_ge (tgt := 248) dX10_isSame_109 (by decide) (fun _ => ?_) (fun hc => absurd (nI_le (Nat.le_refl _) (by omega)) hc)
      refine r_ls [1, 2] (ls2 := [(0, .ref s), (1, .ref (ad 0))]) rfl ?_
      refine r_room (x2 := 500) (y2 := 3000) (by omega) (by omega) ?_
      exact J248 u hu
    | succ m ih =>
      intro k hk u hu
      have hk2 : k < cl.length := by omega
      have hk3 : k < ca.length := by omega
      obtain ⟨fsu, hcu⟩ := CI.cell hu
      refine r_room (x2 := (36 * m + 500 + 36)) (y2 := (216 * m + 3000 + 216)) (by omega) (by omega) ?_
      refine r_iload_n 0 dX10_isSame_103 rfl ?_
      refine r_aload_n 1 dX10_isSame_104 rfl ?_
      refine r_getm (v := .ref aC) (ci := 10) (fs := [.int (nI ne), .int (nI nt), .ref aC, .ref aD, .ref aO, .ref aT, .int ev, .int cr]) dX10_isSame_105 fl_X10_9 (List.mem_append_right _ (List.mem_append_left _ hS.1)) rfl ?_
      refine r_alenm (t := 4) (v := (nI ca.length)) dX10_isSame_108 rfl (List.mem_append_right _ (List.mem_append_left _ hS.2.1)) (by rfl) ?_
      refine r_top (w := .int (nI cl.length)) (by rw [hlc]) ?_
      refine r_icmp_ge (tgt := 248) dX10_isSame_109 (by decide) (fun hc => absurd hc (nI_ge hk2 (by omega))) (fun _ => ?_)
      refine r_aload_n 1 dX10_isSame_112 rfl ?_
      refine r_getm (v := .ref aC) (ci := 10) (fs := [.int (nI ne), .int (nI nt), .ref aC, .ref aD, .ref aO, .ref aT, .int ev, .int cr]) dX10_isSame_113 fl_X10_9 (List.mem_append_right _ (List.mem_append_left _ hS.1)) rfl ?_
      refine r_iload_n 0 dX10_isSame_116 rfl ?_
      refine r_aaldm (t := 4) (n := ca.length) (f := (fun k => ca[k]?)) (v := .ref (ca.getD k 0)) dX10_isSame_117 rfl rfl (List.mem_append_right _ (List.mem_append_left _ hS.2.1)) (ib_nI (hk3) (by omega)) (by rw [nI_clamp (by omega), List.getD_eq_getElem?_getD, List.getElem?_eq_getElem (hk3)]; rfl) ?_
      refine r_astore_n [(3, .ref (ca.getD k 0)), (2, .int (nI k)), (0, .ref s), (1, .ref (ad 0))] dX10_isSame_118 (by decide) rfl ?_
      refine r_aload_n 3 dX10_isSame_119 rfl ?_
      refine r_iload_n 1 dX10_isSame_120 rfl ?_
      refine r_room (x2 := (36 * m + 500 + 35) + 1) (y2 := (216 * m + 3000 + 210) + 6) (rq rfl) (rq rfl) ?_
      refine k_Vm (x := (36 * m + 500 + 35)) (y := (216 * m + 3000 + 210)) (rest := []) dX10_isSame_121 kv_X10_96 (ap_kindOf (c := k) hu hk2) rfl rfl (List.mem_append_left _ hcu) rfl (Nat.le_of_ble_eq_true rfl) (by decide) (by decide) ?_
      rintro w25 hI25
      obtain ⟨fs50, hc49⟩ := CI.cell hI25
      show R g mX10_isSame 11 (36 * m + 500 + 35) (216 * m + 3000 + 210) 124 [(3, .ref (ca.getD k 0)), (2, .int (nI k)), (0, .ref s), (1, .ref (ad 0))] [.int (rw5 cl k 0)] (w25 ++ (sB ++ t)) (Dq (fun (_ : va_W) => some (.int (1 : Int32))) (fun z => z ++ t) (fun _ => True))
      refine r_aload_n 0 dX10_isSame_124 rfl ?_
      refine r_iconst (v := (0 : Int32)) dX10_isSame_125 (by decide) ?_
      refine r_ialdm (n := 5) (f := (rw5 cl k)) dX10_isSame_126 (List.mem_append_right _ (List.mem_append_left _ (hS.2.2.1 k (hk3)))) (by decide) ?_
      refine r_top (w := .int (rw5 cl k 0)) (by rw [cl0]) ?_
      refine r_icmp_ne (tgt := 152) dX10_isSame_127 (by decide) (fun hc => absurd (rfl) hc) (fun _ => ?_)
      refine r_aload_n 3 dX10_isSame_130 rfl ?_
      refine r_iload_n 1 dX10_isSame_131 rfl ?_
      refine r_room (x2 := (36 * m + 500 + 34) + 1) (y2 := (216 * m + 3000 + 204) + 6) (rq rfl) (rq rfl) ?_
      refine k_Vm (x := (36 * m + 500 + 34)) (y := (216 * m + 3000 + 204)) (rest := []) dX10_isSame_132 kv_X10_99 (ap_tellerOf (c := k) hI25 hk2) rfl rfl (List.mem_append_left _ hc49) rfl (Nat.le_of_ble_eq_true rfl) (by decide) (by decide) ?_
      rintro w26 hI26
      obtain ⟨fs52, hc51⟩ := CI.cell hI26
      show R g mX10_isSame 11 (36 * m + 500 + 34) (216 * m + 3000 + 204) 135 [(3, .ref (ca.getD k 0)), (2, .int (nI k)), (0, .ref s), (1, .ref (ad 0))] [.int (rw5 cl k 1)] (w26 ++ (sB ++ t)) (Dq (fun (_ : va_W) => some (.int (1 : Int32))) (fun z => z ++ t) (fun _ => True))
      refine r_aload_n 0 dX10_isSame_135 rfl ?_
      refine r_iconst (v := (1 : Int32)) dX10_isSame_136 (by decide) ?_
      refine r_ialdm (n := 5) (f := (rw5 cl k)) dX10_isSame_137 (List.mem_append_right _ (List.mem_append_left _ (hS.2.2.1 k (hk3)))) (by decide) ?_
      refine r_top (w := .int (rw5 cl k 1)) (by rw [cl1]) ?_
      refine r_icmp_ne (tgt := 152) dX10_isSame_138 (by decide) (fun hc => absurd (rfl) hc) (fun _ => ?_)
      refine r_aload_n 3 dX10_isSame_141 rfl ?_
      refine r_iload_n 1 dX10_isSame_142 rfl ?_
      refine r_room (x2 := (36 * m + 500 + 33) + 1) (y2 := (216 * m + 3000 + 198) + 6) (rq rfl) (rq rfl) ?_
      refine k_Vm (x := (36 * m + 500 + 33)) (y := (216 * m + 3000 + 198)) (rest := []) dX10_isSame_143 kv_X10_102 (ap_eventOf (c := k) hI26 hk2) rfl rfl (List.mem_append_left _ hc51) rfl (Nat.le_of_ble_eq_true rfl) (by decide) (by decide) ?_
      rintro w27 hI27
      obtain ⟨fs54, hc53⟩ := CI.cell hI27
      show R g mX10_isSame 11 (36 * m + 500 + 33) (216 * m + 3000 + 198) 146 [(3, .ref (ca.getD k 0)), (2, .int (nI k)), (0, .ref s), (1, .ref (ad 0))] [.int (rw5 cl k 2)] (w27 ++ (sB ++ t)) (Dq (fun (_ : va_W) => some (.int (1 : Int32))) (fun z => z ++ t) (fun _ => True))
      refine r_aload_n 0 dX10_isSame_146 rfl ?_
      refine r_iconst (v := (2 : Int32)) dX10_isSame_147 (by decide) ?_
      refine r_ialdm (n := 5) (f := (rw5 cl k)) dX10_isSame_148 (List.mem_append_right _ (List.mem_append_left _ (hS.2.2.1 k (hk3)))) (by decide) ?_
      refine r_top (w := .int (rw5 cl k 2)) (by rw [cl2]) ?_
      refine r_icmp_eq (tgt := 154) dX10_isSame_149 (by decide) (fun _ => ?_) (fun hc => absurd (rfl) hc)
      have J198 :  ∀ u : va_W, CI g ad u ne nt cl os d ev cr → R g mX10_isSame 11 (36 * m + 500 + 28) (216 * m + 3000 + 168) 198 [(3, .ref (ca.getD k 0)), (2, .int (nI k)), (0, .ref s), (1, .ref (ad 0))] [] (u ++ (sB ++ t)) (Dq (fun (_ : va_W) => some (.int (1 : Int32))) (fun z => z ++ t) (fun _ => True)) := by
        intro u hu
        obtain ⟨fsu, hcu⟩ := CI.cell hu
        refine r_iload_n 1 dX10_isSame_198 rfl ?_
        refine r_iconst (v := (3 : Int32)) dX10_isSame_199 (by decide) ?_
        refine r_irem dX10_isSame_200 (by decide) ?_
        refine r_top (w := .int (nI (k % 3))) (congrArg Value.int (rem3 k (by omega))) ?_
        refine r_istore [(4, .int (nI (k % 3))), (3, .ref (ca.getD k 0)), (2, .int (nI k)), (0, .ref s), (1, .ref (ad 0))] dX10_isSame_201 (by decide) rfl ?_
        have LD : ∀ m2 dd, dd + 3 * m2 < cl.length + 3 → cl.length ≤ dd + 3 * m2 → ∀ u : va_W, CI g ad u ne nt cl os d ev cr → R g mX10_isSame 11 (36 * m + 500 + 2 * m2) (216 * m + 3000 + 12 * m2) 203 [(4, .int (nI dd)), (3, .ref (ca.getD k 0)), (2, .int (nI k)), (0, .ref s), (1, .ref (ad 0))] [] (u ++ (sB ++ t)) (Dq (fun (_ : va_W) => some (.int (1 : Int32))) (fun z => z ++ t) (fun _ => True)) := by
          intro m2
          induction m2 with
          | zero =>
            intro dd hd1 hd2 u hu
            obtain ⟨fsu, hcu⟩ := CI.cell hu
            refine r_iload 0 dX10_isSame_203 rfl ?_
            refine r_aload_n 3 dX10_isSame_205 rfl ?_
            refine r_getm (v := .ref aC) (ci := 10) (fs := [.int (nI ne), .int (nI nt), .ref aC, .ref aD, .ref aO, .ref aT, .int ev, .int cr]) dX10_isSame_206 fl_X10_9 (List.mem_append_right _ (List.mem_append_left _ hS.1)) rfl ?_
            refine r_alenm (t := 4) (v := (nI ca.length)) dX10_isSame_209 rfl (List.mem_append_right _ (List.mem_append_left _ hS.2.1)) (by rfl) ?_
            refine r_top (w := .int (nI cl.length)) (by rw [hlc]) ?_
            refine r_icmp_ge (tgt := 242) dX10_isSame_210 (by decide) (fun _ => ?_) (fun hc => absurd (nI_le (by omega) (by omega)) hc)
            refine r_iinc (v2 := (nI (k + 1))) 2 [(2, .int (nI (k + 1))), (4, .int (nI dd)), (3, .ref (ca.getD k 0)), (0, .ref s), (1, .ref (ad 0))] dX10_isSame_242 rfl (nI_1 k) (by decide) rfl ?_
            refine r_goto (tgt := 103) dX10_isSame_245 (by decide) ?_
            refine r_ls [0, 3, 4] (ls2 := [(2, .int (nI (k + 1))), (0, .ref s), (1, .ref (ad 0))]) rfl ?_
            refine r_room (x2 := 36 * m + 500) (y2 := 216 * m + 3000) (by omega) (by omega) ?_
            exact ih (k + 1) (by omega) u hu
          | succ m2 ih2 =>
            intro dd hd1 hd2 u hu
            have hd3 : dd < cl.length := by omega
            have hd4 : dd < ca.length := by omega
            obtain ⟨fsu, hcu⟩ := CI.cell hu
            refine r_room (x2 := (36 * m + 500 + 2 * m2 + 2)) (y2 := (216 * m + 3000 + 12 * m2 + 12)) (by omega) (by omega) ?_
            refine r_iload 0 dX10_isSame_203 rfl ?_
            refine r_aload_n 3 dX10_isSame_205 rfl ?_
            refine r_getm (v := .ref aC) (ci := 10) (fs := [.int (nI ne), .int (nI nt), .ref aC, .ref aD, .ref aO, .ref aT, .int ev, .int cr]) dX10_isSame_206 fl_X10_9 (List.mem_append_right _ (List.mem_append_left _ hS.1)) rfl ?_
            refine r_alenm (t := 4) (v := (nI ca.length)) dX10_isSame_209 rfl (List.mem_append_right _ (List.mem_append_left _ hS.2.1)) (by rfl) ?_
            refine r_top (w := .int (nI cl.length)) (by rw [hlc]) ?_
            refine r_icmp_ge (tgt := 242) dX10_isSame_210 (by decide) (fun hc => absurd hc (nI_ge hd3 (by omega))) (fun _ => ?_)
            refine r_aload_n 4 dX10_isSame_213 rfl ?_
            refine r_iload_n 2 dX10_isSame_214 rfl ?_
            refine r_iload 0 dX10_isSame_215 rfl ?_
            refine r_room (x2 := (36 * m + 500 + 2 * m2 + 0) + 2) (y2 := (216 * m + 3000 + 12 * m2 + 0) + 12) (rq rfl) (rq rfl) ?_
            refine k_Vm (x := (36 * m + 500 + 2 * m2 + 0)) (y := (216 * m + 3000 + 12 * m2 + 0)) (rest := []) dX10_isSame_217 kv_X10_114 (ap_areContrary (a := k) (b := dd) hu hk2 hd3) rfl rfl (List.mem_append_left _ hcu) rfl (Nat.le_of_ble_eq_true rfl) (by decide) (by decide) ?_
            rintro w28 hI28
            obtain ⟨fs56, hc55⟩ := CI.cell hI28
            show R g mX10_isSame 11 (36 * m + 500 + 2 * m2 + 0) (216 * m + 3000 + 12 * m2 + 0) 220 [(4, .int (nI dd)), (3, .ref (ca.getD k 0)), (2, .int (nI k)), (0, .ref s), (1, .ref (ad 0))] [.int (bI (ctF (rw5 cl k) (rw5 cl dd)))] (w28 ++ (sB ++ t)) (Dq (fun (_ : va_W) => some (.int (1 : Int32))) (fun z => z ++ t) (fun _ => True))
            refine r_aload_n 1 dX10_isSame_220 rfl ?_
            refine r_aload_n 3 dX10_isSame_221 rfl ?_
            refine r_getm (v := .ref aC) (ci := 10) (fs := [.int (nI ne), .int (nI nt), .ref aC, .ref aD, .ref aO, .ref aT, .int ev, .int cr]) dX10_isSame_222 fl_X10_9 (List.mem_append_right _ (List.mem_append_left _ hS.1)) rfl ?_
            refine r_iload 0 dX10_isSame_225 rfl ?_
            refine r_aaldm (t := 4) (n := ca.length) (f := (fun k => ca[k]?)) (v := .ref (ca.getD dd 0)) dX10_isSame_227 rfl rfl (List.mem_append_right _ (List.mem_append_left _ hS.2.1)) (ib_nI (hd4) (by omega)) (by rw [nI_clamp (by omega), List.getD_eq_getElem?_getD, List.getElem?_eq_getElem (hd4)]; rfl) ?_
            refine k_S (x := (36 * m + 500 + 2 * m2 + 0)) (y := (216 * m + 3000 + 12 * m2 + 0)) (rest := [.int (bI (ctF (rw5 cl k) (rw5 cl dd)))]) dX10_isSame_228 ks_X10_46 ((cl_contrary (a := ca.getD k 0) (b := ca.getD dd 0) ((List.mem_append_right _ (List.mem_append_left _ (hS.2.2.1 k hk3)))) ((List.mem_append_right _ (List.mem_append_left _ (hS.2.2.1 dd hd4)))) (hV1 k hk2) (hV1 dd hd3)).dq) rfl rfl (Nat.le_of_ble_eq_true rfl) (by decide) (by decide) ?_
            rintro ⟨⟩ -
            show R g mX10_isSame 11 (36 * m + 500 + 2 * m2 + 0) (216 * m + 3000 + 12 * m2 + 0) 231 [(4, .int (nI dd)), (3, .ref (ca.getD k 0)), (2, .int (nI k)), (0, .ref s), (1, .ref (ad 0))] [.int (bI (ctF (rw5 cl k) (rw5 cl dd))), .int (bI (ctF (rw5 cl k) (rw5 cl dd)))] (w28 ++ (sB ++ t)) (Dq (fun (_ : va_W) => some (.int (1 : Int32))) (fun z => z ++ t) (fun _ => True))
            refine r_icmp_eq (tgt := 236) dX10_isSame_231 (by decide) (fun _ => ?_) (fun hc => absurd (rfl) hc)
            refine r_iinc (v2 := (nI (dd + 3))) 0 [(4, .int (nI (dd + 3))), (3, .ref (ca.getD k 0)), (2, .int (nI k)), (0, .ref s), (1, .ref (ad 0))] dX10_isSame_236 rfl (add3 dd) (by decide) rfl ?_
            refine r_goto (tgt := 203) dX10_isSame_239 (by decide) ?_
            refine r_room (x2 := 36 * m + 500 + 2 * m2) (y2 := 216 * m + 3000 + 12 * m2) (by omega) (by omega) ?_
            refine r_ls [0, 1, 2, 3, 4] (ls2 := [(4, .int (nI (dd + 3))), (3, .ref (ca.getD k 0)), (2, .int (nI k)), (0, .ref s), (1, .ref (ad 0))]) rfl ?_
            exact ih2 (dd + 3) (by omega) (by omega) _ hI28
        refine r_ls [0, 1, 2, 3, 4] (ls2 := [(4, .int (nI (k % 3))), (3, .ref (ca.getD k 0)), (2, .int (nI k)), (0, .ref s), (1, .ref (ad 0))]) rfl ?_
        refine r_room (x2 := 36 * m + 500 + 2 * 14) (y2 := 216 * m + 3000 + 12 * 14) (by omega) (by omega) ?_
        have hm9 : ∃ m9, m9 ≤ 14 ∧ k % 3 + 3 * m9 < cl.length + 3 ∧ cl.length ≤ k % 3 + 3 * m9 := ⟨(cl.length + 2 - k % 3) / 3, by omega, by omega, by omega⟩
        obtain ⟨m9, hm1, hm2, hm3⟩ := hm9
        refine r_room (x2 := 36 * m + 500 + 2 * m9) (y2 := 216 * m + 3000 + 12 * m9) (by omega) (by omega) ?_
        exact LD m9 (k % 3) hm2 hm3 u hu
      refine r_aload_n 0 dX10_isSame_154 rfl ?_
      refine r_iconst (v := (0 : Int32)) dX10_isSame_155 (by decide) ?_
      refine r_ialdm (n := 5) (f := (rw5 cl k)) dX10_isSame_156 (List.mem_append_right _ (List.mem_append_left _ (hS.2.2.1 k (hk3)))) (by decide) ?_
      refine r_top (w := .int (rw5 cl k 0)) (by rw [cl0]) ?_
      refine r_if_ne (tgt := 185) dX10_isSame_157 (by decide) (fun h0 => ?_) (fun h0 => ?_)
      · refine r_aload_n 3 dX10_isSame_185 rfl ?_
        refine r_iload_n 1 dX10_isSame_186 rfl ?_
        refine r_room (x2 := (36 * m + 500 + 31) + 2) (y2 := (216 * m + 3000 + 186) + 12) (rq rfl) (rq rfl) ?_
        refine k_Vm (x := (36 * m + 500 + 31)) (y := (216 * m + 3000 + 186)) (rest := []) dX10_isSame_187 kv_X10_111 (ap_secondEventOf (c := k) hI27 hk2 h0) rfl rfl (List.mem_append_left _ hc53) rfl (Nat.le_of_ble_eq_true rfl) (by decide) (by decide) ?_
        rintro w29 hI29
        obtain ⟨fs58, hc57⟩ := CI.cell hI29
        show R g mX10_isSame 11 (36 * m + 500 + 31) (216 * m + 3000 + 186) 190 [(3, .ref (ca.getD k 0)), (2, .int (nI k)), (0, .ref s), (1, .ref (ad 0))] [.int (rw5 cl k 3)] (w29 ++ (sB ++ t)) (Dq (fun (_ : va_W) => some (.int (1 : Int32))) (fun z => z ++ t) (fun _ => True))
        refine r_aload_n 0 dX10_isSame_190 rfl ?_
        refine r_iconst (v := (3 : Int32)) dX10_isSame_191 (by decide) ?_
        refine r_ialdm (n := 5) (f := (rw5 cl k)) dX10_isSame_192 (List.mem_append_right _ (List.mem_append_left _ (hS.2.2.1 k (hk3)))) (by decide) ?_
        refine r_top (w := .int (rw5 cl k 3)) (by rw [cl3]) ?_
        refine r_icmp_eq (tgt := 198) dX10_isSame_193 (by decide) (fun _ => ?_) (fun hc => absurd (rfl) hc)
        refine r_room (x2 := 36 * m + 500 + 28) (y2 := 216 * m + 3000 + 168) (by omega) (by omega) ?_
        exact J198 _ hI29
      · refine r_aload_n 3 dX10_isSame_160 rfl ?_
        refine r_iload_n 1 dX10_isSame_161 rfl ?_
        refine r_room (x2 := (36 * m + 500 + 31) + 2) (y2 := (216 * m + 3000 + 186) + 12) (rq rfl) (rq rfl) ?_
        refine k_Vm (x := (36 * m + 500 + 31)) (y := (216 * m + 3000 + 186)) (rest := []) dX10_isSame_162 kv_X10_105 (ap_firstHourOf (c := k) hI27 hk2 h0) rfl rfl (List.mem_append_left _ hc53) rfl (Nat.le_of_ble_eq_true rfl) (by decide) (by decide) ?_
        rintro w30 hI30
        obtain ⟨fs60, hc59⟩ := CI.cell hI30
        show R g mX10_isSame 11 (36 * m + 500 + 31) (216 * m + 3000 + 186) 165 [(3, .ref (ca.getD k 0)), (2, .int (nI k)), (0, .ref s), (1, .ref (ad 0))] [.int (rw5 cl k 3)] (w30 ++ (sB ++ t)) (Dq (fun (_ : va_W) => some (.int (1 : Int32))) (fun z => z ++ t) (fun _ => True))
        refine r_aload_n 0 dX10_isSame_165 rfl ?_
        refine r_iconst (v := (3 : Int32)) dX10_isSame_166 (by decide) ?_
        refine r_ialdm (n := 5) (f := (rw5 cl k)) dX10_isSame_167 (List.mem_append_right _ (List.mem_append_left _ (hS.2.2.1 k (hk3)))) (by decide) ?_
        refine r_top (w := .int (rw5 cl k 3)) (by rw [cl3]) ?_
        refine r_icmp_ne (tgt := 196) dX10_isSame_168 (by decide) (fun hc => absurd (rfl) hc) (fun _ => ?_)
        refine r_aload_n 3 dX10_isSame_171 rfl ?_
        refine r_iload_n 1 dX10_isSame_172 rfl ?_
        refine r_room (x2 := (36 * m + 500 + 29) + 2) (y2 := (216 * m + 3000 + 174) + 12) (rq rfl) (rq rfl) ?_
        refine k_Vm (x := (36 * m + 500 + 29)) (y := (216 * m + 3000 + 174)) (rest := []) dX10_isSame_173 kv_X10_108 (ap_lastHourOf (c := k) hI30 hk2 h0) rfl rfl (List.mem_append_left _ hc59) rfl (Nat.le_of_ble_eq_true rfl) (by decide) (by decide) ?_
        rintro w31 hI31
        obtain ⟨fs62, hc61⟩ := CI.cell hI31
        show R g mX10_isSame 11 (36 * m + 500 + 29) (216 * m + 3000 + 174) 176 [(3, .ref (ca.getD k 0)), (2, .int (nI k)), (0, .ref s), (1, .ref (ad 0))] [.int (rw5 cl k 4)] (w31 ++ (sB ++ t)) (Dq (fun (_ : va_W) => some (.int (1 : Int32))) (fun z => z ++ t) (fun _ => True))
        refine r_aload_n 0 dX10_isSame_176 rfl ?_
        refine r_iconst (v := (4 : Int32)) dX10_isSame_177 (by decide) ?_
        refine r_ialdm (n := 5) (f := (rw5 cl k)) dX10_isSame_178 (List.mem_append_right _ (List.mem_append_left _ (hS.2.2.1 k (hk3)))) (by decide) ?_
        refine r_top (w := .int (rw5 cl k 4)) (by rw [cl4]) ?_
        refine r_icmp_eq (tgt := 198) dX10_isSame_179 (by decide) (fun _ => ?_) (fun hc => absurd (rfl) hc)
        refine r_room (x2 := 36 * m + 500 + 28) (y2 := 216 * m + 3000 + 168) (by omega) (by omega) ?_
        exact J198 _ hI31
  refine r_ls [0, 1, 2] (ls2 := [(2, .int (nI 0)), (0, .ref s), (1, .ref (ad 0))]) rfl ?_
  refine r_room (x2 := 36 * cl.length + 500) (y2 := 216 * cl.length + 3000) (by omega) (by omega) ?_
  exact LC cl.length 0 (by omega) _ hI7
