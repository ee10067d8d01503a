set_option maxRecDepth 20000 in
set_option maxHeartbeats 16000000 in
theorem law_A {nm : String} {g : GG} {ad : Nat → Nat} {t sB : va_W} {Q : Rs → va_W → Prop} {s ne nt d tm : Nat} {cl : List (Nat → Int32)} {os : List OT} {ev cr x : Int32} {A : Nat → Nat} {u0 : va_W} {xx yy : Nat} (hI : CI g ad u0 ne nt cl os d ev cr) (hA : AcS cl A) (K : (∀ u : va_W, CI g ad u ne nt cl os d ev cr → R g (mL_law nm) 1400 xx yy 438 [(10, .int (nI (pnS cl d nt nt))), (9, .int (nI (LIs cl d nt).2.2)), (7, .long (dgS ne nt cl d ev cr)), (6, .int x), (5, .int (nI tm)), (4, .int (nI nt)), (3, .ref s), (1, .ref (ad 0)), (0, .ref (gb g))] [] (u ++ (sB ++ t)) Q)) : R g (mL_law nm) 1400 (xx + 800) (yy + 4800) 89 [(7, .long (dgS ne nt cl d ev cr)), (6, .int x), (5, .int (nI tm)), (4, .int (nI nt)), (3, .ref s), (1, .ref (ad 0)), (0, .ref (gb g))] [] (u0 ++ (sB ++ t)) Q := by
  obtain ⟨n1, n2, n3, n4, hd, h40, hV, hD⟩ := CI.num hI
  have hn10 : nt ≤ 10 := by omega
  obtain ⟨fs2, hc1⟩ := CI.cell hI
  have LA : ∀ m a, m + a = nt → ∀ u : va_W, CI g ad u ne nt cl os d ev cr → R g (mL_law nm) 1400 (100 * m + xx) (600 * m + yy) 101 [(12, .int (nI a)), (11, .int (nI (sm a (fun i => cntS cl (nI i) cl.length)))), (10, .int (nI (pnS cl d nt a))), (9, .int (nI (sm a (fun i => b1 ((LIs cl d nt).1.testBit i))))), (7, .long (dgS ne nt cl d ev cr)), (6, .int x), (5, .int (nI tm)), (4, .int (nI nt)), (3, .ref s), (1, .ref (ad 0)), (0, .ref (gb g))] [] (u ++ (sB ++ t)) Q := by
    intro m
    induction m with
    | zero =>
      intro a ha u hu
      have ea : a = nt := by omega
      rw [ea]
      obtain ⟨fs4, hc3⟩ := CI.cell hu
      refine r_room (x2 := xx) (y2 := yy) (by omega) (by omega) ?_
      refine r_iload 0 dL_law_101 rfl ?_
      refine r_iload 7 dL_law_103 rfl ?_
      refine r_icmp_ge (tgt := 369) dL_law_105 (by decide) (fun _ => ?_) (fun hc => absurd (nI_le (Nat.le_refl _) (by omega)) hc)
      refine r_iload 3 dL_law_369 rfl ?_
      refine r_aload_n 9 dL_law_371 rfl ?_
      refine k_Vm (x := xx) (y := yy) (rest := [.int (nI (sm nt (fun i => b1 ((LIs cl d nt).1.testBit i))))]) dL_law_372 kv_L_219 (ap_liars hu) rfl rfl (List.mem_append_left _ hc3) rfl (Nat.le_of_ble_eq_true rfl) (by decide) (by decide) ?_
      rintro u1 hJ1
      obtain ⟨fs6, hc5⟩ := CI.cell hJ1
      show R g (mL_law nm) 1400 xx yy 375 [(12, .int (nI nt)), (11, .int (nI (sm nt (fun i => cntS cl (nI i) cl.length)))), (10, .int (nI (pnS cl d nt nt))), (9, .int (nI (sm nt (fun i => b1 ((LIs cl d nt).1.testBit i))))), (7, .long (dgS ne nt cl d ev cr)), (6, .int x), (5, .int (nI tm)), (4, .int (nI nt)), (3, .ref s), (1, .ref (ad 0)), (0, .ref (gb g))] [.int (nI (LIs cl d nt).2.2), .int (nI (sm nt (fun i => b1 ((LIs cl d nt).1.testBit i))))] (u1 ++ (sB ++ t)) Q
      refine r_icmp_ne (tgt := 436) dL_law_375 (by decide) (fun hc => absurd (congrArg nI (f_count hA hn10)) hc) (fun _ => ?_)
      refine r_iload 2 dL_law_378 rfl ?_
      refine r_aload_n 9 dL_law_380 rfl ?_
      refine k_Vm (x := xx) (y := yy) (rest := [.int (nI (pnS cl d nt nt))]) dL_law_381 kv_L_222 (ap_contradictions hJ1) rfl rfl (List.mem_append_left _ hc5) rfl (Nat.le_of_ble_eq_true rfl) (by decide) (by decide) ?_
      rintro u2 hJ2
      obtain ⟨fs8, hc7⟩ := CI.cell hJ2
      show R g (mL_law nm) 1400 xx yy 384 [(12, .int (nI nt)), (11, .int (nI (sm nt (fun i => cntS cl (nI i) cl.length)))), (10, .int (nI (pnS cl d nt nt))), (9, .int (nI (sm nt (fun i => b1 ((LIs cl d nt).1.testBit i))))), (7, .long (dgS ne nt cl d ev cr)), (6, .int x), (5, .int (nI tm)), (4, .int (nI nt)), (3, .ref s), (1, .ref (ad 0)), (0, .ref (gb g))] [.int (nI (pnS cl d nt nt)), .int (nI (pnS cl d nt nt))] (u2 ++ (sB ++ t)) Q
      refine r_icmp_ne (tgt := 436) dL_law_384 (by decide) (fun hc => absurd (rfl) hc) (fun _ => ?_)
      refine r_iload 1 dL_law_387 rfl ?_
      refine r_aload_n 9 dL_law_389 rfl ?_
      refine k_Vm (x := xx) (y := yy) (rest := [.int (nI (sm nt (fun i => cntS cl (nI i) cl.length)))]) dL_law_390 kv_L_225 (ap_claims hJ2) rfl rfl (List.mem_append_left _ hc7) rfl (Nat.le_of_ble_eq_true rfl) (by decide) (by decide) ?_
      rintro u3 hJ3
      obtain ⟨fs10, hc9⟩ := CI.cell hJ3
      show R g (mL_law nm) 1400 xx yy 393 [(12, .int (nI nt)), (11, .int (nI (sm nt (fun i => cntS cl (nI i) cl.length)))), (10, .int (nI (pnS cl d nt nt))), (9, .int (nI (sm nt (fun i => b1 ((LIs cl d nt).1.testBit i))))), (7, .long (dgS ne nt cl d ev cr)), (6, .int x), (5, .int (nI tm)), (4, .int (nI nt)), (3, .ref s), (1, .ref (ad 0)), (0, .ref (gb g))] [.int (nI cl.length), .int (nI (sm nt (fun i => cntS cl (nI i) cl.length)))] (u3 ++ (sB ++ t)) Q
      refine r_icmp_ne (tgt := 436) dL_law_393 (by decide) (fun hc => absurd (congrArg nI (f_claims hV hn10)) hc) (fun _ => ?_)
      obtain ⟨s1, s64⟩ := f_sets (d := d) hA n4
      refine r_aload_n 9 dL_law_396 rfl ?_
      refine k_Vm (x := xx) (y := yy) (rest := []) dL_law_397 kv_L_227 (ap_smallestSets hJ3) rfl rfl (List.mem_append_left _ hc9) rfl (Nat.le_of_ble_eq_true rfl) (by decide) (by decide) ?_
      rintro u4 hJ4
      obtain ⟨fs12, hc11⟩ := CI.cell hJ4
      show R g (mL_law nm) 1400 xx yy 400 [(12, .int (nI nt)), (11, .int (nI (sm nt (fun i => cntS cl (nI i) cl.length)))), (10, .int (nI (pnS cl d nt nt))), (9, .int (nI (sm nt (fun i => b1 ((LIs cl d nt).1.testBit i))))), (7, .long (dgS ne nt cl d ev cr)), (6, .int x), (5, .int (nI tm)), (4, .int (nI nt)), (3, .ref s), (1, .ref (ad 0)), (0, .ref (gb g))] [.int (nI (LIs cl d nt).2.1)] (u4 ++ (sB ++ t)) Q
      refine r_iconst (v := (1 : Int32)) dL_law_400 (by decide) ?_
      refine r_icmp_lt (tgt := 436) dL_law_401 (by decide) (fun hc => absurd hc (fun h => absurd ((nI_ltI (a := (LIs cl d nt).2.1) (b := 1) (by omega) (by decide)).mp h) (by omega))) (fun _ => ?_)
      refine r_aload_n 9 dL_law_404 rfl ?_
      refine k_Vm (x := xx) (y := yy) (rest := []) dL_law_405 kv_L_227 (ap_smallestSets hJ4) rfl rfl (List.mem_append_left _ hc11) rfl (Nat.le_of_ble_eq_true rfl) (by decide) (by decide) ?_
      rintro u5 hJ5
      obtain ⟨fs14, hc13⟩ := CI.cell hJ5
      show R g (mL_law nm) 1400 xx yy 408 [(12, .int (nI nt)), (11, .int (nI (sm nt (fun i => cntS cl (nI i) cl.length)))), (10, .int (nI (pnS cl d nt nt))), (9, .int (nI (sm nt (fun i => b1 ((LIs cl d nt).1.testBit i))))), (7, .long (dgS ne nt cl d ev cr)), (6, .int x), (5, .int (nI tm)), (4, .int (nI nt)), (3, .ref s), (1, .ref (ad 0)), (0, .ref (gb g))] [.int (nI (LIs cl d nt).2.1)] (u5 ++ (sB ++ t)) Q
      refine r_bipush (v := (64 : Int32)) dL_law_408 (by decide) ?_
      refine r_icmp_gt (tgt := 436) dL_law_410 (by decide) (fun hc => absurd hc (fun h => absurd ((nI_ltI (a := 64) (b := (LIs cl d nt).2.1) (by decide) (by omega)).mp h) (by omega))) (fun _ => ?_)
      refine r_iload 3 dL_law_413 rfl ?_
      have hfw := f_few (d := d) hA hn10
      have hpl := pnS_le cl d nt nt
      have hpn : nt * nt ≤ 6 * 6 := Nat.mul_le_mul n4 n4
      have hco := f_count (d := d) hA hn10
      have J426 :  ∀ u : va_W, CI g ad u ne nt cl os d ev cr → R g (mL_law nm) 1400 xx yy 426 [(12, .int (nI nt)), (11, .int (nI (sm nt (fun i => cntS cl (nI i) cl.length)))), (10, .int (nI (pnS cl d nt nt))), (9, .int (nI (sm nt (fun i => b1 ((LIs cl d nt).1.testBit i))))), (7, .long (dgS ne nt cl d ev cr)), (6, .int x), (5, .int (nI tm)), (4, .int (nI nt)), (3, .ref s), (1, .ref (ad 0)), (0, .ref (gb g))] [] (u ++ (sB ++ t)) Q := by
        intro u hu
        obtain ⟨fs16, hc15⟩ := CI.cell hu
        refine r_iload 3 dL_law_426 rfl ?_
        refine r_iload 2 dL_law_428 rfl ?_
        refine r_iload 7 dL_law_430 rfl ?_
        refine r_iadd dL_law_432 ?_
        refine r_top (w := .int (nI (pnS cl d nt nt + nt))) (by rw [nI_add]) ?_
        refine r_icmp_le (tgt := 438) dL_law_433 (by decide) (fun _ => ?_) (fun hc => absurd ((nI_leI (by omega) (by omega)).mpr (by omega)) hc)
        refine r_ls [2, 3, 4, 5, 6, 7, 8, 9, 10] (ls2 := [(10, .int (nI (pnS cl d nt nt))), (9, .int (nI (sm nt (fun i => b1 ((LIs cl d nt).1.testBit i))))), (7, .long (dgS ne nt cl d ev cr)), (6, .int x), (5, .int (nI tm)), (4, .int (nI nt)), (3, .ref s), (1, .ref (ad 0)), (0, .ref (gb g))]) rfl ?_
        rw [hco]
        exact K u hu
      refine r_if_ne (tgt := 426) dL_law_415 (by decide) (fun h0 => ?_) (fun h0 => ?_)
      · exact J426 _ hJ5
      · have h00 : (LIs cl d nt).2.2 = 0 := by
          have := (nI_eq (a := (sm nt (fun i => b1 ((LIs cl d nt).1.testBit i)))) (b := 0) (by omega) (by decide)).mp h0
          omega
        refine r_aload_n 9 dL_law_418 rfl ?_
        refine k_Vm (x := xx) (y := yy) (rest := []) dL_law_419 kv_L_227 (ap_smallestSets hJ5) rfl rfl (List.mem_append_left _ hc13) rfl (Nat.le_of_ble_eq_true rfl) (by decide) (by decide) ?_
        rintro u6 hJ6
        obtain ⟨fs18, hc17⟩ := CI.cell hJ6
        show R g (mL_law nm) 1400 xx yy 422 [(12, .int (nI nt)), (11, .int (nI (sm nt (fun i => cntS cl (nI i) cl.length)))), (10, .int (nI (pnS cl d nt nt))), (9, .int (nI (sm nt (fun i => b1 ((LIs cl d nt).1.testBit i))))), (7, .long (dgS ne nt cl d ev cr)), (6, .int x), (5, .int (nI tm)), (4, .int (nI nt)), (3, .ref s), (1, .ref (ad 0)), (0, .ref (gb g))] [.int (nI (LIs cl d nt).2.1)] (u6 ++ (sB ++ t)) Q
        refine r_iconst (v := (1 : Int32)) dL_law_422 (by decide) ?_
        refine r_icmp_ne (tgt := 436) dL_law_423 (by decide) (fun hc => absurd (by rw [f_one hA hn10 h00]; rfl) hc) (fun _ => ?_)
        exact J426 _ hJ6
    | succ m ih =>
      intro a ha u hu
      have ha2 : a < nt := by omega
      obtain ⟨fs20, hc19⟩ := CI.cell hu
      refine r_room (x2 := 100 * m + xx + 100) (y2 := 600 * m + yy + 600) (by omega) (by omega) ?_
      refine r_iload 0 dL_law_101 rfl ?_
      refine r_iload 7 dL_law_103 rfl ?_
      refine r_icmp_ge (tgt := 369) dL_law_105 (by decide) (fun hc => absurd hc (nI_ge ha2 (by omega))) (fun _ => ?_)
      refine r_iconst (v := (0 : Int32)) dL_law_108 (by decide) ?_
      refine r_top (w := .int (bI false)) (rfl) ?_
      refine r_istore [(13, .int (bI false)), (12, .int (nI a)), (11, .int (nI (sm a (fun i => cntS cl (nI i) cl.length)))), (10, .int (nI (pnS cl d nt a))), (9, .int (nI (sm a (fun i => b1 ((LIs cl d nt).1.testBit i))))), (7, .long (dgS ne nt cl d ev cr)), (6, .int x), (5, .int (nI tm)), (4, .int (nI nt)), (3, .ref s), (1, .ref (ad 0)), (0, .ref (gb g))] dL_law_109 (Nat.le_of_ble_eq_true rfl) rfl ?_
      refine r_aload_n 10 dL_law_111 rfl ?_
      refine r_iload 1 dL_law_112 rfl ?_
      refine r_iload 1 dL_law_114 rfl ?_
      refine r_room (x2 := (100 * m + xx + 98) + 2) (y2 := (600 * m + yy + 588) + 12) (rq rfl) (rq rfl) ?_
      refine k_Vm (x := (100 * m + xx + 98)) (y := (600 * m + yy + 588)) (rest := []) dL_law_116 kv_L_204 (ap_doContradict (a := a) (b := a) hu ha2 ha2) rfl rfl (List.mem_append_left _ hc19) rfl (Nat.le_of_ble_eq_true rfl) (by decide) (by decide) ?_
      rintro u7 hJ7
      obtain ⟨fs22, hc21⟩ := CI.cell hJ7
      show R g (mL_law nm) 1400 (100 * m + xx + 98) (600 * m + yy + 588) 119 [(13, .int (bI false)), (12, .int (nI a)), (11, .int (nI (sm a (fun i => cntS cl (nI i) cl.length)))), (10, .int (nI (pnS cl d nt a))), (9, .int (nI (sm a (fun i => b1 ((LIs cl d nt).1.testBit i))))), (7, .long (dgS ne nt cl d ev cr)), (6, .int x), (5, .int (nI tm)), (4, .int (nI nt)), (3, .ref s), (1, .ref (ad 0)), (0, .ref (gb g))] [.int (bI (conS cl d a a))] (u7 ++ (sB ++ t)) Q
      refine r_istore [(14, .int (bI (conS cl d a a))), (13, .int (bI false)), (12, .int (nI a)), (11, .int (nI (sm a (fun i => cntS cl (nI i) cl.length)))), (10, .int (nI (pnS cl d nt a))), (9, .int (nI (sm a (fun i => b1 ((LIs cl d nt).1.testBit i))))), (7, .long (dgS ne nt cl d ev cr)), (6, .int x), (5, .int (nI tm)), (4, .int (nI nt)), (3, .ref s), (1, .ref (ad 0)), (0, .ref (gb g))] dL_law_119 (Nat.le_of_ble_eq_true rfl) rfl ?_
      refine r_iconst (v := (0 : Int32)) dL_law_121 (by decide) ?_
      refine r_top (w := .int (nI 0)) (rfl) ?_
      refine r_istore [(15, .int (nI 0)), (14, .int (bI (conS cl d a a))), (13, .int (bI false)), (12, .int (nI a)), (11, .int (nI (sm a (fun i => cntS cl (nI i) cl.length)))), (10, .int (nI (pnS cl d nt a))), (9, .int (nI (sm a (fun i => b1 ((LIs cl d nt).1.testBit i))))), (7, .long (dgS ne nt cl d ev cr)), (6, .int x), (5, .int (nI tm)), (4, .int (nI nt)), (3, .ref s), (1, .ref (ad 0)), (0, .ref (gb g))] dL_law_122 (Nat.le_of_ble_eq_true rfl) rfl ?_
      have LB : ∀ m2 b, m2 + b = nt → ∀ u : va_W, CI g ad u ne nt cl os d ev cr → R g (mL_law nm) 1400 (15 * m2 + 100 * m + xx + 8) (90 * m2 + 600 * m + yy + 48) 124 [(15, .int (nI b)), (14, .int (bI (ndS cl d nt a b))), (13, .int (bI (agS cl d a b))), (12, .int (nI a)), (11, .int (nI (sm a (fun i => cntS cl (nI i) cl.length)))), (10, .int (nI (pnS cl d nt a + pnIn cl d a b))), (9, .int (nI (sm a (fun i => b1 ((LIs cl d nt).1.testBit i))))), (7, .long (dgS ne nt cl d ev cr)), (6, .int x), (5, .int (nI tm)), (4, .int (nI nt)), (3, .ref s), (1, .ref (ad 0)), (0, .ref (gb g))] [] (u ++ (sB ++ t)) Q := by
        intro m2
        induction m2 with
        | zero =>
          intro b hb u hu
          have eb : b = nt := by omega
          rw [eb]
          obtain ⟨fs24, hc23⟩ := CI.cell hu
          refine r_room (x2 := 100 * m + xx + 8) (y2 := 600 * m + yy + 48) (by omega) (by omega) ?_
          refine r_iload 0 dL_law_124 rfl ?_
          refine r_iload 10 dL_law_126 rfl ?_
          refine r_icmp_ge (tgt := 303) dL_law_128 (by decide) (fun _ => ?_) (fun hc => absurd (nI_le (Nat.le_refl _) (by omega)) hc)
          refine r_aload_n 12 dL_law_303 rfl ?_
          refine r_iload 3 dL_law_304 rfl ?_
          refine r_room (x2 := (100 * m + xx + 7) + 1) (y2 := (600 * m + yy + 42) + 6) (rq rfl) (rq rfl) ?_
          refine k_Vm (x := (100 * m + xx + 7)) (y := (600 * m + yy + 42)) (rest := []) dL_law_306 kv_L_208 (ap_isLiar (a := a) hu ha2) rfl rfl (List.mem_append_left _ hc23) rfl (Nat.le_of_ble_eq_true rfl) (by decide) (by decide) ?_
          rintro u8 hJ8
          obtain ⟨fs26, hc25⟩ := CI.cell hJ8
          show R g (mL_law nm) 1400 (100 * m + xx + 7) (600 * m + yy + 42) 309 [(15, .int (nI nt)), (14, .int (bI (ndS cl d nt a nt))), (13, .int (bI (agS cl d a nt))), (12, .int (nI a)), (11, .int (nI (sm a (fun i => cntS cl (nI i) cl.length)))), (10, .int (nI (pnS cl d nt a + pnIn cl d a nt))), (9, .int (nI (sm a (fun i => b1 ((LIs cl d nt).1.testBit i))))), (7, .long (dgS ne nt cl d ev cr)), (6, .int x), (5, .int (nI tm)), (4, .int (nI nt)), (3, .ref s), (1, .ref (ad 0)), (0, .ref (gb g))] [.int (dbF (LIs cl d nt).1 a)] (u8 ++ (sB ++ t)) Q
          have J333 :  ∀ u : va_W, CI g ad u ne nt cl os d ev cr → R g (mL_law nm) 1400 (100 * m + xx + 5) (600 * m + yy + 30) 333 [(15, .int (nI nt)), (14, .int (bI (ndS cl d nt a nt))), (13, .int (bI (agS cl d a nt))), (12, .int (nI a)), (11, .int (nI (sm a (fun i => cntS cl (nI i) cl.length)))), (10, .int (nI (pnS cl d nt a + pnIn cl d a nt))), (9, .int (nI (sm a (fun i => b1 ((LIs cl d nt).1.testBit i))))), (7, .long (dgS ne nt cl d ev cr)), (6, .int x), (5, .int (nI tm)), (4, .int (nI nt)), (3, .ref s), (1, .ref (ad 0)), (0, .ref (gb g))] [] (u ++ (sB ++ t)) Q := by
            intro u hu
            have hs1 := sm_le a (fun i => b1 ((LIs cl d nt).1.testBit i)) 1 (fun i _ => b1_le _)
            obtain ⟨fs28, hc27⟩ := CI.cell hu
            refine r_iload 6 dL_law_333 rfl ?_
            refine r_aload_n 12 dL_law_335 rfl ?_
            refine r_iload 3 dL_law_336 rfl ?_
            refine r_room (x2 := (100 * m + xx + 4) + 1) (y2 := (600 * m + yy + 24) + 6) (rq rfl) (rq rfl) ?_
            refine k_Vm (x := (100 * m + xx + 4)) (y := (600 * m + yy + 24)) (rest := [.int (nI (sm a (fun i => b1 ((LIs cl d nt).1.testBit i))))]) dL_law_338 kv_L_208 (ap_isLiar (a := a) hu ha2) rfl rfl (List.mem_append_left _ hc27) rfl (Nat.le_of_ble_eq_true rfl) (by decide) (by decide) ?_
            rintro u9 hJ9
            obtain ⟨fs30, hc29⟩ := CI.cell hJ9
            show R g (mL_law nm) 1400 (100 * m + xx + 4) (600 * m + yy + 24) 341 [(15, .int (nI nt)), (14, .int (bI (ndS cl d nt a nt))), (13, .int (bI (agS cl d a nt))), (12, .int (nI a)), (11, .int (nI (sm a (fun i => cntS cl (nI i) cl.length)))), (10, .int (nI (pnS cl d nt a + pnIn cl d a nt))), (9, .int (nI (sm a (fun i => b1 ((LIs cl d nt).1.testBit i))))), (7, .long (dgS ne nt cl d ev cr)), (6, .int x), (5, .int (nI tm)), (4, .int (nI nt)), (3, .ref s), (1, .ref (ad 0)), (0, .ref (gb g))] [.int (dbF (LIs cl d nt).1 a), .int (nI (sm a (fun i => b1 ((LIs cl d nt).1.testBit i))))] (u9 ++ (sB ++ t)) Q
            have J349 : ∀ z : Bool, z = (LIs cl d nt).1.testBit a → ∀ u : va_W, CI g ad u ne nt cl os d ev cr → R g (mL_law nm) 1400 (100 * m + xx + 4) (600 * m + yy + 24) 349 [(15, .int (nI nt)), (14, .int (bI (ndS cl d nt a nt))), (13, .int (bI (agS cl d a nt))), (12, .int (nI a)), (11, .int (nI (sm a (fun i => cntS cl (nI i) cl.length)))), (10, .int (nI (pnS cl d nt a + pnIn cl d a nt))), (9, .int (nI (sm a (fun i => b1 ((LIs cl d nt).1.testBit i))))), (7, .long (dgS ne nt cl d ev cr)), (6, .int x), (5, .int (nI tm)), (4, .int (nI nt)), (3, .ref s), (1, .ref (ad 0)), (0, .ref (gb g))] [.int (bI z), .int (nI (sm a (fun i => b1 ((LIs cl d nt).1.testBit i))))] (u ++ (sB ++ t)) Q := by
              intro z hz u hu
              obtain ⟨fs32, hc31⟩ := CI.cell hu
              refine r_iadd dL_law_349 ?_
              refine r_top (w := .int (nI (sm (a + 1) (fun i => b1 ((LIs cl d nt).1.testBit i))))) (by rw [hz, bI_b1, nI_add]; rfl) ?_
              refine r_istore [(9, .int (nI (sm (a + 1) (fun i => b1 ((LIs cl d nt).1.testBit i))))), (15, .int (nI nt)), (14, .int (bI (ndS cl d nt a nt))), (13, .int (bI (agS cl d a nt))), (12, .int (nI a)), (11, .int (nI (sm a (fun i => cntS cl (nI i) cl.length)))), (10, .int (nI (pnS cl d nt a + pnIn cl d a nt))), (7, .long (dgS ne nt cl d ev cr)), (6, .int x), (5, .int (nI tm)), (4, .int (nI nt)), (3, .ref s), (1, .ref (ad 0)), (0, .ref (gb g))] dL_law_350 (Nat.le_of_ble_eq_true rfl) rfl ?_
              refine r_iload 5 dL_law_352 rfl ?_
              refine r_aload_n 12 dL_law_354 rfl ?_
              refine r_iload 4 dL_law_355 rfl ?_
              refine r_room (x2 := (100 * m + xx + 3) + 1) (y2 := (600 * m + yy + 18) + 6) (rq rfl) (rq rfl) ?_
              refine k_Vm (x := (100 * m + xx + 3)) (y := (600 * m + yy + 18)) (rest := [.int (nI (sm a (fun i => cntS cl (nI i) cl.length)))]) dL_law_357 kv_L_216 (ap_claimsOf (a := a) hu ha2) rfl rfl (List.mem_append_left _ hc31) rfl (Nat.le_of_ble_eq_true rfl) (by decide) (by decide) ?_
              rintro u10 hJ10
              obtain ⟨fs34, hc33⟩ := CI.cell hJ10
              show R g (mL_law nm) 1400 (100 * m + xx + 3) (600 * m + yy + 18) 360 [(9, .int (nI (sm (a + 1) (fun i => b1 ((LIs cl d nt).1.testBit i))))), (15, .int (nI nt)), (14, .int (bI (ndS cl d nt a nt))), (13, .int (bI (agS cl d a nt))), (12, .int (nI a)), (11, .int (nI (sm a (fun i => cntS cl (nI i) cl.length)))), (10, .int (nI (pnS cl d nt a + pnIn cl d a nt))), (7, .long (dgS ne nt cl d ev cr)), (6, .int x), (5, .int (nI tm)), (4, .int (nI nt)), (3, .ref s), (1, .ref (ad 0)), (0, .ref (gb g))] [.int (nI (cntS cl (nI a) cl.length)), .int (nI (sm a (fun i => cntS cl (nI i) cl.length)))] (u10 ++ (sB ++ t)) Q
              refine r_iadd dL_law_360 ?_
              refine r_top (w := .int (nI (sm (a + 1) (fun i => cntS cl (nI i) cl.length)))) (by rw [nI_add]; rfl) ?_
              refine r_istore [(11, .int (nI (sm (a + 1) (fun i => cntS cl (nI i) cl.length)))), (9, .int (nI (sm (a + 1) (fun i => b1 ((LIs cl d nt).1.testBit i))))), (15, .int (nI nt)), (14, .int (bI (ndS cl d nt a nt))), (13, .int (bI (agS cl d a nt))), (12, .int (nI a)), (10, .int (nI (pnS cl d nt a + pnIn cl d a nt))), (7, .long (dgS ne nt cl d ev cr)), (6, .int x), (5, .int (nI tm)), (4, .int (nI nt)), (3, .ref s), (1, .ref (ad 0)), (0, .ref (gb g))] dL_law_361 (Nat.le_of_ble_eq_true rfl) rfl ?_
              refine r_iinc (v2 := (nI (a + 1))) 5 [(12, .int (nI (a + 1))), (11, .int (nI (sm (a + 1) (fun i => cntS cl (nI i) cl.length)))), (9, .int (nI (sm (a + 1) (fun i => b1 ((LIs cl d nt).1.testBit i))))), (15, .int (nI nt)), (14, .int (bI (ndS cl d nt a nt))), (13, .int (bI (agS cl d a nt))), (10, .int (nI (pnS cl d nt a + pnIn cl d a nt))), (7, .long (dgS ne nt cl d ev cr)), (6, .int x), (5, .int (nI tm)), (4, .int (nI nt)), (3, .ref s), (1, .ref (ad 0)), (0, .ref (gb g))] dL_law_363 rfl (nI_1 a) (Nat.le_of_ble_eq_true rfl) rfl ?_
              refine r_goto (tgt := 101) dL_law_366 (by decide) ?_
              refine r_ls [0, 1, 6, 2, 7, 8, 9, 10, 11, 12, 13] (ls2 := [(12, .int (nI (a + 1))), (11, .int (nI (sm (a + 1) (fun i => cntS cl (nI i) cl.length)))), (10, .int (nI (pnS cl d nt a + pnIn cl d a nt))), (9, .int (nI (sm (a + 1) (fun i => b1 ((LIs cl d nt).1.testBit i))))), (7, .long (dgS ne nt cl d ev cr)), (6, .int x), (5, .int (nI tm)), (4, .int (nI nt)), (3, .ref s), (1, .ref (ad 0)), (0, .ref (gb g))]) rfl ?_
              refine r_room (x2 := 100 * m + xx) (y2 := 600 * m + yy) (by omega) (by omega) ?_
              exact ih (a + 1) (by omega) _ hJ10
            refine r_if_eq (tgt := 348) dL_law_341 (by decide) (fun h1 => ?_) (fun h1 => ?_)
            · refine r_iconst (v := (0 : Int32)) dL_law_348 (by decide) ?_
              refine r_top (w := .int (bI false)) (rfl) ?_
              exact J349 false (Eq.symm (dbF_0.mp h1)) _ hJ9
            · refine r_iconst (v := (1 : Int32)) dL_law_344 (by decide) ?_
              refine r_goto (tgt := 349) dL_law_345 (by decide) ?_
              refine r_top (w := .int (bI true)) (rfl) ?_
              exact J349 true (Eq.symm (by cases h9 : (LIs cl d nt).1.testBit a with | false => rw [dbF_f h9] at h1; exact absurd rfl h1 | true => rfl)) _ hJ9
          refine r_if_eq (tgt := 333) dL_law_309 (by decide) (fun h1 => ?_) (fun h1 => ?_)
          · refine r_room (x2 := 100 * m + xx + 5) (y2 := 600 * m + yy + 30) (by omega) (by omega) ?_
            exact J333 _ hJ8
          · have hl : (LIs cl d nt).1.testBit a = true := by cases h9 : (LIs cl d nt).1.testBit a with | false => rw [dbF_f h9] at h1; exact absurd rfl h1 | true => rfl
            obtain ⟨-, hda⟩ := f_bel hA hn10 hl
            have hag : agS cl d a nt = true := by
              rcases f_need hA hn10 hl with h | ⟨b, hb1, -, hb2, -⟩
              · exact ag_in nt ha2 h
              · exact ag_in nt hb1 hb2
            have hnd : ndS cl d nt a nt = true := by
              rcases f_need hA hn10 hl with h | ⟨b, hb1, hb0, hb2, hb3⟩
              · exact nd_0 h nt
              · exact nd_in hb0 hb2 hb3 nt hb1
            refine r_aload_n 12 dL_law_312 rfl ?_
            refine r_iload 3 dL_law_313 rfl ?_
            refine r_room (x2 := (100 * m + xx + 6) + 1) (y2 := (600 * m + yy + 36) + 6) (rq rfl) (rq rfl) ?_
            refine k_Vm (x := (100 * m + xx + 6)) (y := (600 * m + yy + 36)) (rest := []) dL_law_315 kv_L_214 (ap_isDoubted (a := a) hJ8 ha2) rfl rfl (List.mem_append_left _ hc25) rfl (Nat.le_of_ble_eq_true rfl) (by decide) (by decide) ?_
            rintro u11 hJ11
            obtain ⟨fs36, hc35⟩ := CI.cell hJ11
            show R g (mL_law nm) 1400 (100 * m + xx + 6) (600 * m + yy + 36) 318 [(15, .int (nI nt)), (14, .int (bI (ndS cl d nt a nt))), (13, .int (bI (agS cl d a nt))), (12, .int (nI a)), (11, .int (nI (sm a (fun i => cntS cl (nI i) cl.length)))), (10, .int (nI (pnS cl d nt a + pnIn cl d a nt))), (9, .int (nI (sm a (fun i => b1 ((LIs cl d nt).1.testBit i))))), (7, .long (dgS ne nt cl d ev cr)), (6, .int x), (5, .int (nI tm)), (4, .int (nI nt)), (3, .ref s), (1, .ref (ad 0)), (0, .ref (gb g))] [.int (dbF d a)] (u11 ++ (sB ++ t)) Q
            refine r_if_ne (tgt := 331) dL_law_318 (by decide) (fun hc => absurd (dbF_f hda) hc) (fun _ => ?_)
            refine r_iload 2 dL_law_321 rfl ?_
            refine r_if_eq (tgt := 331) dL_law_323 (by decide) (fun hc => absurd hc (by rw [hag]; decide)) (fun _ => ?_)
            refine r_iload 1 dL_law_326 rfl ?_
            refine r_if_ne (tgt := 333) dL_law_328 (by decide) (fun _ => ?_) (fun hc => absurd hc (by rw [hnd]; decide))
            refine r_room (x2 := 100 * m + xx + 5) (y2 := 600 * m + yy + 30) (by omega) (by omega) ?_
            exact J333 _ hJ11
        | succ m2 ih2 =>
          intro b hb u hu
          have hb2 : b < nt := by omega
          have hp1 := pnS_le cl d nt a
          have hp2 := pnIn_le cl d a b
          have hp3 : a * nt ≤ 6 * 6 := Nat.mul_le_mul (by omega) n4
          obtain ⟨fs38, hc37⟩ := CI.cell hu
          refine r_room (x2 := 15 * m2 + 100 * m + xx + 8 + 15) (y2 := 90 * m2 + 600 * m + yy + 48 + 90) (by omega) (by omega) ?_
          refine r_iload 0 dL_law_124 rfl ?_
          refine r_iload 10 dL_law_126 rfl ?_
          refine r_icmp_ge (tgt := 303) dL_law_128 (by decide) (fun hc => absurd hc (nI_ge hb2 (by omega))) (fun _ => ?_)
          refine r_aload_n 12 dL_law_131 rfl ?_
          refine r_iload 3 dL_law_132 rfl ?_
          refine r_iload 0 dL_law_134 rfl ?_
          refine r_room (x2 := (15 * m2 + 100 * m + xx + 8 + 13) + 2) (y2 := (90 * m2 + 600 * m + yy + 48 + 78) + 12) (rq rfl) (rq rfl) ?_
          refine k_Vm (x := (15 * m2 + 100 * m + xx + 8 + 13)) (y := (90 * m2 + 600 * m + yy + 48 + 78)) (rest := []) dL_law_136 kv_L_204 (ap_doContradict (a := a) (b := b) hu ha2 hb2) rfl rfl (List.mem_append_left _ hc37) rfl (Nat.le_of_ble_eq_true rfl) (by decide) (by decide) ?_
          rintro u12 hJ12
          obtain ⟨fs40, hc39⟩ := CI.cell hJ12
          show R g (mL_law nm) 1400 (15 * m2 + 100 * m + xx + 8 + 13) (90 * m2 + 600 * m + yy + 48 + 78) 139 [(15, .int (nI b)), (14, .int (bI (ndS cl d nt a b))), (13, .int (bI (agS cl d a b))), (12, .int (nI a)), (11, .int (nI (sm a (fun i => cntS cl (nI i) cl.length)))), (10, .int (nI (pnS cl d nt a + pnIn cl d a b))), (9, .int (nI (sm a (fun i => b1 ((LIs cl d nt).1.testBit i))))), (7, .long (dgS ne nt cl d ev cr)), (6, .int x), (5, .int (nI tm)), (4, .int (nI nt)), (3, .ref s), (1, .ref (ad 0)), (0, .ref (gb g))] [.int (bI (conS cl d a b))] (u12 ++ (sB ++ t)) Q
          refine r_istore [(16, .int (bI (conS cl d a b))), (15, .int (nI b)), (14, .int (bI (ndS cl d nt a b))), (13, .int (bI (agS cl d a b))), (12, .int (nI a)), (11, .int (nI (sm a (fun i => cntS cl (nI i) cl.length)))), (10, .int (nI (pnS cl d nt a + pnIn cl d a b))), (9, .int (nI (sm a (fun i => b1 ((LIs cl d nt).1.testBit i))))), (7, .long (dgS ne nt cl d ev cr)), (6, .int x), (5, .int (nI tm)), (4, .int (nI nt)), (3, .ref s), (1, .ref (ad 0)), (0, .ref (gb g))] dL_law_139 (Nat.le_of_ble_eq_true rfl) rfl ?_
          refine r_iload 3 dL_law_141 rfl ?_
          refine r_iload 0 dL_law_143 rfl ?_
          refine r_ior dL_law_145 ?_
          refine r_top (w := .int (bI (agS cl d a (b + 1)))) (by rw [bI_or]; rfl) ?_
          refine r_istore [(13, .int (bI (agS cl d a (b + 1)))), (16, .int (bI (conS cl d a b))), (15, .int (nI b)), (14, .int (bI (ndS cl d nt a b))), (12, .int (nI a)), (11, .int (nI (sm a (fun i => cntS cl (nI i) cl.length)))), (10, .int (nI (pnS cl d nt a + pnIn cl d a b))), (9, .int (nI (sm a (fun i => b1 ((LIs cl d nt).1.testBit i))))), (7, .long (dgS ne nt cl d ev cr)), (6, .int x), (5, .int (nI tm)), (4, .int (nI nt)), (3, .ref s), (1, .ref (ad 0)), (0, .ref (gb g))] dL_law_146 (Nat.le_of_ble_eq_true rfl) rfl ?_
          refine r_iload 3 dL_law_148 rfl ?_
          refine r_iload 1 dL_law_150 rfl ?_
          have J294 : ∀ z : Bool, z = (decide (a < b) && (conS cl d a b)) → ∀ u : va_W, CI g ad u ne nt cl os d ev cr → R g (mL_law nm) 1400 (15 * m2 + 100 * m + xx + 8 + 0) (90 * m2 + 600 * m + yy + 48 + 0) 294 [(14, .int (bI (ndS cl d nt a (b + 1)))), (13, .int (bI (agS cl d a (b + 1)))), (16, .int (bI (conS cl d a b))), (15, .int (nI b)), (12, .int (nI a)), (11, .int (nI (sm a (fun i => cntS cl (nI i) cl.length)))), (10, .int (nI (pnS cl d nt a + pnIn cl d a b))), (9, .int (nI (sm a (fun i => b1 ((LIs cl d nt).1.testBit i))))), (7, .long (dgS ne nt cl d ev cr)), (6, .int x), (5, .int (nI tm)), (4, .int (nI nt)), (3, .ref s), (1, .ref (ad 0)), (0, .ref (gb g))] [.int (bI z), .int (nI (pnS cl d nt a + pnIn cl d a b))] (u ++ (sB ++ t)) Q := by
            intro z hz u hu
            refine r_iadd dL_law_294 ?_
            refine r_top (w := .int (nI (pnS cl d nt a + pnIn cl d a (b + 1)))) (by rw [hz, bI_b1, nI_add, Nat.add_assoc]; rfl) ?_
            refine r_istore [(10, .int (nI (pnS cl d nt a + pnIn cl d a (b + 1)))), (14, .int (bI (ndS cl d nt a (b + 1)))), (13, .int (bI (agS cl d a (b + 1)))), (16, .int (bI (conS cl d a b))), (15, .int (nI b)), (12, .int (nI a)), (11, .int (nI (sm a (fun i => cntS cl (nI i) cl.length)))), (9, .int (nI (sm a (fun i => b1 ((LIs cl d nt).1.testBit i))))), (7, .long (dgS ne nt cl d ev cr)), (6, .int x), (5, .int (nI tm)), (4, .int (nI nt)), (3, .ref s), (1, .ref (ad 0)), (0, .ref (gb g))] dL_law_295 (Nat.le_of_ble_eq_true rfl) rfl ?_
            refine r_iinc (v2 := (nI (b + 1))) 4 [(15, .int (nI (b + 1))), (10, .int (nI (pnS cl d nt a + pnIn cl d a (b + 1)))), (14, .int (bI (ndS cl d nt a (b + 1)))), (13, .int (bI (agS cl d a (b + 1)))), (16, .int (bI (conS cl d a b))), (12, .int (nI a)), (11, .int (nI (sm a (fun i => cntS cl (nI i) cl.length)))), (9, .int (nI (sm a (fun i => b1 ((LIs cl d nt).1.testBit i))))), (7, .long (dgS ne nt cl d ev cr)), (6, .int x), (5, .int (nI tm)), (4, .int (nI nt)), (3, .ref s), (1, .ref (ad 0)), (0, .ref (gb g))] dL_law_297 rfl (nI_1 b) (Nat.le_of_ble_eq_true rfl) rfl ?_
            refine r_goto (tgt := 124) dL_law_300 (by decide) ?_
            refine r_ls [0, 2, 3, 5, 6, 1, 7, 8, 9, 10, 11, 12, 13, 14] (ls2 := [(15, .int (nI (b + 1))), (14, .int (bI (ndS cl d nt a (b + 1)))), (13, .int (bI (agS cl d a (b + 1)))), (12, .int (nI a)), (11, .int (nI (sm a (fun i => cntS cl (nI i) cl.length)))), (10, .int (nI (pnS cl d nt a + pnIn cl d a (b + 1)))), (9, .int (nI (sm a (fun i => b1 ((LIs cl d nt).1.testBit i))))), (7, .long (dgS ne nt cl d ev cr)), (6, .int x), (5, .int (nI tm)), (4, .int (nI nt)), (3, .ref s), (1, .ref (ad 0)), (0, .ref (gb g))]) rfl ?_
            refine r_room (x2 := 15 * m2 + 100 * m + xx + 8) (y2 := 90 * m2 + 600 * m + yy + 48) (by omega) (by omega) ?_
            exact ih2 (b + 1) (by omega) u hu
          have J275 :  ∀ u : va_W, CI g ad u ne nt cl os d ev cr → R g (mL_law nm) 1400 (15 * m2 + 100 * m + xx + 8 + 0) (90 * m2 + 600 * m + yy + 48 + 0) 275 [(14, .int (bI (ndS cl d nt a (b + 1)))), (13, .int (bI (agS cl d a (b + 1)))), (16, .int (bI (conS cl d a b))), (15, .int (nI b)), (12, .int (nI a)), (11, .int (nI (sm a (fun i => cntS cl (nI i) cl.length)))), (10, .int (nI (pnS cl d nt a + pnIn cl d a b))), (9, .int (nI (sm a (fun i => b1 ((LIs cl d nt).1.testBit i))))), (7, .long (dgS ne nt cl d ev cr)), (6, .int x), (5, .int (nI tm)), (4, .int (nI nt)), (3, .ref s), (1, .ref (ad 0)), (0, .ref (gb g))] [] (u ++ (sB ++ t)) Q := by
            intro u hu
            refine r_iload 6 dL_law_275 rfl ?_
            refine r_iload 2 dL_law_277 rfl ?_
            refine r_if_eq (tgt := 293) dL_law_279 (by decide) (fun h1 => ?_) (fun h1 => ?_)
            · refine r_iconst (v := (0 : Int32)) dL_law_293 (by decide) ?_
              refine r_top (w := .int (bI false)) (rfl) ?_
              exact J294 false (by rw [b_f h1, Bool.and_false]) u hu
            · refine r_iload 4 dL_law_282 rfl ?_
              refine r_iload 3 dL_law_284 rfl ?_
              refine r_icmp_ge (tgt := 293) dL_law_286 (by decide) (fun h2 => ?_) (fun h2 => ?_)
              · refine r_iconst (v := (0 : Int32)) dL_law_293 (by decide) ?_
                refine r_top (w := .int (bI false)) (rfl) ?_
                exact J294 false (by rw [decide_eq_false (fun h => by have := (nI_leI (by omega) (by omega)).mp h2; omega), Bool.false_and]) u hu
              · refine r_iconst (v := (1 : Int32)) dL_law_289 (by decide) ?_
                refine r_goto (tgt := 294) dL_law_290 (by decide) ?_
                refine r_top (w := .int (bI true)) (rfl) ?_
                exact J294 true (by rw [b_t h1, decide_eq_true (by have : ¬ b ≤ a := fun h => h2 ((nI_leI (by omega) (by omega)).mpr h); omega)]; rfl) u hu
          have J231 :  ∀ u : va_W, CI g ad u ne nt cl os d ev cr → R g (mL_law nm) 1400 (15 * m2 + 100 * m + xx + 8 + 6) (90 * m2 + 600 * m + yy + 48 + 36) 231 [(14, .int (bI (ndS cl d nt a (b + 1)))), (13, .int (bI (agS cl d a (b + 1)))), (16, .int (bI (conS cl d a b))), (15, .int (nI b)), (12, .int (nI a)), (11, .int (nI (sm a (fun i => cntS cl (nI i) cl.length)))), (10, .int (nI (pnS cl d nt a + pnIn cl d a b))), (9, .int (nI (sm a (fun i => b1 ((LIs cl d nt).1.testBit i))))), (7, .long (dgS ne nt cl d ev cr)), (6, .int x), (5, .int (nI tm)), (4, .int (nI nt)), (3, .ref s), (1, .ref (ad 0)), (0, .ref (gb g))] [] (u ++ (sB ++ t)) Q := by
            intro u hu
            obtain ⟨fs42, hc41⟩ := CI.cell hu
            refine r_aload_n 13 dL_law_231 rfl ?_
            refine r_iload 4 dL_law_232 rfl ?_
            refine r_iload 3 dL_law_234 rfl ?_
            refine r_room (x2 := (15 * m2 + 100 * m + xx + 8 + 4) + 2) (y2 := (90 * m2 + 600 * m + yy + 48 + 24) + 12) (rq rfl) (rq rfl) ?_
            refine k_Vm (x := (15 * m2 + 100 * m + xx + 8 + 4)) (y := (90 * m2 + 600 * m + yy + 48 + 24)) (rest := []) dL_law_236 kv_L_211 (ap_contraryPairs (a := a) (b := b) hu ha2 hb2) rfl rfl (List.mem_append_left _ hc41) rfl (Nat.le_of_ble_eq_true rfl) (by decide) (by decide) ?_
            rintro u13 hJ13
            obtain ⟨fs44, hc43⟩ := CI.cell hJ13
            show R g (mL_law nm) 1400 (15 * m2 + 100 * m + xx + 8 + 4) (90 * m2 + 600 * m + yy + 48 + 24) 239 [(14, .int (bI (ndS cl d nt a (b + 1)))), (13, .int (bI (agS cl d a (b + 1)))), (16, .int (bI (conS cl d a b))), (15, .int (nI b)), (12, .int (nI a)), (11, .int (nI (sm a (fun i => cntS cl (nI i) cl.length)))), (10, .int (nI (pnS cl d nt a + pnIn cl d a b))), (9, .int (nI (sm a (fun i => b1 ((LIs cl d nt).1.testBit i))))), (7, .long (dgS ne nt cl d ev cr)), (6, .int x), (5, .int (nI tm)), (4, .int (nI nt)), (3, .ref s), (1, .ref (ad 0)), (0, .ref (gb g))] [.int (nI (prsS cl (nI a) (nI b) cl.length))] (u13 ++ (sB ++ t)) Q
            refine r_aload_n 13 dL_law_239 rfl ?_
            refine r_iload 3 dL_law_240 rfl ?_
            refine r_iload 4 dL_law_242 rfl ?_
            refine r_room (x2 := (15 * m2 + 100 * m + xx + 8 + 2) + 2) (y2 := (90 * m2 + 600 * m + yy + 48 + 12) + 12) (rq rfl) (rq rfl) ?_
            refine k_Vm (x := (15 * m2 + 100 * m + xx + 8 + 2)) (y := (90 * m2 + 600 * m + yy + 48 + 12)) (rest := [.int (nI (prsS cl (nI a) (nI b) cl.length))]) dL_law_244 kv_L_211 (ap_contraryPairs (a := b) (b := a) hJ13 hb2 ha2) rfl rfl (List.mem_append_left _ hc43) rfl (Nat.le_of_ble_eq_true rfl) (by decide) (by decide) ?_
            rintro u14 hJ14
            obtain ⟨fs46, hc45⟩ := CI.cell hJ14
            show R g (mL_law nm) 1400 (15 * m2 + 100 * m + xx + 8 + 2) (90 * m2 + 600 * m + yy + 48 + 12) 247 [(14, .int (bI (ndS cl d nt a (b + 1)))), (13, .int (bI (agS cl d a (b + 1)))), (16, .int (bI (conS cl d a b))), (15, .int (nI b)), (12, .int (nI a)), (11, .int (nI (sm a (fun i => cntS cl (nI i) cl.length)))), (10, .int (nI (pnS cl d nt a + pnIn cl d a b))), (9, .int (nI (sm a (fun i => b1 ((LIs cl d nt).1.testBit i))))), (7, .long (dgS ne nt cl d ev cr)), (6, .int x), (5, .int (nI tm)), (4, .int (nI nt)), (3, .ref s), (1, .ref (ad 0)), (0, .ref (gb g))] [.int (nI (prsS cl (nI b) (nI a) cl.length)), .int (nI (prsS cl (nI a) (nI b) cl.length))] (u14 ++ (sB ++ t)) Q
            refine r_icmp_ne (tgt := 273) dL_law_247 (by decide) (fun hc => absurd (by rw [prsS_sym]) hc) (fun _ => ?_)
            refine r_iload 2 dL_law_250 rfl ?_
            refine r_if_eq (tgt := 275) dL_law_252 (by decide) (fun h1 => ?_) (fun h1 => ?_)
            · refine r_room (x2 := 15 * m2 + 100 * m + xx + 8 + 0) (y2 := 90 * m2 + 600 * m + yy + 48 + 0) (by omega) (by omega) ?_
              exact J275 _ hJ14
            · refine r_aload_n 13 dL_law_255 rfl ?_
              refine r_iload 4 dL_law_256 rfl ?_
              refine r_room (x2 := (15 * m2 + 100 * m + xx + 8 + 1) + 1) (y2 := (90 * m2 + 600 * m + yy + 48 + 6) + 6) (rq rfl) (rq rfl) ?_
              refine k_Vm (x := (15 * m2 + 100 * m + xx + 8 + 1)) (y := (90 * m2 + 600 * m + yy + 48 + 6)) (rest := []) dL_law_258 kv_L_208 (ap_isLiar (a := a) hJ14 ha2) rfl rfl (List.mem_append_left _ hc45) rfl (Nat.le_of_ble_eq_true rfl) (by decide) (by decide) ?_
              rintro u15 hJ15
              obtain ⟨fs48, hc47⟩ := CI.cell hJ15
              show R g (mL_law nm) 1400 (15 * m2 + 100 * m + xx + 8 + 1) (90 * m2 + 600 * m + yy + 48 + 6) 261 [(14, .int (bI (ndS cl d nt a (b + 1)))), (13, .int (bI (agS cl d a (b + 1)))), (16, .int (bI (conS cl d a b))), (15, .int (nI b)), (12, .int (nI a)), (11, .int (nI (sm a (fun i => cntS cl (nI i) cl.length)))), (10, .int (nI (pnS cl d nt a + pnIn cl d a b))), (9, .int (nI (sm a (fun i => b1 ((LIs cl d nt).1.testBit i))))), (7, .long (dgS ne nt cl d ev cr)), (6, .int x), (5, .int (nI tm)), (4, .int (nI nt)), (3, .ref s), (1, .ref (ad 0)), (0, .ref (gb g))] [.int (dbF (LIs cl d nt).1 a)] (u15 ++ (sB ++ t)) Q
              refine r_if_ne (tgt := 275) dL_law_261 (by decide) (fun h2 => ?_) (fun h2 => ?_)
              · refine r_room (x2 := 15 * m2 + 100 * m + xx + 8 + 0) (y2 := 90 * m2 + 600 * m + yy + 48 + 0) (by omega) (by omega) ?_
                exact J275 _ hJ15
              · refine r_aload_n 13 dL_law_264 rfl ?_
                refine r_iload 3 dL_law_265 rfl ?_
                refine r_room (x2 := (15 * m2 + 100 * m + xx + 8 + 0) + 1) (y2 := (90 * m2 + 600 * m + yy + 48 + 0) + 6) (rq rfl) (rq rfl) ?_
                refine k_Vm (x := (15 * m2 + 100 * m + xx + 8 + 0)) (y := (90 * m2 + 600 * m + yy + 48 + 0)) (rest := []) dL_law_267 kv_L_208 (ap_isLiar (a := b) hJ15 hb2) rfl rfl (List.mem_append_left _ hc47) rfl (Nat.le_of_ble_eq_true rfl) (by decide) (by decide) ?_
                rintro u16 hJ16
                obtain ⟨fs50, hc49⟩ := CI.cell hJ16
                show R g (mL_law nm) 1400 (15 * m2 + 100 * m + xx + 8 + 0) (90 * m2 + 600 * m + yy + 48 + 0) 270 [(14, .int (bI (ndS cl d nt a (b + 1)))), (13, .int (bI (agS cl d a (b + 1)))), (16, .int (bI (conS cl d a b))), (15, .int (nI b)), (12, .int (nI a)), (11, .int (nI (sm a (fun i => cntS cl (nI i) cl.length)))), (10, .int (nI (pnS cl d nt a + pnIn cl d a b))), (9, .int (nI (sm a (fun i => b1 ((LIs cl d nt).1.testBit i))))), (7, .long (dgS ne nt cl d ev cr)), (6, .int x), (5, .int (nI tm)), (4, .int (nI nt)), (3, .ref s), (1, .ref (ad 0)), (0, .ref (gb g))] [.int (dbF (LIs cl d nt).1 b)] (u16 ++ (sB ++ t)) Q
                refine r_if_ne (tgt := 275) dL_law_270 (by decide) (fun _ => ?_) (fun hc => absurd hc (by rcases f_truth hA hn10 ha2 hb2 (b_t h1) with h | h <;> first | (rw [dbF_t h] at h2; exact absurd h2 (by decide)) | (rw [dbF_t h]; decide)))
                exact J275 _ hJ16
          have J228 : ∀ z : Bool, z = (conS cl d a b) → ∀ u : va_W, CI g ad u ne nt cl os d ev cr → R g (mL_law nm) 1400 (15 * m2 + 100 * m + xx + 8 + 6) (90 * m2 + 600 * m + yy + 48 + 36) 228 [(14, .int (bI (ndS cl d nt a (b + 1)))), (13, .int (bI (agS cl d a (b + 1)))), (16, .int (bI (conS cl d a b))), (15, .int (nI b)), (12, .int (nI a)), (11, .int (nI (sm a (fun i => cntS cl (nI i) cl.length)))), (10, .int (nI (pnS cl d nt a + pnIn cl d a b))), (9, .int (nI (sm a (fun i => b1 ((LIs cl d nt).1.testBit i))))), (7, .long (dgS ne nt cl d ev cr)), (6, .int x), (5, .int (nI tm)), (4, .int (nI nt)), (3, .ref s), (1, .ref (ad 0)), (0, .ref (gb g))] [.int (bI z), .int (bI (conS cl d a b))] (u ++ (sB ++ t)) Q := by
            intro z hz u hu
            refine r_icmp_ne (tgt := 273) dL_law_228 (by decide) (fun hc => absurd (by rw [hz]) hc) (fun _ => ?_)
            exact J231 u hu
          have J176 : ∀ z : Bool, z = ((conS cl d a b) && !decide (b = a) && !(LIs cl d nt).1.testBit b) → ∀ u : va_W, CI g ad u ne nt cl os d ev cr → R g (mL_law nm) 1400 (15 * m2 + 100 * m + xx + 8 + 12) (90 * m2 + 600 * m + yy + 48 + 72) 176 [(13, .int (bI (agS cl d a (b + 1)))), (16, .int (bI (conS cl d a b))), (15, .int (nI b)), (14, .int (bI (ndS cl d nt a b))), (12, .int (nI a)), (11, .int (nI (sm a (fun i => cntS cl (nI i) cl.length)))), (10, .int (nI (pnS cl d nt a + pnIn cl d a b))), (9, .int (nI (sm a (fun i => b1 ((LIs cl d nt).1.testBit i))))), (7, .long (dgS ne nt cl d ev cr)), (6, .int x), (5, .int (nI tm)), (4, .int (nI nt)), (3, .ref s), (1, .ref (ad 0)), (0, .ref (gb g))] [.int (bI z), .int (bI (ndS cl d nt a b))] (u ++ (sB ++ t)) Q := by
            intro z hz u hu
            obtain ⟨fs52, hc51⟩ := CI.cell hu
            refine r_ior dL_law_176 ?_
            refine r_top (w := .int (bI (ndS cl d nt a (b + 1)))) (by rw [bI_or, hz]; rfl) ?_
            refine r_istore [(14, .int (bI (ndS cl d nt a (b + 1)))), (13, .int (bI (agS cl d a (b + 1)))), (16, .int (bI (conS cl d a b))), (15, .int (nI b)), (12, .int (nI a)), (11, .int (nI (sm a (fun i => cntS cl (nI i) cl.length)))), (10, .int (nI (pnS cl d nt a + pnIn cl d a b))), (9, .int (nI (sm a (fun i => b1 ((LIs cl d nt).1.testBit i))))), (7, .long (dgS ne nt cl d ev cr)), (6, .int x), (5, .int (nI tm)), (4, .int (nI nt)), (3, .ref s), (1, .ref (ad 0)), (0, .ref (gb g))] dL_law_177 (Nat.le_of_ble_eq_true rfl) rfl ?_
            refine r_iload 2 dL_law_179 rfl ?_
            refine r_aload_n 13 dL_law_181 rfl ?_
            refine r_iload 3 dL_law_182 rfl ?_
            refine r_iload 4 dL_law_184 rfl ?_
            refine r_ls [0, 1, 2, 3, 4, 5, 6, 7, 8, 9, 10, 11, 12, 13, 14] (ls2 := [(14, .int (bI (ndS cl d nt a (b + 1)))), (13, .int (bI (agS cl d a (b + 1)))), (16, .int (bI (conS cl d a b))), (15, .int (nI b)), (12, .int (nI a)), (11, .int (nI (sm a (fun i => cntS cl (nI i) cl.length)))), (10, .int (nI (pnS cl d nt a + pnIn cl d a b))), (9, .int (nI (sm a (fun i => b1 ((LIs cl d nt).1.testBit i))))), (7, .long (dgS ne nt cl d ev cr)), (6, .int x), (5, .int (nI tm)), (4, .int (nI nt)), (3, .ref s), (1, .ref (ad 0)), (0, .ref (gb g))]) rfl ?_
            refine r_room (x2 := (15 * m2 + 100 * m + xx + 8 + 10) + 2) (y2 := (90 * m2 + 600 * m + yy + 48 + 60) + 12) (rq rfl) (rq rfl) ?_
            refine k_Vm (x := (15 * m2 + 100 * m + xx + 8 + 10)) (y := (90 * m2 + 600 * m + yy + 48 + 60)) (rest := [.int (bI (conS cl d a b))]) dL_law_186 kv_L_204 (ap_doContradict (a := b) (b := a) hu hb2 ha2) rfl rfl (List.mem_append_left _ hc51) rfl (Nat.le_of_ble_eq_true rfl) (by decide) (by decide) ?_
            rintro u17 hJ17
            obtain ⟨fs54, hc53⟩ := CI.cell hJ17
            show R g (mL_law nm) 1400 (15 * m2 + 100 * m + xx + 8 + 10) (90 * m2 + 600 * m + yy + 48 + 60) 189 [(14, .int (bI (ndS cl d nt a (b + 1)))), (13, .int (bI (agS cl d a (b + 1)))), (16, .int (bI (conS cl d a b))), (15, .int (nI b)), (12, .int (nI a)), (11, .int (nI (sm a (fun i => cntS cl (nI i) cl.length)))), (10, .int (nI (pnS cl d nt a + pnIn cl d a b))), (9, .int (nI (sm a (fun i => b1 ((LIs cl d nt).1.testBit i))))), (7, .long (dgS ne nt cl d ev cr)), (6, .int x), (5, .int (nI tm)), (4, .int (nI nt)), (3, .ref s), (1, .ref (ad 0)), (0, .ref (gb g))] [.int (bI (conS cl d b a)), .int (bI (conS cl d a b))] (u17 ++ (sB ++ t)) Q
            refine r_icmp_ne (tgt := 273) dL_law_189 (by decide) (fun hc => absurd (congrArg bI (conS_sym cl d a b)) hc) (fun _ => ?_)
            refine r_iload 2 dL_law_192 rfl ?_
            refine r_aload_n 13 dL_law_194 rfl ?_
            refine r_iload 4 dL_law_195 rfl ?_
            refine r_iload 3 dL_law_197 rfl ?_
            refine r_room (x2 := (15 * m2 + 100 * m + xx + 8 + 8) + 2) (y2 := (90 * m2 + 600 * m + yy + 48 + 48) + 12) (rq rfl) (rq rfl) ?_
            refine k_Vm (x := (15 * m2 + 100 * m + xx + 8 + 8)) (y := (90 * m2 + 600 * m + yy + 48 + 48)) (rest := [.int (bI (conS cl d a b))]) dL_law_199 kv_L_211 (ap_contraryPairs (a := a) (b := b) hJ17 ha2 hb2) rfl rfl (List.mem_append_left _ hc53) rfl (Nat.le_of_ble_eq_true rfl) (by decide) (by decide) ?_
            rintro u18 hJ18
            obtain ⟨fs56, hc55⟩ := CI.cell hJ18
            show R g (mL_law nm) 1400 (15 * m2 + 100 * m + xx + 8 + 8) (90 * m2 + 600 * m + yy + 48 + 48) 202 [(14, .int (bI (ndS cl d nt a (b + 1)))), (13, .int (bI (agS cl d a (b + 1)))), (16, .int (bI (conS cl d a b))), (15, .int (nI b)), (12, .int (nI a)), (11, .int (nI (sm a (fun i => cntS cl (nI i) cl.length)))), (10, .int (nI (pnS cl d nt a + pnIn cl d a b))), (9, .int (nI (sm a (fun i => b1 ((LIs cl d nt).1.testBit i))))), (7, .long (dgS ne nt cl d ev cr)), (6, .int x), (5, .int (nI tm)), (4, .int (nI nt)), (3, .ref s), (1, .ref (ad 0)), (0, .ref (gb g))] [.int (nI (prsS cl (nI a) (nI b) cl.length)), .int (bI (conS cl d a b))] (u18 ++ (sB ++ t)) Q
            have hpr := prs_le cl (nI a) (nI b) cl.length
            have hpr2 : cl.length * cl.length ≤ 40 * 40 := Nat.mul_le_mul h40 h40
            refine r_if_le (tgt := 227) dL_law_202 (by decide) (fun h1 => ?_) (fun h1 => ?_)
            · have e0 : prsS cl (nI a) (nI b) cl.length = 0 := by
                have := (nI_leI (a := prsS cl (nI a) (nI b) cl.length) (b := 0) (by omega) (by decide)).mp h1
                omega
              refine r_iconst (v := (0 : Int32)) dL_law_227 (by decide) ?_
              refine r_top (w := .int (bI false)) (rfl) ?_
              refine r_room (x2 := 15 * m2 + 100 * m + xx + 8 + 6) (y2 := 90 * m2 + 600 * m + yy + 48 + 36) (by omega) (by omega) ?_
              exact J228 false (by rw [conS_cf]; unfold cfS; rw [e0]; simp) _ hJ18
            · have e0 : 0 < prsS cl (nI a) (nI b) cl.length := by
                have : ¬ prsS cl (nI a) (nI b) cl.length ≤ 0 := fun h => h1 ((nI_leI (b := 0) (by omega) (by decide)).mpr h)
                omega
              refine r_aload_n 13 dL_law_205 rfl ?_
              refine r_iload 4 dL_law_206 rfl ?_
              refine r_room (x2 := (15 * m2 + 100 * m + xx + 8 + 7) + 1) (y2 := (90 * m2 + 600 * m + yy + 48 + 42) + 6) (rq rfl) (rq rfl) ?_
              refine k_Vm (x := (15 * m2 + 100 * m + xx + 8 + 7)) (y := (90 * m2 + 600 * m + yy + 48 + 42)) (rest := [.int (bI (conS cl d a b))]) dL_law_208 kv_L_214 (ap_isDoubted (a := a) hJ18 ha2) rfl rfl (List.mem_append_left _ hc55) rfl (Nat.le_of_ble_eq_true rfl) (by decide) (by decide) ?_
              rintro u19 hJ19
              obtain ⟨fs58, hc57⟩ := CI.cell hJ19
              show R g (mL_law nm) 1400 (15 * m2 + 100 * m + xx + 8 + 7) (90 * m2 + 600 * m + yy + 48 + 42) 211 [(14, .int (bI (ndS cl d nt a (b + 1)))), (13, .int (bI (agS cl d a (b + 1)))), (16, .int (bI (conS cl d a b))), (15, .int (nI b)), (12, .int (nI a)), (11, .int (nI (sm a (fun i => cntS cl (nI i) cl.length)))), (10, .int (nI (pnS cl d nt a + pnIn cl d a b))), (9, .int (nI (sm a (fun i => b1 ((LIs cl d nt).1.testBit i))))), (7, .long (dgS ne nt cl d ev cr)), (6, .int x), (5, .int (nI tm)), (4, .int (nI nt)), (3, .ref s), (1, .ref (ad 0)), (0, .ref (gb g))] [.int (dbF d a), .int (bI (conS cl d a b))] (u19 ++ (sB ++ t)) Q
              refine r_if_ne (tgt := 227) dL_law_211 (by decide) (fun h2 => ?_) (fun h2 => ?_)
              · have e2 : d.testBit a = true := by cases h9 : d.testBit a with | false => exact absurd (dbF_f h9) h2 | true => rfl
                refine r_iconst (v := (0 : Int32)) dL_law_227 (by decide) ?_
                refine r_top (w := .int (bI false)) (rfl) ?_
                refine r_room (x2 := 15 * m2 + 100 * m + xx + 8 + 6) (y2 := 90 * m2 + 600 * m + yy + 48 + 36) (by omega) (by omega) ?_
                exact J228 false (by rw [conS_cf]; unfold cfS; rw [e2]; rfl) _ hJ19
              · have e2 : d.testBit a = false := dbF_0.mp h2
                refine r_aload_n 13 dL_law_214 rfl ?_
                refine r_iload 3 dL_law_215 rfl ?_
                refine r_room (x2 := (15 * m2 + 100 * m + xx + 8 + 6) + 1) (y2 := (90 * m2 + 600 * m + yy + 48 + 36) + 6) (rq rfl) (rq rfl) ?_
                refine k_Vm (x := (15 * m2 + 100 * m + xx + 8 + 6)) (y := (90 * m2 + 600 * m + yy + 48 + 36)) (rest := [.int (bI (conS cl d a b))]) dL_law_217 kv_L_214 (ap_isDoubted (a := b) hJ19 hb2) rfl rfl (List.mem_append_left _ hc57) rfl (Nat.le_of_ble_eq_true rfl) (by decide) (by decide) ?_
                rintro u20 hJ20
                obtain ⟨fs60, hc59⟩ := CI.cell hJ20
                show R g (mL_law nm) 1400 (15 * m2 + 100 * m + xx + 8 + 6) (90 * m2 + 600 * m + yy + 48 + 36) 220 [(14, .int (bI (ndS cl d nt a (b + 1)))), (13, .int (bI (agS cl d a (b + 1)))), (16, .int (bI (conS cl d a b))), (15, .int (nI b)), (12, .int (nI a)), (11, .int (nI (sm a (fun i => cntS cl (nI i) cl.length)))), (10, .int (nI (pnS cl d nt a + pnIn cl d a b))), (9, .int (nI (sm a (fun i => b1 ((LIs cl d nt).1.testBit i))))), (7, .long (dgS ne nt cl d ev cr)), (6, .int x), (5, .int (nI tm)), (4, .int (nI nt)), (3, .ref s), (1, .ref (ad 0)), (0, .ref (gb g))] [.int (dbF d b), .int (bI (conS cl d a b))] (u20 ++ (sB ++ t)) Q
                refine r_if_ne (tgt := 227) dL_law_220 (by decide) (fun h3 => ?_) (fun h3 => ?_)
                · have e3 : d.testBit b = true := by cases h9 : d.testBit b with | false => exact absurd (dbF_f h9) h3 | true => rfl
                  refine r_iconst (v := (0 : Int32)) dL_law_227 (by decide) ?_
                  refine r_top (w := .int (bI false)) (rfl) ?_
                  refine r_room (x2 := 15 * m2 + 100 * m + xx + 8 + 6) (y2 := 90 * m2 + 600 * m + yy + 48 + 36) (by omega) (by omega) ?_
                  exact J228 false (by rw [conS_cf]; unfold cfS; rw [e2, e3]; rfl) _ hJ20
                · have e3 : d.testBit b = false := dbF_0.mp h3
                  refine r_iconst (v := (1 : Int32)) dL_law_223 (by decide) ?_
                  refine r_goto (tgt := 228) dL_law_224 (by decide) ?_
                  refine r_top (w := .int (bI true)) (rfl) ?_
                  refine r_room (x2 := 15 * m2 + 100 * m + xx + 8 + 6) (y2 := 90 * m2 + 600 * m + yy + 48 + 36) (by omega) (by omega) ?_
                  exact J228 true (by rw [conS_cf]; unfold cfS; rw [e2, e3, decide_eq_true e0]; rfl) _ hJ20
          refine r_if_eq (tgt := 175) dL_law_152 (by decide) (fun h1 => ?_) (fun h1 => ?_)
          · refine r_iconst (v := (0 : Int32)) dL_law_175 (by decide) ?_
            refine r_top (w := .int (bI false)) (rfl) ?_
            refine r_room (x2 := 15 * m2 + 100 * m + xx + 8 + 12) (y2 := 90 * m2 + 600 * m + yy + 48 + 72) (by omega) (by omega) ?_
            exact J176 false (by rw [b_f h1]; rfl) _ hJ12
          · refine r_iload 2 dL_law_155 rfl ?_
            refine r_iload 4 dL_law_157 rfl ?_
            refine r_icmp_eq (tgt := 175) dL_law_159 (by decide) (fun h2 => ?_) (fun h2 => ?_)
            · refine r_iconst (v := (0 : Int32)) dL_law_175 (by decide) ?_
              refine r_top (w := .int (bI false)) (rfl) ?_
              refine r_room (x2 := 15 * m2 + 100 * m + xx + 8 + 12) (y2 := 90 * m2 + 600 * m + yy + 48 + 72) (by omega) (by omega) ?_
              exact J176 false (by rw [decide_eq_true ((nI_eq (by omega) (by omega)).mp h2)]; simp) _ hJ12
            · refine r_aload_n 13 dL_law_162 rfl ?_
              refine r_iload 2 dL_law_163 rfl ?_
              refine r_room (x2 := (15 * m2 + 100 * m + xx + 8 + 12) + 1) (y2 := (90 * m2 + 600 * m + yy + 48 + 72) + 6) (rq rfl) (rq rfl) ?_
              refine k_Vm (x := (15 * m2 + 100 * m + xx + 8 + 12)) (y := (90 * m2 + 600 * m + yy + 48 + 72)) (rest := [.int (bI (ndS cl d nt a b))]) dL_law_165 kv_L_208 (ap_isLiar (a := b) hJ12 hb2) rfl rfl (List.mem_append_left _ hc39) rfl (Nat.le_of_ble_eq_true rfl) (by decide) (by decide) ?_
              rintro u21 hJ21
              obtain ⟨fs62, hc61⟩ := CI.cell hJ21
              show R g (mL_law nm) 1400 (15 * m2 + 100 * m + xx + 8 + 12) (90 * m2 + 600 * m + yy + 48 + 72) 168 [(13, .int (bI (agS cl d a (b + 1)))), (16, .int (bI (conS cl d a b))), (15, .int (nI b)), (14, .int (bI (ndS cl d nt a b))), (12, .int (nI a)), (11, .int (nI (sm a (fun i => cntS cl (nI i) cl.length)))), (10, .int (nI (pnS cl d nt a + pnIn cl d a b))), (9, .int (nI (sm a (fun i => b1 ((LIs cl d nt).1.testBit i))))), (7, .long (dgS ne nt cl d ev cr)), (6, .int x), (5, .int (nI tm)), (4, .int (nI nt)), (3, .ref s), (1, .ref (ad 0)), (0, .ref (gb g))] [.int (dbF (LIs cl d nt).1 b), .int (bI (ndS cl d nt a b))] (u21 ++ (sB ++ t)) Q
              refine r_if_ne (tgt := 175) dL_law_168 (by decide) (fun h3 => ?_) (fun h3 => ?_)
              · have e3 : (LIs cl d nt).1.testBit b = true := by cases h9 : (LIs cl d nt).1.testBit b with | false => exact absurd (dbF_f h9) h3 | true => rfl
                refine r_iconst (v := (0 : Int32)) dL_law_175 (by decide) ?_
                refine r_top (w := .int (bI false)) (rfl) ?_
                refine r_room (x2 := 15 * m2 + 100 * m + xx + 8 + 12) (y2 := 90 * m2 + 600 * m + yy + 48 + 72) (by omega) (by omega) ?_
                exact J176 false (by rw [e3]; simp) _ hJ21
              · have e3 : (LIs cl d nt).1.testBit b = false := dbF_0.mp h3
                refine r_iconst (v := (1 : Int32)) dL_law_171 (by decide) ?_
                refine r_goto (tgt := 176) dL_law_172 (by decide) ?_
                refine r_top (w := .int (bI true)) (rfl) ?_
                refine r_room (x2 := 15 * m2 + 100 * m + xx + 8 + 12) (y2 := 90 * m2 + 600 * m + yy + 48 + 72) (by omega) (by omega) ?_
                exact J176 true (by rw [e3, b_t h1, decide_eq_false (fun h => h2 (congrArg nI h))]; rfl) _ hJ21
      refine r_ls [0, 1, 2, 3, 4, 5, 6, 7, 8, 9, 10, 11, 12, 13] (ls2 := [(15, .int (nI 0)), (14, .int (bI (conS cl d a a))), (13, .int (bI false)), (12, .int (nI a)), (11, .int (nI (sm a (fun i => cntS cl (nI i) cl.length)))), (10, .int (nI (pnS cl d nt a))), (9, .int (nI (sm a (fun i => b1 ((LIs cl d nt).1.testBit i))))), (7, .long (dgS ne nt cl d ev cr)), (6, .int x), (5, .int (nI tm)), (4, .int (nI nt)), (3, .ref s), (1, .ref (ad 0)), (0, .ref (gb g))]) rfl ?_
      refine r_room (x2 := 15 * nt + 100 * m + xx + 8) (y2 := 90 * nt + 600 * m + yy + 48) (by omega) (by omega) ?_
      exact LB nt 0 (by omega) _ hJ7
  refine r_iconst (v := (0 : Int32)) dL_law_89 (by decide) ?_
  refine r_top (w := .int (nI 0)) (rfl) ?_
  refine r_istore [(9, .int (nI 0)), (7, .long (dgS ne nt cl d ev cr)), (6, .int x), (5, .int (nI tm)), (4, .int (nI nt)), (3, .ref s), (1, .ref (ad 0)), (0, .ref (gb g))] dL_law_90 (Nat.le_of_ble_eq_true rfl) rfl ?_
  refine r_iconst (v := (0 : Int32)) dL_law_92 (by decide) ?_
  refine r_top (w := .int (nI 0)) (rfl) ?_
  refine r_istore [(10, .int (nI 0)), (9, .int (nI 0)), (7, .long (dgS ne nt cl d ev cr)), (6, .int x), (5, .int (nI tm)), (4, .int (nI nt)), (3, .ref s), (1, .ref (ad 0)), (0, .ref (gb g))] dL_law_93 (Nat.le_of_ble_eq_true rfl) rfl ?_
  refine r_iconst (v := (0 : Int32)) dL_law_95 (by decide) ?_
  refine r_top (w := .int (nI 0)) (rfl) ?_
  refine r_istore [(11, .int (nI 0)), (10, .int (nI 0)), (9, .int (nI 0)), (7, .long (dgS ne nt cl d ev cr)), (6, .int x), (5, .int (nI tm)), (4, .int (nI nt)), (3, .ref s), (1, .ref (ad 0)), (0, .ref (gb g))] dL_law_96 (Nat.le_of_ble_eq_true rfl) rfl ?_
  refine r_iconst (v := (0 : Int32)) dL_law_98 (by decide) ?_
  refine r_top (w := .int (nI 0)) (rfl) ?_
  refine r_istore [(12, .int (nI 0)), (11, .int (nI 0)), (10, .int (nI 0)), (9, .int (nI 0)), (7, .long (dgS ne nt cl d ev cr)), (6, .int x), (5, .int (nI tm)), (4, .int (nI nt)), (3, .ref s), (1, .ref (ad 0)), (0, .ref (gb g))] dL_law_99 (Nat.le_of_ble_eq_true rfl) rfl ?_
  refine r_ls [0, 1, 2, 3, 4, 5, 6, 7, 8, 9, 10] (ls2 := [(12, .int (nI 0)), (11, .int (nI 0)), (10, .int (nI 0)), (9, .int (nI 0)), (7, .long (dgS ne nt cl d ev cr)), (6, .int x), (5, .int (nI tm)), (4, .int (nI nt)), (3, .ref s), (1, .ref (ad 0)), (0, .ref (gb g))]) rfl ?_
  refine r_room (x2 := 100 * nt + xx) (y2 := 600 * nt + yy) (by omega) (by omega) ?_
  exact LA nt 0 (by omega) _ hI
