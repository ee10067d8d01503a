set_option maxRecDepth 20000 in
set_option maxHeartbeats 16000000 in
theorem law_C {nm : String} {g : GG} {ad : Nat → Nat} {t sB : va_W} {Q : Rs → va_W → Prop} {s ne nt d tm : Nat} {cl : List (Nat → Int32)} {os : List OT} {ev cr x : Int32} {A : Nat → Nat} {u0 : va_W} {xx yy pl : Nat} {z : Bool} {f : Nat → Int32} (hI : CI g ad u0 ne nt cl os d ev cr) (hA : AcS cl A) (hz : z = true → ∃ q, (ogS cl ne (trS cl d nt) ne) = some q ∧ ∀ i, i < ne → f (q.2 i) = nI i) (K : (∀ u : va_W, CI g ad u ne nt cl os d ev cr → R g (mL_law nm) 1400 xx yy 676 [(10, .int (nI (pnS cl d nt nt))), (9, .int (nI (LIs cl d nt).2.2)), (7, .long (dgS ne nt cl d ev cr)), (6, .int x), (5, .int (nI tm)), (4, .int (nI nt)), (3, .ref s), (1, .ref (ad 0)), (0, .ref (gb g))] [] (u ++ (sB ++ t)) Q)) : R g (mL_law nm) 1400 (xx + 900) (yy + 5400) 525 [(15, .int (nI 0)), (13, .ref pl), (12, .int (bI z)), (10, .int (nI (pnS cl d nt nt))), (9, .int (nI (LIs cl d nt).2.2)), (7, .long (dgS ne nt cl d ev cr)), (6, .int x), (5, .int (nI tm)), (4, .int (nI nt)), (3, .ref s), (1, .ref (ad 0)), (0, .ref (gb g))] [] (u0 ++ (sB ++ ([(pl, iA g ne f)] ++ t))) Q := by
  obtain ⟨n1, n2, n3, n4, hd, h40, hV, hD⟩ := CI.num hI
  have hn10 : nt ≤ 10 := by omega
  have LC : ∀ m c, m + c = cl.length → ∀ u : va_W, CI g ad u ne nt cl os d ev cr → R g (mL_law nm) 1400 (21 * m + xx) (126 * m + yy) 525 [(15, .int (nI c)), (13, .ref pl), (12, .int (bI z)), (10, .int (nI (pnS cl d nt nt))), (9, .int (nI (LIs cl d nt).2.2)), (7, .long (dgS ne nt cl d ev cr)), (6, .int x), (5, .int (nI tm)), (4, .int (nI nt)), (3, .ref s), (1, .ref (ad 0)), (0, .ref (gb g))] [] (u ++ (sB ++ ([(pl, iA g ne f)] ++ t))) Q := by
    intro m
    induction m with
    | zero =>
      intro c hc u hu
      have ec : c = cl.length := by omega
      rw [ec]
      obtain ⟨fs2, hc1⟩ := CI.cell hu
      refine r_room (x2 := xx) (y2 := yy) (by omega) (by omega) ?_
      refine r_iload 0 dL_law_525 rfl ?_
      refine r_aload_n 10 dL_law_527 rfl ?_
      refine k_Vm (x := xx) (y := yy) (rest := [.int (nI cl.length)]) dL_law_528 kv_L_225 (ap_claims hu) rfl rfl (List.mem_append_left _ hc1) rfl (Nat.le_of_ble_eq_true rfl) (by decide) (by decide) ?_
      rintro u1 hJ1
      obtain ⟨fs4, hc3⟩ := CI.cell hJ1
      show R g (mL_law nm) 1400 xx yy 531 [(15, .int (nI cl.length)), (13, .ref pl), (12, .int (bI z)), (10, .int (nI (pnS cl d nt nt))), (9, .int (nI (LIs cl d nt).2.2)), (7, .long (dgS ne nt cl d ev cr)), (6, .int x), (5, .int (nI tm)), (4, .int (nI nt)), (3, .ref s), (1, .ref (ad 0)), (0, .ref (gb g))] [.int (nI cl.length), .int (nI cl.length)] (u1 ++ (sB ++ ([(pl, iA g ne f)] ++ t))) Q
      refine r_icmp_ge (tgt := 676) dL_law_531 (by decide) (fun _ => ?_) (fun hc => absurd (nI_le (Nat.le_refl _) (by omega)) hc)
      refine r_seg (ws2 := (u1 ++ (sB ++ t))) [u1, sB, [(pl, iA g ne f)], t] [0, 1, 3] rfl rfl rfl ?_
      refine r_ls [3, 4, 5, 6, 7, 8, 9, 10, 11] (ls2 := [(10, .int (nI (pnS cl d nt nt))), (9, .int (nI (LIs cl d nt).2.2)), (7, .long (dgS ne nt cl d ev cr)), (6, .int x), (5, .int (nI tm)), (4, .int (nI nt)), (3, .ref s), (1, .ref (ad 0)), (0, .ref (gb g))]) rfl ?_
      exact K _ hJ1
    | succ m ih =>
      intro c hc u hu
      have hc2 : c < cl.length := by omega
      obtain ⟨k3', ⟨ww, hww, ew⟩, ⟨ee, hee, ee2⟩, k30, -⟩ := hV c hc2
      have etw := tn_of ew (by omega)
      obtain ⟨fs6, hc5⟩ := CI.cell hu
      refine r_room (x2 := 21 * m + xx + 21) (y2 := 126 * m + yy + 126) (by omega) (by omega) ?_
      refine r_iload 0 dL_law_525 rfl ?_
      refine r_aload_n 10 dL_law_527 rfl ?_
      refine k_Vm (x := (21 * m + xx + 21)) (y := (126 * m + yy + 126)) (rest := [.int (nI c)]) dL_law_528 kv_L_225 (ap_claims hu) rfl rfl (List.mem_append_left _ hc5) rfl (Nat.le_of_ble_eq_true rfl) (by decide) (by decide) ?_
      rintro u2 hJ2
      obtain ⟨fs8, hc7⟩ := CI.cell hJ2
      show R g (mL_law nm) 1400 (21 * m + xx + 21) (126 * m + yy + 126) 531 [(15, .int (nI c)), (13, .ref pl), (12, .int (bI z)), (10, .int (nI (pnS cl d nt nt))), (9, .int (nI (LIs cl d nt).2.2)), (7, .long (dgS ne nt cl d ev cr)), (6, .int x), (5, .int (nI tm)), (4, .int (nI nt)), (3, .ref s), (1, .ref (ad 0)), (0, .ref (gb g))] [.int (nI cl.length), .int (nI c)] (u2 ++ (sB ++ ([(pl, iA g ne f)] ++ t))) Q
      refine r_icmp_ge (tgt := 676) dL_law_531 (by decide) (fun hc => absurd hc (nI_ge hc2 (by omega))) (fun _ => ?_)
      refine r_aload_n 10 dL_law_534 rfl ?_
      refine r_iload 0 dL_law_535 rfl ?_
      refine r_room (x2 := (21 * m + xx + 20) + 1) (y2 := (126 * m + yy + 120) + 6) (rq rfl) (rq rfl) ?_
      refine k_Vm (x := (21 * m + xx + 20)) (y := (126 * m + yy + 120)) (rest := []) dL_law_537 kv_L_239 (ap_tellerOf (c := c) hJ2 hc2) rfl rfl (List.mem_append_left _ hc7) rfl (Nat.le_of_ble_eq_true rfl) (by decide) (by decide) ?_
      rintro u3 hJ3
      obtain ⟨fs10, hc9⟩ := CI.cell hJ3
      show R g (mL_law nm) 1400 (21 * m + xx + 20) (126 * m + yy + 120) 540 [(15, .int (nI c)), (13, .ref pl), (12, .int (bI z)), (10, .int (nI (pnS cl d nt nt))), (9, .int (nI (LIs cl d nt).2.2)), (7, .long (dgS ne nt cl d ev cr)), (6, .int x), (5, .int (nI tm)), (4, .int (nI nt)), (3, .ref s), (1, .ref (ad 0)), (0, .ref (gb g))] [.int (rw5 cl c 1)] (u3 ++ (sB ++ ([(pl, iA g ne f)] ++ t))) Q
      refine r_top (w := .int (nI ww)) (by rw [ew]) ?_
      refine r_istore [(16, .int (nI ww)), (15, .int (nI c)), (13, .ref pl), (12, .int (bI z)), (10, .int (nI (pnS cl d nt nt))), (9, .int (nI (LIs cl d nt).2.2)), (7, .long (dgS ne nt cl d ev cr)), (6, .int x), (5, .int (nI tm)), (4, .int (nI nt)), (3, .ref s), (1, .ref (ad 0)), (0, .ref (gb g))] dL_law_540 (Nat.le_of_ble_eq_true rfl) rfl ?_
      refine r_aload_n 11 dL_law_542 rfl ?_
      refine r_iload 0 dL_law_543 rfl ?_
      have J670 :  ∀ u : va_W, CI g ad u ne nt cl os d ev cr → R g (mL_law nm) 1400 (21 * m + xx) (126 * m + yy) 670 [(15, .int (nI c)), (13, .ref pl), (12, .int (bI z)), (10, .int (nI (pnS cl d nt nt))), (9, .int (nI (LIs cl d nt).2.2)), (7, .long (dgS ne nt cl d ev cr)), (6, .int x), (5, .int (nI tm)), (4, .int (nI nt)), (3, .ref s), (1, .ref (ad 0)), (0, .ref (gb g))] [] (u ++ (sB ++ ([(pl, iA g ne f)] ++ t))) Q := by
        intro u hu
        refine r_iinc (v2 := (nI (c + 1))) 0 [(15, .int (nI (c + 1))), (13, .ref pl), (12, .int (bI z)), (10, .int (nI (pnS cl d nt nt))), (9, .int (nI (LIs cl d nt).2.2)), (7, .long (dgS ne nt cl d ev cr)), (6, .int x), (5, .int (nI tm)), (4, .int (nI nt)), (3, .ref s), (1, .ref (ad 0)), (0, .ref (gb g))] dL_law_670 rfl (nI_1 c) (Nat.le_of_ble_eq_true rfl) rfl ?_
        refine r_goto (tgt := 525) dL_law_673 (by decide) ?_
        refine r_ls [0, 1, 2, 3, 4, 5, 6, 7, 8, 9, 10, 11] (ls2 := [(15, .int (nI (c + 1))), (13, .ref pl), (12, .int (bI z)), (10, .int (nI (pnS cl d nt nt))), (9, .int (nI (LIs cl d nt).2.2)), (7, .long (dgS ne nt cl d ev cr)), (6, .int x), (5, .int (nI tm)), (4, .int (nI nt)), (3, .ref s), (1, .ref (ad 0)), (0, .ref (gb g))]) rfl ?_
        exact ih (c + 1) (by omega) u hu
      refine r_room (x2 := (21 * m + xx + 19) + 1) (y2 := (126 * m + yy + 114) + 6) (rq rfl) (rq rfl) ?_
      refine k_Vm (x := (21 * m + xx + 19)) (y := (126 * m + yy + 114)) (rest := []) dL_law_545 kv_L_214 (ap_isDoubted (a := ww) hJ3 hww) rfl rfl (List.mem_append_left _ hc9) rfl (Nat.le_of_ble_eq_true rfl) (by decide) (by decide) ?_
      rintro u4 hJ4
      obtain ⟨fs12, hc11⟩ := CI.cell hJ4
      show R g (mL_law nm) 1400 (21 * m + xx + 19) (126 * m + yy + 114) 548 [(16, .int (nI ww)), (15, .int (nI c)), (13, .ref pl), (12, .int (bI z)), (10, .int (nI (pnS cl d nt nt))), (9, .int (nI (LIs cl d nt).2.2)), (7, .long (dgS ne nt cl d ev cr)), (6, .int x), (5, .int (nI tm)), (4, .int (nI nt)), (3, .ref s), (1, .ref (ad 0)), (0, .ref (gb g))] [.int (dbF d ww)] (u4 ++ (sB ++ ([(pl, iA g ne f)] ++ t))) Q
      refine r_if_eq (tgt := 554) dL_law_548 (by decide) (fun h1 => ?_) (fun h1 => ?_)
      · have hdb : d.testBit ww = false := dbF_0.mp h1
        refine r_aload_n 11 dL_law_554 rfl ?_
        refine r_iload 1 dL_law_555 rfl ?_
        refine r_room (x2 := (21 * m + xx + 18) + 1) (y2 := (126 * m + yy + 108) + 6) (rq rfl) (rq rfl) ?_
        refine k_Vm (x := (21 * m + xx + 18)) (y := (126 * m + yy + 108)) (rest := []) dL_law_557 kv_L_242 (ap_eventOf (c := c) hJ4 hc2) rfl rfl (List.mem_append_left _ hc11) rfl (Nat.le_of_ble_eq_true rfl) (by decide) (by decide) ?_
        rintro u5 hJ5
        obtain ⟨fs14, hc13⟩ := CI.cell hJ5
        show R g (mL_law nm) 1400 (21 * m + xx + 18) (126 * m + yy + 108) 560 [(16, .int (nI ww)), (15, .int (nI c)), (13, .ref pl), (12, .int (bI z)), (10, .int (nI (pnS cl d nt nt))), (9, .int (nI (LIs cl d nt).2.2)), (7, .long (dgS ne nt cl d ev cr)), (6, .int x), (5, .int (nI tm)), (4, .int (nI nt)), (3, .ref s), (1, .ref (ad 0)), (0, .ref (gb g))] [.int (rw5 cl c 2)] (u5 ++ (sB ++ ([(pl, iA g ne f)] ++ t))) Q
        refine r_top (w := .int (nI ee)) (by rw [ee2]) ?_
        refine r_istore [(17, .int (nI ee)), (16, .int (nI ww)), (15, .int (nI c)), (13, .ref pl), (12, .int (bI z)), (10, .int (nI (pnS cl d nt nt))), (9, .int (nI (LIs cl d nt).2.2)), (7, .long (dgS ne nt cl d ev cr)), (6, .int x), (5, .int (nI tm)), (4, .int (nI nt)), (3, .ref s), (1, .ref (ad 0)), (0, .ref (gb g))] dL_law_560 (Nat.le_of_ble_eq_true rfl) rfl ?_
        refine r_aload_n 12 dL_law_562 rfl ?_
        refine r_iload 2 dL_law_563 rfl ?_
        have J627 :  ∀ u : va_W, CI g ad u ne nt cl os d ev cr → R g (mL_law nm) 1400 (21 * m + xx + 4) (126 * m + yy + 24) 627 [(17, .int (nI ee)), (16, .int (nI ww)), (15, .int (nI c)), (13, .ref pl), (12, .int (bI z)), (10, .int (nI (pnS cl d nt nt))), (9, .int (nI (LIs cl d nt).2.2)), (7, .long (dgS ne nt cl d ev cr)), (6, .int x), (5, .int (nI tm)), (4, .int (nI nt)), (3, .ref s), (1, .ref (ad 0)), (0, .ref (gb g))] [] (u ++ (sB ++ ([(pl, iA g ne f)] ++ t))) Q := by
          intro u hu
          obtain ⟨fs16, hc15⟩ := CI.cell hu
          refine r_aload_n 12 dL_law_627 rfl ?_
          refine r_iload 2 dL_law_628 rfl ?_
          refine r_room (x2 := (21 * m + xx + 3) + 1) (y2 := (126 * m + yy + 18) + 6) (rq rfl) (rq rfl) ?_
          refine k_Vm (x := (21 * m + xx + 3)) (y := (126 * m + yy + 18)) (rest := []) dL_law_630 kv_L_245 (ap_kindOf (c := c) hu hc2) rfl rfl (List.mem_append_left _ hc15) rfl (Nat.le_of_ble_eq_true rfl) (by decide) (by decide) ?_
          rintro u6 hJ6
          obtain ⟨fs18, hc17⟩ := CI.cell hJ6
          show R g (mL_law nm) 1400 (21 * m + xx + 3) (126 * m + yy + 18) 633 [(17, .int (nI ee)), (16, .int (nI ww)), (15, .int (nI c)), (13, .ref pl), (12, .int (bI z)), (10, .int (nI (pnS cl d nt nt))), (9, .int (nI (LIs cl d nt).2.2)), (7, .long (dgS ne nt cl d ev cr)), (6, .int x), (5, .int (nI tm)), (4, .int (nI nt)), (3, .ref s), (1, .ref (ad 0)), (0, .ref (gb g))] [.int (rw5 cl c 0)] (u6 ++ (sB ++ ([(pl, iA g ne f)] ++ t))) Q
          refine r_iconst (v := (1 : Int32)) dL_law_633 (by decide) ?_
          refine r_icmp_ne (tgt := 670) dL_law_634 (by decide) (fun h2 => ?_) (fun h2 => ?_)
          · refine r_ls [2, 3, 4, 5, 6, 7, 8, 9, 10, 11, 12, 13] (ls2 := [(15, .int (nI c)), (13, .ref pl), (12, .int (bI z)), (10, .int (nI (pnS cl d nt nt))), (9, .int (nI (LIs cl d nt).2.2)), (7, .long (dgS ne nt cl d ev cr)), (6, .int x), (5, .int (nI tm)), (4, .int (nI nt)), (3, .ref s), (1, .ref (ad 0)), (0, .ref (gb g))]) rfl ?_
            refine r_room (x2 := 21 * m + xx) (y2 := 126 * m + yy) (by omega) (by omega) ?_
            exact J670 _ hJ6
          · refine r_iload 4 dL_law_637 rfl ?_
            refine r_if_eq (tgt := 670) dL_law_639 (by decide) (fun h3 => ?_) (fun h3 => ?_)
            · refine r_ls [2, 3, 4, 5, 6, 7, 8, 9, 10, 11, 12, 13] (ls2 := [(15, .int (nI c)), (13, .ref pl), (12, .int (bI z)), (10, .int (nI (pnS cl d nt nt))), (9, .int (nI (LIs cl d nt).2.2)), (7, .long (dgS ne nt cl d ev cr)), (6, .int x), (5, .int (nI tm)), (4, .int (nI nt)), (3, .ref s), (1, .ref (ad 0)), (0, .ref (gb g))]) rfl ?_
              refine r_room (x2 := 21 * m + xx) (y2 := 126 * m + yy) (by omega) (by omega) ?_
              exact J670 _ hJ6
            · refine r_aload_n 12 dL_law_642 rfl ?_
              refine r_iload 1 dL_law_643 rfl ?_
              refine r_room (x2 := (21 * m + xx + 2) + 1) (y2 := (126 * m + yy + 12) + 6) (rq rfl) (rq rfl) ?_
              refine k_Vm (x := (21 * m + xx + 2)) (y := (126 * m + yy + 12)) (rest := []) dL_law_645 kv_L_208 (ap_isLiar (a := ww) hJ6 hww) rfl rfl (List.mem_append_left _ hc17) rfl (Nat.le_of_ble_eq_true rfl) (by decide) (by decide) ?_
              rintro u7 hJ7
              obtain ⟨fs20, hc19⟩ := CI.cell hJ7
              show R g (mL_law nm) 1400 (21 * m + xx + 2) (126 * m + yy + 12) 648 [(17, .int (nI ee)), (16, .int (nI ww)), (15, .int (nI c)), (13, .ref pl), (12, .int (bI z)), (10, .int (nI (pnS cl d nt nt))), (9, .int (nI (LIs cl d nt).2.2)), (7, .long (dgS ne nt cl d ev cr)), (6, .int x), (5, .int (nI tm)), (4, .int (nI nt)), (3, .ref s), (1, .ref (ad 0)), (0, .ref (gb g))] [.int (dbF (LIs cl d nt).1 ww)] (u7 ++ (sB ++ ([(pl, iA g ne f)] ++ t))) Q
              refine r_if_ne (tgt := 670) dL_law_648 (by decide) (fun h4 => ?_) (fun h4 => ?_)
              · refine r_ls [2, 3, 4, 5, 6, 7, 8, 9, 10, 11, 12, 13] (ls2 := [(15, .int (nI c)), (13, .ref pl), (12, .int (bI z)), (10, .int (nI (pnS cl d nt nt))), (9, .int (nI (LIs cl d nt).2.2)), (7, .long (dgS ne nt cl d ev cr)), (6, .int x), (5, .int (nI tm)), (4, .int (nI nt)), (3, .ref s), (1, .ref (ad 0)), (0, .ref (gb g))]) rfl ?_
                refine r_room (x2 := 21 * m + xx) (y2 := 126 * m + yy) (by omega) (by omega) ?_
                exact J670 _ hJ7
              · have hlb : (LIs cl d nt).1.testBit ww = false := dbF_0.mp h4
                obtain ⟨q, hq, hf⟩ := hz (b_t h3)
                obtain ⟨g1, g2, g3, g4, g5, g6, g7⟩ := og_inv (show ne ≤ 8 by omega) ne q hq
                obtain ⟨-, hsur⟩ := f_sum (show ne ≤ 8 by omega) hq
                have hk0 : ¬ rw5 cl c 0 = 0 := by rw [h2]; decide
                obtain ⟨oo, hoo, eo⟩ := k30 hk0
                obtain ⟨j2, hj2, ej2⟩ := hsur oo hoo
                have htr : (trS cl d nt).testBit (tN (rwK cl 1) c) = true := by rw [etw, trS_TrS cl d nt ww hww, hdb, hlb]; rfl
                obtain ⟨i2, hi2, ei2⟩ := g7 j2 c hj2 hc2 h2 (by rw [eo, ej2]) htr
                rw [on_of ee2 (by omega)] at ei2
                refine r_aload 3 dL_law_651 rfl ?_
                refine r_iload 0 dL_law_653 rfl ?_
                refine r_ialdm (n := ne) (f := f) dL_law_655 (List.mem_append_right _ (List.mem_append_right _ (List.mem_append_left _ List.mem_cons_self))) (ib_nI hee (by omega)) ?_
                refine r_top (w := .int (nI i2)) (by rw [nI_clamp (by omega), ← ei2, hf i2 (by omega)]) ?_
                refine r_aload 3 dL_law_656 rfl ?_
                refine r_aload_n 12 dL_law_658 rfl ?_
                refine r_iload 2 dL_law_659 rfl ?_
                refine r_room (x2 := (21 * m + xx + 0) + 2) (y2 := (126 * m + yy + 0) + 12) (rq rfl) (rq rfl) ?_
                refine k_Vm (x := (21 * m + xx + 0)) (y := (126 * m + yy + 0)) (rest := [.ref pl, .int (nI i2)]) dL_law_661 kv_L_263 (ap_secondEventOf (c := c) hJ7 hc2 hk0) rfl rfl (List.mem_append_left _ hc19) rfl (Nat.le_of_ble_eq_true rfl) (by decide) (by decide) ?_
                rintro u8 hJ8
                obtain ⟨fs22, hc21⟩ := CI.cell hJ8
                show R g (mL_law nm) 1400 (21 * m + xx + 0) (126 * m + yy + 0) 664 [(17, .int (nI ee)), (16, .int (nI ww)), (15, .int (nI c)), (13, .ref pl), (12, .int (bI z)), (10, .int (nI (pnS cl d nt nt))), (9, .int (nI (LIs cl d nt).2.2)), (7, .long (dgS ne nt cl d ev cr)), (6, .int x), (5, .int (nI tm)), (4, .int (nI nt)), (3, .ref s), (1, .ref (ad 0)), (0, .ref (gb g))] [.int (rw5 cl c 3), .ref pl, .int (nI i2)] (u8 ++ (sB ++ ([(pl, iA g ne f)] ++ t))) Q
                refine r_top (w := .int (nI oo)) (by rw [eo]) ?_
                refine r_ialdm (n := ne) (f := f) dL_law_664 (List.mem_append_right _ (List.mem_append_right _ (List.mem_append_left _ List.mem_cons_self))) (ib_nI hoo (by omega)) ?_
                refine r_top (w := .int (nI j2)) (by rw [nI_clamp (by omega), ← ej2, hf j2 hj2]) ?_
                refine r_icmp_lt (tgt := 670) dL_law_665 (by decide) (fun _ => ?_) (fun hc => absurd (nI_lt hi2 (by omega)) hc)
                refine r_ls [2, 3, 4, 5, 6, 7, 8, 9, 10, 11, 12, 13] (ls2 := [(15, .int (nI c)), (13, .ref pl), (12, .int (bI z)), (10, .int (nI (pnS cl d nt nt))), (9, .int (nI (LIs cl d nt).2.2)), (7, .long (dgS ne nt cl d ev cr)), (6, .int x), (5, .int (nI tm)), (4, .int (nI nt)), (3, .ref s), (1, .ref (ad 0)), (0, .ref (gb g))]) rfl ?_
                refine r_room (x2 := 21 * m + xx) (y2 := 126 * m + yy) (by omega) (by omega) ?_
                exact J670 _ hJ8
        refine r_room (x2 := (21 * m + xx + 17) + 1) (y2 := (126 * m + yy + 102) + 6) (rq rfl) (rq rfl) ?_
        refine k_Vm (x := (21 * m + xx + 17)) (y := (126 * m + yy + 102)) (rest := []) dL_law_565 kv_L_245 (ap_kindOf (c := c) hJ5 hc2) rfl rfl (List.mem_append_left _ hc13) rfl (Nat.le_of_ble_eq_true rfl) (by decide) (by decide) ?_
        rintro u9 hJ9
        obtain ⟨fs24, hc23⟩ := CI.cell hJ9
        show R g (mL_law nm) 1400 (21 * m + xx + 17) (126 * m + yy + 102) 568 [(17, .int (nI ee)), (16, .int (nI ww)), (15, .int (nI c)), (13, .ref pl), (12, .int (bI z)), (10, .int (nI (pnS cl d nt nt))), (9, .int (nI (LIs cl d nt).2.2)), (7, .long (dgS ne nt cl d ev cr)), (6, .int x), (5, .int (nI tm)), (4, .int (nI nt)), (3, .ref s), (1, .ref (ad 0)), (0, .ref (gb g))] [.int (rw5 cl c 0)] (u9 ++ (sB ++ ([(pl, iA g ne f)] ++ t))) Q
        refine r_if_ne (tgt := 627) dL_law_568 (by decide) (fun h5 => ?_) (fun h5 => ?_)
        · refine r_room (x2 := 21 * m + xx + 4) (y2 := 126 * m + yy + 24) (by omega) (by omega) ?_
          exact J627 _ hJ9
        · refine r_aload_n 12 dL_law_571 rfl ?_
          refine r_iload 0 dL_law_572 rfl ?_
          refine r_room (x2 := (21 * m + xx + 16) + 1) (y2 := (126 * m + yy + 96) + 6) (rq rfl) (rq rfl) ?_
          refine k_Vm (x := (21 * m + xx + 16)) (y := (126 * m + yy + 96)) (rest := []) dL_law_574 kv_L_248 (ap_isAgreed (e := ee) hJ9 hee) rfl rfl (List.mem_append_left _ hc23) rfl (Nat.le_of_ble_eq_true rfl) (by decide) (by decide) ?_
          rintro u10 hJ10
          obtain ⟨fs26, hc25⟩ := CI.cell hJ10
          show R g (mL_law nm) 1400 (21 * m + xx + 16) (126 * m + yy + 96) 577 [(17, .int (nI ee)), (16, .int (nI ww)), (15, .int (nI c)), (13, .ref pl), (12, .int (bI z)), (10, .int (nI (pnS cl d nt nt))), (9, .int (nI (LIs cl d nt).2.2)), (7, .long (dgS ne nt cl d ev cr)), (6, .int x), (5, .int (nI tm)), (4, .int (nI nt)), (3, .ref s), (1, .ref (ad 0)), (0, .ref (gb g))] [.int (bI (decide (0 < (winS cl d ee 100).2.2)))] (u10 ++ (sB ++ ([(pl, iA g ne f)] ++ t))) Q
          refine r_if_eq (tgt := 627) dL_law_577 (by decide) (fun h6 => ?_) (fun h6 => ?_)
          · refine r_room (x2 := 21 * m + xx + 4) (y2 := 126 * m + yy + 24) (by omega) (by omega) ?_
            exact J627 _ hJ10
          · have hp := of_decide_eq_true (b_t h6)
            obtain ⟨wx, wy, wu, wv, e1, e2, e3, e4, l1, l2, l3, l4⟩ := f_win hV hn10 hd hc2 h5 ee2 (by rw [etw]; exact hdb) hp
            refine r_aload_n 12 dL_law_580 rfl ?_
            refine r_iload 0 dL_law_581 rfl ?_
            refine r_room (x2 := (21 * m + xx + 14) + 2) (y2 := (126 * m + yy + 84) + 12) (rq rfl) (rq rfl) ?_
            refine k_Vm (x := (21 * m + xx + 14)) (y := (126 * m + yy + 84)) (rest := []) dL_law_583 kv_L_251 (ap_windowFrom (e := ee) hJ10 hee hp) rfl rfl (List.mem_append_left _ hc25) rfl (Nat.le_of_ble_eq_true rfl) (by decide) (by decide) ?_
            rintro u11 hJ11
            obtain ⟨fs28, hc27⟩ := CI.cell hJ11
            show R g (mL_law nm) 1400 (21 * m + xx + 14) (126 * m + yy + 84) 586 [(17, .int (nI ee)), (16, .int (nI ww)), (15, .int (nI c)), (13, .ref pl), (12, .int (bI z)), (10, .int (nI (pnS cl d nt nt))), (9, .int (nI (LIs cl d nt).2.2)), (7, .long (dgS ne nt cl d ev cr)), (6, .int x), (5, .int (nI tm)), (4, .int (nI nt)), (3, .ref s), (1, .ref (ad 0)), (0, .ref (gb g))] [.int (winS cl d ee 100).1] (u11 ++ (sB ++ ([(pl, iA g ne f)] ++ t))) Q
            refine r_top (w := .int (nI wx)) (by rw [e1]) ?_
            refine r_aload_n 12 dL_law_586 rfl ?_
            refine r_iload 2 dL_law_587 rfl ?_
            refine r_room (x2 := (21 * m + xx + 12) + 2) (y2 := (126 * m + yy + 72) + 12) (rq rfl) (rq rfl) ?_
            refine k_Vm (x := (21 * m + xx + 12)) (y := (126 * m + yy + 72)) (rest := [.int (nI wx)]) dL_law_589 kv_L_254 (ap_firstHourOf (c := c) hJ11 hc2 h5) rfl rfl (List.mem_append_left _ hc27) rfl (Nat.le_of_ble_eq_true rfl) (by decide) (by decide) ?_
            rintro u12 hJ12
            obtain ⟨fs30, hc29⟩ := CI.cell hJ12
            show R g (mL_law nm) 1400 (21 * m + xx + 12) (126 * m + yy + 72) 592 [(17, .int (nI ee)), (16, .int (nI ww)), (15, .int (nI c)), (13, .ref pl), (12, .int (bI z)), (10, .int (nI (pnS cl d nt nt))), (9, .int (nI (LIs cl d nt).2.2)), (7, .long (dgS ne nt cl d ev cr)), (6, .int x), (5, .int (nI tm)), (4, .int (nI nt)), (3, .ref s), (1, .ref (ad 0)), (0, .ref (gb g))] [.int (rw5 cl c 3), .int (nI wx)] (u12 ++ (sB ++ ([(pl, iA g ne f)] ++ t))) Q
            refine r_top (w := .int (nI wu)) (by rw [e3]) ?_
            refine r_icmp_lt (tgt := 625) dL_law_592 (by decide) (fun hc => absurd hc (nI_nlt l1 (by omega))) (fun _ => ?_)
            refine r_aload_n 12 dL_law_595 rfl ?_
            refine r_iload 0 dL_law_596 rfl ?_
            refine r_room (x2 := (21 * m + xx + 10) + 2) (y2 := (126 * m + yy + 60) + 12) (rq rfl) (rq rfl) ?_
            refine k_Vm (x := (21 * m + xx + 10)) (y := (126 * m + yy + 60)) (rest := []) dL_law_598 kv_L_257 (ap_windowTo (e := ee) hJ12 hee hp) rfl rfl (List.mem_append_left _ hc29) rfl (Nat.le_of_ble_eq_true rfl) (by decide) (by decide) ?_
            rintro u13 hJ13
            obtain ⟨fs32, hc31⟩ := CI.cell hJ13
            show R g (mL_law nm) 1400 (21 * m + xx + 10) (126 * m + yy + 60) 601 [(17, .int (nI ee)), (16, .int (nI ww)), (15, .int (nI c)), (13, .ref pl), (12, .int (bI z)), (10, .int (nI (pnS cl d nt nt))), (9, .int (nI (LIs cl d nt).2.2)), (7, .long (dgS ne nt cl d ev cr)), (6, .int x), (5, .int (nI tm)), (4, .int (nI nt)), (3, .ref s), (1, .ref (ad 0)), (0, .ref (gb g))] [.int (winS cl d ee 100).2.1] (u13 ++ (sB ++ ([(pl, iA g ne f)] ++ t))) Q
            refine r_top (w := .int (nI wy)) (by rw [e2]) ?_
            refine r_aload_n 12 dL_law_601 rfl ?_
            refine r_iload 2 dL_law_602 rfl ?_
            refine r_room (x2 := (21 * m + xx + 8) + 2) (y2 := (126 * m + yy + 48) + 12) (rq rfl) (rq rfl) ?_
            refine k_Vm (x := (21 * m + xx + 8)) (y := (126 * m + yy + 48)) (rest := [.int (nI wy)]) dL_law_604 kv_L_260 (ap_lastHourOf (c := c) hJ13 hc2 h5) rfl rfl (List.mem_append_left _ hc31) rfl (Nat.le_of_ble_eq_true rfl) (by decide) (by decide) ?_
            rintro u14 hJ14
            obtain ⟨fs34, hc33⟩ := CI.cell hJ14
            show R g (mL_law nm) 1400 (21 * m + xx + 8) (126 * m + yy + 48) 607 [(17, .int (nI ee)), (16, .int (nI ww)), (15, .int (nI c)), (13, .ref pl), (12, .int (bI z)), (10, .int (nI (pnS cl d nt nt))), (9, .int (nI (LIs cl d nt).2.2)), (7, .long (dgS ne nt cl d ev cr)), (6, .int x), (5, .int (nI tm)), (4, .int (nI nt)), (3, .ref s), (1, .ref (ad 0)), (0, .ref (gb g))] [.int (rw5 cl c 4), .int (nI wy)] (u14 ++ (sB ++ ([(pl, iA g ne f)] ++ t))) Q
            refine r_top (w := .int (nI wv)) (by rw [e4]) ?_
            refine r_icmp_gt (tgt := 625) dL_law_607 (by decide) (fun hc => absurd hc (nI_nlt l3 (by omega))) (fun _ => ?_)
            refine r_aload_n 12 dL_law_610 rfl ?_
            refine r_iload 0 dL_law_611 rfl ?_
            refine r_room (x2 := (21 * m + xx + 6) + 2) (y2 := (126 * m + yy + 36) + 12) (rq rfl) (rq rfl) ?_
            refine k_Vm (x := (21 * m + xx + 6)) (y := (126 * m + yy + 36)) (rest := []) dL_law_613 kv_L_251 (ap_windowFrom (e := ee) hJ14 hee hp) rfl rfl (List.mem_append_left _ hc33) rfl (Nat.le_of_ble_eq_true rfl) (by decide) (by decide) ?_
            rintro u15 hJ15
            obtain ⟨fs36, hc35⟩ := CI.cell hJ15
            show R g (mL_law nm) 1400 (21 * m + xx + 6) (126 * m + yy + 36) 616 [(17, .int (nI ee)), (16, .int (nI ww)), (15, .int (nI c)), (13, .ref pl), (12, .int (bI z)), (10, .int (nI (pnS cl d nt nt))), (9, .int (nI (LIs cl d nt).2.2)), (7, .long (dgS ne nt cl d ev cr)), (6, .int x), (5, .int (nI tm)), (4, .int (nI nt)), (3, .ref s), (1, .ref (ad 0)), (0, .ref (gb g))] [.int (winS cl d ee 100).1] (u15 ++ (sB ++ ([(pl, iA g ne f)] ++ t))) Q
            refine r_top (w := .int (nI wx)) (by rw [e1]) ?_
            refine r_aload_n 12 dL_law_616 rfl ?_
            refine r_iload 0 dL_law_617 rfl ?_
            refine r_room (x2 := (21 * m + xx + 4) + 2) (y2 := (126 * m + yy + 24) + 12) (rq rfl) (rq rfl) ?_
            refine k_Vm (x := (21 * m + xx + 4)) (y := (126 * m + yy + 24)) (rest := [.int (nI wx)]) dL_law_619 kv_L_257 (ap_windowTo (e := ee) hJ15 hee hp) rfl rfl (List.mem_append_left _ hc35) rfl (Nat.le_of_ble_eq_true rfl) (by decide) (by decide) ?_
            rintro u16 hJ16
            obtain ⟨fs38, hc37⟩ := CI.cell hJ16
            show R g (mL_law nm) 1400 (21 * m + xx + 4) (126 * m + yy + 24) 622 [(17, .int (nI ee)), (16, .int (nI ww)), (15, .int (nI c)), (13, .ref pl), (12, .int (bI z)), (10, .int (nI (pnS cl d nt nt))), (9, .int (nI (LIs cl d nt).2.2)), (7, .long (dgS ne nt cl d ev cr)), (6, .int x), (5, .int (nI tm)), (4, .int (nI nt)), (3, .ref s), (1, .ref (ad 0)), (0, .ref (gb g))] [.int (winS cl d ee 100).2.1, .int (nI wx)] (u16 ++ (sB ++ ([(pl, iA g ne f)] ++ t))) Q
            refine r_top (w := .int (nI wy)) (by rw [e2]) ?_
            refine r_icmp_le (tgt := 627) dL_law_622 (by decide) (fun _ => ?_) (fun hc => absurd (nI_le l2 (by omega)) hc)
            refine r_room (x2 := 21 * m + xx + 4) (y2 := 126 * m + yy + 24) (by omega) (by omega) ?_
            exact J627 _ hJ16
      · refine r_goto (tgt := 670) dL_law_551 (by decide) ?_
        refine r_ls [1, 2, 3, 4, 5, 6, 7, 8, 9, 10, 11, 12] (ls2 := [(15, .int (nI c)), (13, .ref pl), (12, .int (bI z)), (10, .int (nI (pnS cl d nt nt))), (9, .int (nI (LIs cl d nt).2.2)), (7, .long (dgS ne nt cl d ev cr)), (6, .int x), (5, .int (nI tm)), (4, .int (nI nt)), (3, .ref s), (1, .ref (ad 0)), (0, .ref (gb g))]) rfl ?_
        refine r_room (x2 := 21 * m + xx) (y2 := 126 * m + yy) (by omega) (by omega) ?_
        exact J670 _ hJ4
  refine r_room (x2 := 21 * cl.length + xx) (y2 := 126 * cl.length + yy) (by omega) (by omega) ?_
  exact LC cl.length 0 (by omega) u0 hI
set_option maxRecDepth 20000 in
set_option maxHeartbeats 16000000 in
theorem law_B {nm : String} {g : GG} {ad : Nat → Nat} {t sB : va_W} {Q : Rs → va_W → Prop} {s ne nt d tm : Nat} {cl : List (Nat → Int32)} {os : List OT} {ev cr x : Int32} {A : Nat → Nat} {u0 : va_W} {xx yy : Nat} (hI : CI g ad u0 ne nt cl os d ev cr) (hA : AcS cl A) (K : (∀ u : va_W, CI g ad u ne nt cl os d ev cr → R g (mL_law nm) 1400 xx yy 676 [(10, .int (nI (pnS cl d nt nt))), (9, .int (nI (LIs cl d nt).2.2)), (7, .long (dgS ne nt cl d ev cr)), (6, .int x), (5, .int (nI tm)), (4, .int (nI nt)), (3, .ref s), (1, .ref (ad 0)), (0, .ref (gb g))] [] (u ++ (sB ++ t)) Q)) : R g (mL_law nm) 1400 (xx + 950) (yy + 5700) 438 [(10, .int (nI (pnS cl d nt nt))), (9, .int (nI (LIs cl d nt).2.2)), (7, .long (dgS ne nt cl d ev cr)), (6, .int x), (5, .int (nI tm)), (4, .int (nI nt)), (3, .ref s), (1, .ref (ad 0)), (0, .ref (gb g))] [] (u0 ++ (sB ++ t)) Q := by
  obtain ⟨n1, n2, n3, n4, hd, h40, hV, hD⟩ := CI.num hI
  have hn10 : nt ≤ 10 := by omega
  obtain ⟨fs40, hc39⟩ := CI.cell hI
  refine r_aload_n 7 dL_law_438 rfl ?_
  refine k_Vm (x := (xx + 950)) (y := (yy + 5700)) (rest := []) dL_law_439 kv_L_230 (ap_hasOrder hI) rfl rfl (List.mem_append_left _ hc39) rfl (Nat.le_of_ble_eq_true rfl) (by decide) (by decide) ?_
  rintro u17 hJ17
  obtain ⟨fs42, hc41⟩ := CI.cell hJ17
  show R g (mL_law nm) 1400 (xx + 950) (yy + 5700) 442 [(10, .int (nI (pnS cl d nt nt))), (9, .int (nI (LIs cl d nt).2.2)), (7, .long (dgS ne nt cl d ev cr)), (6, .int x), (5, .int (nI tm)), (4, .int (nI nt)), (3, .ref s), (1, .ref (ad 0)), (0, .ref (gb g))] [.int (bI (ogS cl ne (trS cl d nt) ne).isSome)] (u17 ++ (sB ++ t)) Q
  refine r_istore [(12, .int (bI (ogS cl ne (trS cl d nt) ne).isSome)), (10, .int (nI (pnS cl d nt nt))), (9, .int (nI (LIs cl d nt).2.2)), (7, .long (dgS ne nt cl d ev cr)), (6, .int x), (5, .int (nI tm)), (4, .int (nI nt)), (3, .ref s), (1, .ref (ad 0)), (0, .ref (gb g))] dL_law_442 (Nat.le_of_ble_eq_true rfl) rfl ?_
  refine r_aload_n 8 dL_law_444 rfl ?_
  refine k_Vm (x := (xx + 950)) (y := (yy + 5700)) (rest := []) dL_law_445 kv_L_234 (ap_events hJ17) rfl rfl (List.mem_append_left _ hc41) rfl (Nat.le_of_ble_eq_true rfl) (by decide) (by decide) ?_
  rintro u18 hJ18
  obtain ⟨fs44, hc43⟩ := CI.cell hJ18
  show R g (mL_law nm) 1400 (xx + 950) (yy + 5700) 448 [(12, .int (bI (ogS cl ne (trS cl d nt) ne).isSome)), (10, .int (nI (pnS cl d nt nt))), (9, .int (nI (LIs cl d nt).2.2)), (7, .long (dgS ne nt cl d ev cr)), (6, .int x), (5, .int (nI tm)), (4, .int (nI nt)), (3, .ref s), (1, .ref (ad 0)), (0, .ref (gb g))] [.int (nI ne)] (u18 ++ (sB ++ t)) Q
  refine r_room (x2 := xx + 948 + 1) (y2 := yy + 5690 + ne) (by omega) (by omega) ?_
  refine r_newIv (x := xx + 948) (y := yy + 5690) (N := ne) dL_law_448 kk_105 (nI_pos (by omega)) (nI_clamp (by omega)) (by omega) (fun q1 => ?_)
  refine r_astore [(13, .ref q1), (12, .int (bI (ogS cl ne (trS cl d nt) ne).isSome)), (10, .int (nI (pnS cl d nt nt))), (9, .int (nI (LIs cl d nt).2.2)), (7, .long (dgS ne nt cl d ev cr)), (6, .int x), (5, .int (nI tm)), (4, .int (nI nt)), (3, .ref s), (1, .ref (ad 0)), (0, .ref (gb g))] dL_law_450 (Nat.le_of_ble_eq_true rfl) rfl ?_
  refine r_iconst (v := (0 : Int32)) dL_law_452 (by decide) ?_
  refine r_top (w := .int (nI 0)) (rfl) ?_
  refine r_istore [(14, .int (nI 0)), (13, .ref q1), (12, .int (bI (ogS cl ne (trS cl d nt) ne).isSome)), (10, .int (nI (pnS cl d nt nt))), (9, .int (nI (LIs cl d nt).2.2)), (7, .long (dgS ne nt cl d ev cr)), (6, .int x), (5, .int (nI tm)), (4, .int (nI nt)), (3, .ref s), (1, .ref (ad 0)), (0, .ref (gb g))] dL_law_453 (Nat.le_of_ble_eq_true rfl) rfl ?_
  refine r_iconst (v := (0 : Int32)) dL_law_455 (by decide) ?_
  refine r_top (w := .int (nI 0)) (rfl) ?_
  refine r_istore [(15, .int (nI 0)), (14, .int (nI 0)), (13, .ref q1), (12, .int (bI (ogS cl ne (trS cl d nt) ne).isSome)), (10, .int (nI (pnS cl d nt nt))), (9, .int (nI (LIs cl d nt).2.2)), (7, .long (dgS ne nt cl d ev cr)), (6, .int x), (5, .int (nI tm)), (4, .int (nI nt)), (3, .ref s), (1, .ref (ad 0)), (0, .ref (gb g))] dL_law_456 (Nat.le_of_ble_eq_true rfl) rfl ?_
  cases hq : (ogS cl ne (trS cl d nt) ne) with
  | none =>
    refine r_iload 0 dL_law_458 rfl ?_
    refine r_aload_n 11 dL_law_460 rfl ?_
    refine r_seg (ws2 := (u18 ++ ([(q1, iA g ne (fun _ => 0))] ++ (sB ++ t)))) [[(q1, iA g ne (fun _ => 0))], u18, sB, t] [1, 0, 2, 3] rfl rfl rfl ?_
    refine k_Vm (x := (xx + 948)) (y := (yy + 5690)) (rest := [.int (nI 0)]) dL_law_461 kv_L_234 (ap_events hJ18) rfl rfl (List.mem_append_left _ hc43) rfl (Nat.le_of_ble_eq_true rfl) (by decide) (by decide) ?_
    rintro u19 hJ19
    obtain ⟨fs46, hc45⟩ := CI.cell hJ19
    refine r_seg (ws2 := ((q1, iA g ne (fun _ => 0)) :: (u19 ++ (sB ++ t)))) [u19, [(q1, iA g ne (fun _ => 0))], sB, t] [1, 0, 2, 3] rfl rfl rfl ?_
    show R g (mL_law nm) 1400 (xx + 948) (yy + 5690) 464 [(15, .int (nI 0)), (14, .int (nI 0)), (13, .ref q1), (12, .int (bI (none : Option (Nat × (Nat → Nat))).isSome)), (10, .int (nI (pnS cl d nt nt))), (9, .int (nI (LIs cl d nt).2.2)), (7, .long (dgS ne nt cl d ev cr)), (6, .int x), (5, .int (nI tm)), (4, .int (nI nt)), (3, .ref s), (1, .ref (ad 0)), (0, .ref (gb g))] [.int (nI ne), .int (nI 0)] ((q1, iA g ne (fun _ => 0)) :: (u19 ++ (sB ++ t))) Q
    refine r_icmp_ge (tgt := 502) dL_law_464 (by decide) (fun hc => absurd hc (nI_ge n1 (by omega))) (fun _ => ?_)
    refine r_iload 3 dL_law_467 rfl ?_
    refine r_if_eq (tgt := 502) dL_law_469 (by decide) (fun _ => ?_) (fun hc => absurd (rfl) hc)
    refine r_iload 3 dL_law_502 rfl ?_
    refine r_if_eq (tgt := 522) dL_law_504 (by decide) (fun _ => ?_) (fun hc => absurd (rfl) hc)
    refine r_iconst (v := (0 : Int32)) dL_law_522 (by decide) ?_
    refine r_top (w := .int (nI 0)) (rfl) ?_
    refine r_istore [(15, .int (nI 0)), (14, .int (nI 0)), (13, .ref q1), (12, .int (bI (none : Option (Nat × (Nat → Nat))).isSome)), (10, .int (nI (pnS cl d nt nt))), (9, .int (nI (LIs cl d nt).2.2)), (7, .long (dgS ne nt cl d ev cr)), (6, .int x), (5, .int (nI tm)), (4, .int (nI nt)), (3, .ref s), (1, .ref (ad 0)), (0, .ref (gb g))] dL_law_523 (Nat.le_of_ble_eq_true rfl) rfl ?_
    refine r_ls [0, 2, 3, 4, 5, 6, 7, 8, 9, 10, 11, 12] (ls2 := [(15, .int (nI 0)), (13, .ref q1), (12, .int (bI (none : Option (Nat × (Nat → Nat))).isSome)), (10, .int (nI (pnS cl d nt nt))), (9, .int (nI (LIs cl d nt).2.2)), (7, .long (dgS ne nt cl d ev cr)), (6, .int x), (5, .int (nI tm)), (4, .int (nI nt)), (3, .ref s), (1, .ref (ad 0)), (0, .ref (gb g))]) rfl ?_
    refine r_seg (ws2 := (u19 ++ (sB ++ ([(q1, iA g ne (fun _ => 0))] ++ t)))) [[(q1, iA g ne (fun _ => 0))], u19, sB, t] [1, 2, 0, 3] rfl rfl rfl ?_
    refine r_room (x2 := xx + 900) (y2 := yy + 5400) (by omega) (by omega) ?_
    exact law_C (z := false) (f := (fun _ => 0)) hJ19 hA (fun h => nomatch h) K
  | some q =>
    obtain ⟨g1, g2, g3, g4, g5, g6, g7⟩ := og_inv (show ne ≤ 8 by omega) ne q hq
    obtain ⟨fs1, -⟩ := f_sum (show ne ≤ 8 by omega) hq
    show R g (mL_law nm) 1400 (xx + 948) (yy + 5690) 458 [(15, .int (nI 0)), (14, .int (nI 0)), (13, .ref q1), (12, .int (bI true)), (10, .int (nI (pnS cl d nt nt))), (9, .int (nI (LIs cl d nt).2.2)), (7, .long (dgS ne nt cl d ev cr)), (6, .int x), (5, .int (nI tm)), (4, .int (nI nt)), (3, .ref s), (1, .ref (ad 0)), (0, .ref (gb g))] [] ((q1, iA g ne (fun _ => 0)) :: (u18 ++ (sB ++ t))) Q
    have LO : ∀ m e, m + e = ne → ∀ f : Nat → Int32, (∀ i, i < e → f (q.2 i) = nI i) → ∀ u : va_W, CI g ad u ne nt cl os d ev cr → R g (mL_law nm) 1400 (2 * m + xx + 900) (12 * m + yy + 5400) 458 [(15, .int (nI e)), (14, .int (nI (sm e (fun i => 2 ^ q.2 i)))), (13, .ref q1), (12, .int (bI true)), (10, .int (nI (pnS cl d nt nt))), (9, .int (nI (LIs cl d nt).2.2)), (7, .long (dgS ne nt cl d ev cr)), (6, .int x), (5, .int (nI tm)), (4, .int (nI nt)), (3, .ref s), (1, .ref (ad 0)), (0, .ref (gb g))] [] ((q1, iA g ne f) :: (u ++ (sB ++ t))) Q := by
      intro m
      induction m with
      | zero =>
        intro e he f hf u hu
        have ee : e = ne := by omega
        rw [ee] at hf ⊢
        obtain ⟨fs48, hc47⟩ := CI.cell hu
        refine r_room (x2 := xx + 900) (y2 := yy + 5400) (by omega) (by omega) ?_
        refine r_iload 0 dL_law_458 rfl ?_
        refine r_aload_n 11 dL_law_460 rfl ?_
        refine r_seg (ws2 := (u ++ ([(q1, iA g ne f)] ++ (sB ++ t)))) [[(q1, iA g ne f)], u, sB, t] [1, 0, 2, 3] rfl rfl rfl ?_
        refine k_Vm (x := (xx + 900)) (y := (yy + 5400)) (rest := [.int (nI ne)]) dL_law_461 kv_L_234 (ap_events hu) rfl rfl (List.mem_append_left _ hc47) rfl (Nat.le_of_ble_eq_true rfl) (by decide) (by decide) ?_
        rintro u20 hJ20
        obtain ⟨fs50, hc49⟩ := CI.cell hJ20
        refine r_seg (ws2 := ((q1, iA g ne f) :: (u20 ++ (sB ++ t)))) [u20, [(q1, iA g ne f)], sB, t] [1, 0, 2, 3] rfl rfl rfl ?_
        show R g (mL_law nm) 1400 (xx + 900) (yy + 5400) 464 [(15, .int (nI ne)), (14, .int (nI (sm ne (fun i => 2 ^ q.2 i)))), (13, .ref q1), (12, .int (bI true)), (10, .int (nI (pnS cl d nt nt))), (9, .int (nI (LIs cl d nt).2.2)), (7, .long (dgS ne nt cl d ev cr)), (6, .int x), (5, .int (nI tm)), (4, .int (nI nt)), (3, .ref s), (1, .ref (ad 0)), (0, .ref (gb g))] [.int (nI ne), .int (nI ne)] ((q1, iA g ne f) :: (u20 ++ (sB ++ t))) Q
        refine r_icmp_ge (tgt := 502) dL_law_464 (by decide) (fun _ => ?_) (fun hc => absurd (nI_le (Nat.le_refl _) (by omega)) hc)
        refine r_iload 3 dL_law_502 rfl ?_
        refine r_if_eq (tgt := 522) dL_law_504 (by decide) (fun hc => absurd hc (by decide)) (fun _ => ?_)
        refine r_iload 1 dL_law_507 rfl ?_
        refine r_iconst (v := (1 : Int32)) dL_law_509 (by decide) ?_
        refine r_aload_n 11 dL_law_510 rfl ?_
        refine r_seg (ws2 := (u20 ++ ([(q1, iA g ne f)] ++ (sB ++ t)))) [[(q1, iA g ne f)], u20, sB, t] [1, 0, 2, 3] rfl rfl rfl ?_
        refine k_Vm (x := (xx + 900)) (y := (yy + 5400)) (rest := [.int (1 : Int32), .int (nI (sm ne (fun i => 2 ^ q.2 i)))]) dL_law_511 kv_L_234 (ap_events hJ20) rfl rfl (List.mem_append_left _ hc49) rfl (Nat.le_of_ble_eq_true rfl) (by decide) (by decide) ?_
        rintro u21 hJ21
        obtain ⟨fs52, hc51⟩ := CI.cell hJ21
        refine r_seg (ws2 := ((q1, iA g ne f) :: (u21 ++ (sB ++ t)))) [u21, [(q1, iA g ne f)], sB, t] [1, 0, 2, 3] rfl rfl rfl ?_
        show R g (mL_law nm) 1400 (xx + 900) (yy + 5400) 514 [(15, .int (nI ne)), (14, .int (nI (sm ne (fun i => 2 ^ q.2 i)))), (13, .ref q1), (12, .int (bI true)), (10, .int (nI (pnS cl d nt nt))), (9, .int (nI (LIs cl d nt).2.2)), (7, .long (dgS ne nt cl d ev cr)), (6, .int x), (5, .int (nI tm)), (4, .int (nI nt)), (3, .ref s), (1, .ref (ad 0)), (0, .ref (gb g))] [.int (nI ne), .int (1 : Int32), .int (nI (sm ne (fun i => 2 ^ q.2 i)))] ((q1, iA g ne f) :: (u21 ++ (sB ++ t))) Q
        refine r_ishl dL_law_514 ?_
        refine r_iconst (v := (1 : Int32)) dL_law_515 (by decide) ?_
        refine r_isub dL_law_516 ?_
        refine r_top (w := .int (nI (2 ^ ne - 1))) (by rw [q_full (by omega)]) ?_
        refine r_icmp_eq (tgt := 522) dL_law_517 (by decide) (fun _ => ?_) (fun hc => absurd (by rw [fs1]) hc)
        refine r_iconst (v := (0 : Int32)) dL_law_522 (by decide) ?_
        refine r_top (w := .int (nI 0)) (rfl) ?_
        refine r_istore [(15, .int (nI 0)), (14, .int (nI (sm ne (fun i => 2 ^ q.2 i)))), (13, .ref q1), (12, .int (bI true)), (10, .int (nI (pnS cl d nt nt))), (9, .int (nI (LIs cl d nt).2.2)), (7, .long (dgS ne nt cl d ev cr)), (6, .int x), (5, .int (nI tm)), (4, .int (nI nt)), (3, .ref s), (1, .ref (ad 0)), (0, .ref (gb g))] dL_law_523 (Nat.le_of_ble_eq_true rfl) rfl ?_
        refine r_ls [0, 2, 3, 4, 5, 6, 7, 8, 9, 10, 11, 12] (ls2 := [(15, .int (nI 0)), (13, .ref q1), (12, .int (bI true)), (10, .int (nI (pnS cl d nt nt))), (9, .int (nI (LIs cl d nt).2.2)), (7, .long (dgS ne nt cl d ev cr)), (6, .int x), (5, .int (nI tm)), (4, .int (nI nt)), (3, .ref s), (1, .ref (ad 0)), (0, .ref (gb g))]) rfl ?_
        refine r_seg (ws2 := (u21 ++ (sB ++ ([(q1, iA g ne f)] ++ t)))) [[(q1, iA g ne f)], u21, sB, t] [1, 2, 0, 3] rfl rfl rfl ?_
        refine r_room (x2 := xx + 900) (y2 := yy + 5400) (by omega) (by omega) ?_
        exact law_C (z := true) (f := f) hJ21 hA (fun _ => ⟨q, hq, hf⟩) K
      | succ m ih =>
        intro e he f hf u hu
        have he2 : e < ne := by omega
        have hqe := g4 e he2
        obtain ⟨fs54, hc53⟩ := CI.cell hu
        refine r_room (x2 := 2 * m + xx + 900 + 2) (y2 := 12 * m + yy + 5400 + 12) (by omega) (by omega) ?_
        refine r_iload 0 dL_law_458 rfl ?_
        refine r_aload_n 11 dL_law_460 rfl ?_
        refine r_seg (ws2 := (u ++ ([(q1, iA g ne f)] ++ (sB ++ t)))) [[(q1, iA g ne f)], u, sB, t] [1, 0, 2, 3] rfl rfl rfl ?_
        refine k_Vm (x := (2 * m + xx + 900 + 2)) (y := (12 * m + yy + 5400 + 12)) (rest := [.int (nI e)]) dL_law_461 kv_L_234 (ap_events hu) rfl rfl (List.mem_append_left _ hc53) rfl (Nat.le_of_ble_eq_true rfl) (by decide) (by decide) ?_
        rintro u22 hJ22
        obtain ⟨fs56, hc55⟩ := CI.cell hJ22
        refine r_seg (ws2 := ((q1, iA g ne f) :: (u22 ++ (sB ++ t)))) [u22, [(q1, iA g ne f)], sB, t] [1, 0, 2, 3] rfl rfl rfl ?_
        show R g (mL_law nm) 1400 (2 * m + xx + 900 + 2) (12 * m + yy + 5400 + 12) 464 [(15, .int (nI e)), (14, .int (nI (sm e (fun i => 2 ^ q.2 i)))), (13, .ref q1), (12, .int (bI true)), (10, .int (nI (pnS cl d nt nt))), (9, .int (nI (LIs cl d nt).2.2)), (7, .long (dgS ne nt cl d ev cr)), (6, .int x), (5, .int (nI tm)), (4, .int (nI nt)), (3, .ref s), (1, .ref (ad 0)), (0, .ref (gb g))] [.int (nI ne), .int (nI e)] ((q1, iA g ne f) :: (u22 ++ (sB ++ t))) Q
        refine r_icmp_ge (tgt := 502) dL_law_464 (by decide) (fun hc => absurd hc (nI_ge he2 (by omega))) (fun _ => ?_)
        refine r_iload 3 dL_law_467 rfl ?_
        refine r_if_eq (tgt := 502) dL_law_469 (by decide) (fun hc => absurd hc (by decide)) (fun _ => ?_)
        refine r_aload 2 dL_law_472 rfl ?_
        refine r_aload_n 11 dL_law_474 rfl ?_
        refine r_iload 0 dL_law_475 rfl ?_
        refine r_seg (ws2 := (u22 ++ ([(q1, iA g ne f)] ++ (sB ++ t)))) [[(q1, iA g ne f)], u22, sB, t] [1, 0, 2, 3] rfl rfl rfl ?_
        refine r_room (x2 := (2 * m + xx + 900 + 1) + 1) (y2 := (12 * m + yy + 5400 + 6) + 6) (rq rfl) (rq rfl) ?_
        refine k_Vm (x := (2 * m + xx + 900 + 1)) (y := (12 * m + yy + 5400 + 6)) (rest := [.ref q1]) dL_law_477 kv_L_236 (ap_eventAt (e := e) (q := q) hJ22 he2 hq) rfl rfl (List.mem_append_left _ hc55) rfl (Nat.le_of_ble_eq_true rfl) (by decide) (by decide) ?_
        rintro u23 hJ23
        obtain ⟨fs58, hc57⟩ := CI.cell hJ23
        refine r_seg (ws2 := ((q1, iA g ne f) :: (u23 ++ (sB ++ t)))) [u23, [(q1, iA g ne f)], sB, t] [1, 0, 2, 3] rfl rfl rfl ?_
        show R g (mL_law nm) 1400 (2 * m + xx + 900 + 1) (12 * m + yy + 5400 + 6) 480 [(15, .int (nI e)), (14, .int (nI (sm e (fun i => 2 ^ q.2 i)))), (13, .ref q1), (12, .int (bI true)), (10, .int (nI (pnS cl d nt nt))), (9, .int (nI (LIs cl d nt).2.2)), (7, .long (dgS ne nt cl d ev cr)), (6, .int x), (5, .int (nI tm)), (4, .int (nI nt)), (3, .ref s), (1, .ref (ad 0)), (0, .ref (gb g))] [.int (nI (q.2 e)), .ref q1] ((q1, iA g ne f) :: (u23 ++ (sB ++ t))) Q
        refine r_iload 0 dL_law_480 rfl ?_
        refine r_iast (ws2 := ((q1, iA g ne (upd f (q.2 e) (nI e))) :: (u23 ++ (sB ++ t)))) 0 dL_law_482 rfl (ib_nI hqe (by omega)) (by rw [nI_clamp (by omega)] <;> rfl) ?_
        refine r_iload 1 dL_law_483 rfl ?_
        refine r_iconst (v := (1 : Int32)) dL_law_485 (by decide) ?_
        refine r_aload_n 11 dL_law_486 rfl ?_
        refine r_iload 0 dL_law_487 rfl ?_
        refine r_seg (ws2 := (u23 ++ ([(q1, iA g ne (upd f (q.2 e) (nI e)))] ++ (sB ++ t)))) [[(q1, iA g ne (upd f (q.2 e) (nI e)))], u23, sB, t] [1, 0, 2, 3] rfl rfl rfl ?_
        refine r_room (x2 := (2 * m + xx + 900 + 0) + 1) (y2 := (12 * m + yy + 5400 + 0) + 6) (rq rfl) (rq rfl) ?_
        refine k_Vm (x := (2 * m + xx + 900 + 0)) (y := (12 * m + yy + 5400 + 0)) (rest := [.int (1 : Int32), .int (nI (sm e (fun i => 2 ^ q.2 i)))]) dL_law_489 kv_L_236 (ap_eventAt (e := e) (q := q) hJ23 he2 hq) rfl rfl (List.mem_append_left _ hc57) rfl (Nat.le_of_ble_eq_true rfl) (by decide) (by decide) ?_
        rintro u24 hJ24
        obtain ⟨fs60, hc59⟩ := CI.cell hJ24
        refine r_seg (ws2 := ((q1, iA g ne (upd f (q.2 e) (nI e))) :: (u24 ++ (sB ++ t)))) [u24, [(q1, iA g ne (upd f (q.2 e) (nI e)))], sB, t] [1, 0, 2, 3] rfl rfl rfl ?_
        show R g (mL_law nm) 1400 (2 * m + xx + 900 + 0) (12 * m + yy + 5400 + 0) 492 [(15, .int (nI e)), (14, .int (nI (sm e (fun i => 2 ^ q.2 i)))), (13, .ref q1), (12, .int (bI true)), (10, .int (nI (pnS cl d nt nt))), (9, .int (nI (LIs cl d nt).2.2)), (7, .long (dgS ne nt cl d ev cr)), (6, .int x), (5, .int (nI tm)), (4, .int (nI nt)), (3, .ref s), (1, .ref (ad 0)), (0, .ref (gb g))] [.int (nI (q.2 e)), .int (1 : Int32), .int (nI (sm e (fun i => 2 ^ q.2 i)))] ((q1, iA g ne (upd f (q.2 e) (nI e))) :: (u24 ++ (sB ++ t))) Q
        refine r_ishl dL_law_492 ?_
        refine r_top (w := .int (nI (2 ^ q.2 e))) (by rw [q_bit (q.2 e) (by omega)]) ?_
        refine r_iadd dL_law_493 ?_
        refine r_top (w := .int (nI (sm (e + 1) (fun i => 2 ^ q.2 i)))) (by rw [nI_add]; rfl) ?_
        refine r_istore [(14, .int (nI (sm (e + 1) (fun i => 2 ^ q.2 i)))), (15, .int (nI e)), (13, .ref q1), (12, .int (bI true)), (10, .int (nI (pnS cl d nt nt))), (9, .int (nI (LIs cl d nt).2.2)), (7, .long (dgS ne nt cl d ev cr)), (6, .int x), (5, .int (nI tm)), (4, .int (nI nt)), (3, .ref s), (1, .ref (ad 0)), (0, .ref (gb g))] dL_law_494 (Nat.le_of_ble_eq_true rfl) rfl ?_
        refine r_iinc (v2 := (nI (e + 1))) 1 [(15, .int (nI (e + 1))), (14, .int (nI (sm (e + 1) (fun i => 2 ^ q.2 i)))), (13, .ref q1), (12, .int (bI true)), (10, .int (nI (pnS cl d nt nt))), (9, .int (nI (LIs cl d nt).2.2)), (7, .long (dgS ne nt cl d ev cr)), (6, .int x), (5, .int (nI tm)), (4, .int (nI nt)), (3, .ref s), (1, .ref (ad 0)), (0, .ref (gb g))] dL_law_496 rfl (nI_1 e) (Nat.le_of_ble_eq_true rfl) rfl ?_
        refine r_goto (tgt := 458) dL_law_499 (by decide) ?_
        refine r_ls [0, 1, 2, 3, 4, 5, 6, 7, 8, 9, 10, 11, 12] (ls2 := [(15, .int (nI (e + 1))), (14, .int (nI (sm (e + 1) (fun i => 2 ^ q.2 i)))), (13, .ref q1), (12, .int (bI true)), (10, .int (nI (pnS cl d nt nt))), (9, .int (nI (LIs cl d nt).2.2)), (7, .long (dgS ne nt cl d ev cr)), (6, .int x), (5, .int (nI tm)), (4, .int (nI nt)), (3, .ref s), (1, .ref (ad 0)), (0, .ref (gb g))]) rfl ?_
        refine r_room (x2 := 2 * m + xx + 900) (y2 := 12 * m + yy + 5400) (by omega) (by omega) ?_
        exact ih (e + 1) (by omega) _ (pl_step g6 he2 hf) _ hJ24
    refine r_ls [0, 1, 2, 3, 4, 5, 6, 7, 8, 9, 10, 11, 12] (ls2 := [(15, .int (nI 0)), (14, .int (nI 0)), (13, .ref q1), (12, .int (bI true)), (10, .int (nI (pnS cl d nt nt))), (9, .int (nI (LIs cl d nt).2.2)), (7, .long (dgS ne nt cl d ev cr)), (6, .int x), (5, .int (nI tm)), (4, .int (nI nt)), (3, .ref s), (1, .ref (ad 0)), (0, .ref (gb g))]) rfl ?_
    refine r_room (x2 := 2 * ne + xx + 900) (y2 := 12 * ne + yy + 5400) (by omega) (by omega) ?_
    exact LO ne 0 (by omega) _ (fun i hi => absurd hi (Nat.not_lt_zero i)) _ hJ18
set_option maxRecDepth 20000 in
set_option maxHeartbeats 16000000 in
theorem law_D {nm : String} {g : GG} {ad : Nat → Nat} {t sB : va_W} {Q : Rs → va_W → Prop} {s ne nt d tm : Nat} {cl : List (Nat → Int32)} {os : List OT} {ev cr x : Int32} {A : Nat → Nat} {u0 : va_W} {xx yy : Nat} (hI : CI g ad u0 ne nt cl os d ev cr) (hA : AcS cl A) (K : (∀ k9 : Nat, 1 ≤ k9 → k9 ≤ 3 → ∀ u : va_W, CI g ad u ne nt cl os d ev cr → R g (mL_law nm) 1400 xx yy 960 [(21, .int (unS cl nt os (d, ev, cr))), (20, .int (nI (LIs cl (evS cl nt os k9 (d, ev, cr)).1 nt).2.2)), (19, .int (nI k9)), (5, .int (nI tm)), (4, .int (nI nt)), (3, .ref s), (1, .ref (ad 0)), (0, .ref (gb g))] [] (u ++ (sB ++ t)) Q)) : R g (mL_law nm) 1400 (xx + 30) (yy + 180) 676 [(10, .int (nI (pnS cl d nt nt))), (9, .int (nI (LIs cl d nt).2.2)), (7, .long (dgS ne nt cl d ev cr)), (6, .int x), (5, .int (nI tm)), (4, .int (nI nt)), (3, .ref s), (1, .ref (ad 0)), (0, .ref (gb g))] [] (u0 ++ (sB ++ t)) Q := by
  obtain ⟨n1, n2, n3, n4, hd, h40, hV, hD⟩ := CI.num hI
  have hn10 : nt ≤ 10 := by omega
  have hp36 := pnS_le cl d nt nt
  have hnn : nt * nt ≤ 6 * 6 := Nat.mul_le_mul n4 n4
  have hfew := f_few (d := d) hA hn10
  obtain ⟨fs62, hc61⟩ := CI.cell hI
  refine r_aload_n 7 dL_law_676 rfl ?_
  refine k_Vm (x := (xx + 30)) (y := (yy + 180)) (rest := []) dL_law_677 kv_L_266 (ap_bestToDoubt hI) rfl rfl (List.mem_append_left _ hc61) rfl (Nat.le_of_ble_eq_true rfl) (by decide) (by decide) ?_
  rintro u25 hJ25
  obtain ⟨fs64, hc63⟩ := CI.cell hJ25
  show R g (mL_law nm) 1400 (xx + 30) (yy + 180) 680 [(10, .int (nI (pnS cl d nt nt))), (9, .int (nI (LIs cl d nt).2.2)), (7, .long (dgS ne nt cl d ev cr)), (6, .int x), (5, .int (nI tm)), (4, .int (nI nt)), (3, .ref s), (1, .ref (ad 0)), (0, .ref (gb g))] [.int (bsS cl d nt nt).1] (u25 ++ (sB ++ t)) Q
  refine r_istore [(15, .int (bsS cl d nt nt).1), (10, .int (nI (pnS cl d nt nt))), (9, .int (nI (LIs cl d nt).2.2)), (7, .long (dgS ne nt cl d ev cr)), (6, .int x), (5, .int (nI tm)), (4, .int (nI nt)), (3, .ref s), (1, .ref (ad 0)), (0, .ref (gb g))] dL_law_680 (Nat.le_of_ble_eq_true rfl) rfl ?_
  refine r_iload 4 dL_law_682 rfl ?_
  refine r_iconst (v := (4 : Int32)) dL_law_684 (by decide) ?_
  refine r_ishr dL_law_685 ?_
  refine r_iload 6 dL_law_686 rfl ?_
  refine k_S (x := (xx + 30)) (y := (yy + 180)) (rest := []) dL_law_688 ks_L_35 ((cl_below (v := (x >>> ((4 : Int32) &&& 31))) (n := nt) (n3) (by omega)).dq) rfl rfl (Nat.le_of_ble_eq_true rfl) (by decide) (by decide) ?_
  rintro ⟨⟩ -
  show R g (mL_law nm) 1400 (xx + 30) (yy + 180) 691 [(15, .int (bsS cl d nt nt).1), (10, .int (nI (pnS cl d nt nt))), (9, .int (nI (LIs cl d nt).2.2)), (7, .long (dgS ne nt cl d ev cr)), (6, .int x), (5, .int (nI tm)), (4, .int (nI nt)), (3, .ref s), (1, .ref (ad 0)), (0, .ref (gb g))] [.int (nI (bw (x >>> ((4 : Int32) &&& 31)) nt))] (u25 ++ (sB ++ t)) Q
  have hsm := bw_lt (x >>> ((4 : Int32) &&& 31)) (n := nt) (n3)
  generalize bw (x >>> ((4 : Int32) &&& 31)) nt = sm at hsm ⊢
  show R g (mL_law nm) 1400 (xx + 30) (yy + 180) 691 [(15, .int (bsS cl d nt nt).1), (10, .int (nI (pnS cl d nt nt))), (9, .int (nI (LIs cl d nt).2.2)), (7, .long (dgS ne nt cl d ev cr)), (6, .int x), (5, .int (nI tm)), (4, .int (nI nt)), (3, .ref s), (1, .ref (ad 0)), (0, .ref (gb g))] [.int (nI sm)] (u25 ++ (sB ++ t)) Q
  refine r_istore [(16, .int (nI sm)), (15, .int (bsS cl d nt nt).1), (10, .int (nI (pnS cl d nt nt))), (9, .int (nI (LIs cl d nt).2.2)), (7, .long (dgS ne nt cl d ev cr)), (6, .int x), (5, .int (nI tm)), (4, .int (nI nt)), (3, .ref s), (1, .ref (ad 0)), (0, .ref (gb g))] dL_law_691 (Nat.le_of_ble_eq_true rfl) rfl ?_
  have hfew2 := f_few (d := (d ^^^ 2 ^ sm)) hA hn10
  have hpx := pnS_le cl (d ^^^ 2 ^ sm) nt nt
  have J781 : ∀ (bv : Int32) (le : Nat), le ≤ 36 → (∀ j, j < nt → le ≤ pnS cl (d ||| 2 ^ j) nt nt) → (pnS cl (d ||| 2 ^ sm) nt nt = le → bv ≤ nI sm) → ∀ u : va_W, CI g ad u ne nt cl os d ev cr → R g (mL_law nm) 1400 (xx + 20) (yy + 120) 781 [(17, .int (nI le)), (16, .int (nI sm)), (15, .int bv), (10, .int (nI (pnS cl d nt nt))), (9, .int (nI (LIs cl d nt).2.2)), (7, .long (dgS ne nt cl d ev cr)), (6, .int x), (5, .int (nI tm)), (4, .int (nI nt)), (3, .ref s), (1, .ref (ad 0)), (0, .ref (gb g))] [] (u ++ (sB ++ t)) Q := by
    intro bv le hle hmin hfst u hu
    obtain ⟨fs66, hc65⟩ := CI.cell hu
    refine r_aload_n 10 dL_law_781 rfl ?_
    refine r_iload 1 dL_law_782 rfl ?_
    refine r_room (x2 := (xx + 19) + 1) (y2 := (yy + 114) + 6) (rq rfl) (rq rfl) ?_
    refine k_Vm (x := (xx + 19)) (y := (yy + 114)) (rest := []) dL_law_784 kv_L_214 (ap_isDoubted (a := sm) hu hsm) rfl rfl (List.mem_append_left _ hc65) rfl (Nat.le_of_ble_eq_true rfl) (by decide) (by decide) ?_
    rintro u26 hJ26
    obtain ⟨fs68, hc67⟩ := CI.cell hJ26
    show R g (mL_law nm) 1400 (xx + 19) (yy + 114) 787 [(17, .int (nI le)), (16, .int (nI sm)), (15, .int bv), (10, .int (nI (pnS cl d nt nt))), (9, .int (nI (LIs cl d nt).2.2)), (7, .long (dgS ne nt cl d ev cr)), (6, .int x), (5, .int (nI tm)), (4, .int (nI nt)), (3, .ref s), (1, .ref (ad 0)), (0, .ref (gb g))] [.int (dbF d sm)] (u26 ++ (sB ++ t)) Q
    refine r_istore [(18, .int (dbF d sm)), (17, .int (nI le)), (16, .int (nI sm)), (15, .int bv), (10, .int (nI (pnS cl d nt nt))), (9, .int (nI (LIs cl d nt).2.2)), (7, .long (dgS ne nt cl d ev cr)), (6, .int x), (5, .int (nI tm)), (4, .int (nI nt)), (3, .ref s), (1, .ref (ad 0)), (0, .ref (gb g))] dL_law_787 (Nat.le_of_ble_eq_true rfl) rfl ?_
    refine r_aload_n 11 dL_law_789 rfl ?_
    refine r_iload 2 dL_law_790 rfl ?_
    refine r_room (x2 := (xx + 18) + 1) (y2 := (yy + 108) + 6) (rq rfl) (rq rfl) ?_
    refine k_Vm (x := (xx + 18)) (y := (yy + 108)) (rest := []) dL_law_792 kv_L_173 (ap_turnDoubt (a := sm) hJ26 hsm) rfl rfl (List.mem_append_left _ hc67) rfl (Nat.le_of_ble_eq_true rfl) (by decide) (by decide) ?_
    rintro u27 hJ27
    obtain ⟨fs70, hc69⟩ := CI.cell hJ27
    show R g (mL_law nm) 1400 (xx + 18) (yy + 108) 795 [(18, .int (dbF d sm)), (17, .int (nI le)), (16, .int (nI sm)), (15, .int bv), (10, .int (nI (pnS cl d nt nt))), (9, .int (nI (LIs cl d nt).2.2)), (7, .long (dgS ne nt cl d ev cr)), (6, .int x), (5, .int (nI tm)), (4, .int (nI nt)), (3, .ref s), (1, .ref (ad 0)), (0, .ref (gb g))] [.int (bI (!d.testBit sm))] (u27 ++ (sB ++ t)) Q
    refine r_iload 0 dL_law_795 rfl ?_
    refine r_icmp_eq (tgt := 896) dL_law_797 (by decide) (fun hc => absurd hc (fun h => by rw [dbF_bI] at h; revert h; cases d.testBit sm <;> decide)) (fun _ => ?_)
    have J875 :  ∀ u : va_W, CI g ad u ne nt cl os (d ^^^ 2 ^ sm) ev cr → R g (mL_law nm) 1400 (xx + 10) (yy + 60) 875 [(18, .int (dbF d sm)), (17, .int (nI le)), (16, .int (nI sm)), (15, .int bv), (10, .int (nI (pnS cl d nt nt))), (9, .int (nI (LIs cl d nt).2.2)), (7, .long (dgS ne nt cl d ev cr)), (6, .int x), (5, .int (nI tm)), (4, .int (nI nt)), (3, .ref s), (1, .ref (ad 0)), (0, .ref (gb g))] [] (u ++ (sB ++ t)) Q := by
      intro u hu
      obtain ⟨fs72, hc71⟩ := CI.cell hu
      refine r_aload_n 11 dL_law_875 rfl ?_
      refine r_iload 2 dL_law_876 rfl ?_
      refine r_room (x2 := (xx + 9) + 1) (y2 := (yy + 54) + 6) (rq rfl) (rq rfl) ?_
      refine k_Vm (x := (xx + 9)) (y := (yy + 54)) (rest := []) dL_law_878 kv_L_173 (ap_turnDoubt (a := sm) hu hsm) rfl rfl (List.mem_append_left _ hc71) rfl (Nat.le_of_ble_eq_true rfl) (by decide) (by decide) ?_
      rintro u28 hJ28
      obtain ⟨fs74, hc73⟩ := CI.cell hJ28
      show R g (mL_law nm) 1400 (xx + 9) (yy + 54) 881 [(18, .int (dbF d sm)), (17, .int (nI le)), (16, .int (nI sm)), (15, .int bv), (10, .int (nI (pnS cl d nt nt))), (9, .int (nI (LIs cl d nt).2.2)), (7, .long (dgS ne nt cl d ev cr)), (6, .int x), (5, .int (nI tm)), (4, .int (nI nt)), (3, .ref s), (1, .ref (ad 0)), (0, .ref (gb g))] [.int (bI (!(d ^^^ 2 ^ sm).testBit sm))] (u28 ++ (sB ++ t)) Q
      rw [xor_xor] at hJ28
      refine r_iload 0 dL_law_881 rfl ?_
      refine r_icmp_ne (tgt := 896) dL_law_883 (by decide) (fun hc => absurd (by rw [xor_bit, Bool.not_not]; rfl) hc) (fun _ => ?_)
      refine r_aload_n 11 dL_law_886 rfl ?_
      refine k_Vm (x := (xx + 9)) (y := (yy + 54)) (rest := []) dL_law_887 kv_L_200 (ap_digest hJ28) rfl rfl (List.mem_append_left _ hc73) rfl (Nat.le_of_ble_eq_true rfl) (by decide) (by decide) ?_
      rintro u29 hJ29
      obtain ⟨fs76, hc75⟩ := CI.cell hJ29
      show R g (mL_law nm) 1400 (xx + 9) (yy + 54) 890 [(18, .int (dbF d sm)), (17, .int (nI le)), (16, .int (nI sm)), (15, .int bv), (10, .int (nI (pnS cl d nt nt))), (9, .int (nI (LIs cl d nt).2.2)), (7, .long (dgS ne nt cl d ev cr)), (6, .int x), (5, .int (nI tm)), (4, .int (nI nt)), (3, .ref s), (1, .ref (ad 0)), (0, .ref (gb g))] [.long (dgS ne nt cl d ev cr)] (u29 ++ (sB ++ t)) Q
      refine r_lload 6 dL_law_890 rfl ?_
      refine r_lcmp dL_law_892 ?_
      refine r_top (w := .int (0 : Int32)) (congrArg Value.int (lcmp_0 _)) ?_
      refine r_if_eq (tgt := 898) dL_law_893 (by decide) (fun _ => ?_) (fun hc => absurd (rfl) hc)
      refine r_iconst (v := (1 : Int32)) dL_law_898 (by decide) ?_
      refine r_iload 7 dL_law_899 rfl ?_
      refine r_bipush (v := (6 : Int32)) dL_law_901 (by decide) ?_
      refine r_ishr dL_law_903 ?_
      refine r_iconst (v := (3 : Int32)) dL_law_904 (by decide) ?_
      refine r_top (w := .int (nI 3)) (rfl) ?_
      refine k_S (x := (xx + 9)) (y := (yy + 54)) (rest := [.int (1 : Int32)]) dL_law_905 ks_L_35 ((cl_below (v := (x >>> ((6 : Int32) &&& 31))) (n := 3) (by decide) (by decide)).dq) rfl rfl (Nat.le_of_ble_eq_true rfl) (by decide) (by decide) ?_
      rintro ⟨⟩ -
      show R g (mL_law nm) 1400 (xx + 9) (yy + 54) 908 [(18, .int (dbF d sm)), (17, .int (nI le)), (16, .int (nI sm)), (15, .int bv), (10, .int (nI (pnS cl d nt nt))), (9, .int (nI (LIs cl d nt).2.2)), (7, .long (dgS ne nt cl d ev cr)), (6, .int x), (5, .int (nI tm)), (4, .int (nI nt)), (3, .ref s), (1, .ref (ad 0)), (0, .ref (gb g))] [.int (nI (bw (x >>> ((6 : Int32) &&& 31)) 3)), .int (1 : Int32)] (u29 ++ (sB ++ t)) Q
      have he3 := bw_lt (x >>> ((6 : Int32) &&& 31)) (n := 3) (by decide)
      generalize bw (x >>> ((6 : Int32) &&& 31)) 3 = e3 at he3 ⊢
      show R g (mL_law nm) 1400 (xx + 9) (yy + 54) 908 [(18, .int (dbF d sm)), (17, .int (nI le)), (16, .int (nI sm)), (15, .int bv), (10, .int (nI (pnS cl d nt nt))), (9, .int (nI (LIs cl d nt).2.2)), (7, .long (dgS ne nt cl d ev cr)), (6, .int x), (5, .int (nI tm)), (4, .int (nI nt)), (3, .ref s), (1, .ref (ad 0)), (0, .ref (gb g))] [.int (nI e3), .int (1 : Int32)] (u29 ++ (sB ++ t)) Q
      refine r_iadd dL_law_908 ?_
      refine r_top (w := .int (nI (1 + e3))) (congrArg Value.int (nI_add 1 e3)) ?_
      obtain ⟨k9, hk9⟩ : ∃ k9, k9 = 1 + e3 := ⟨_, rfl⟩
      rw [← hk9]
      refine r_istore [(19, .int (nI k9)), (18, .int (dbF d sm)), (17, .int (nI le)), (16, .int (nI sm)), (15, .int bv), (10, .int (nI (pnS cl d nt nt))), (9, .int (nI (LIs cl d nt).2.2)), (7, .long (dgS ne nt cl d ev cr)), (6, .int x), (5, .int (nI tm)), (4, .int (nI nt)), (3, .ref s), (1, .ref (ad 0)), (0, .ref (gb g))] dL_law_909 (Nat.le_of_ble_eq_true rfl) rfl ?_
      refine r_aload_n 12 dL_law_911 rfl ?_
      refine r_iload 0 dL_law_912 rfl ?_
      refine r_room (x2 := (xx + 8) + 1) (y2 := (yy + 48) + 6) (rq rfl) (rq rfl) ?_
      refine k_Vm (x := (xx + 8)) (y := (yy + 48)) (rest := []) dL_law_914 kv_L_269 (ap_liarsAfter (k := k9) hJ29 (by omega) (by omega)) rfl rfl (List.mem_append_left _ hc75) rfl (Nat.le_of_ble_eq_true rfl) (by decide) (by decide) ?_
      rintro u30 hJ30
      obtain ⟨fs78, hc77⟩ := CI.cell hJ30
      show R g (mL_law nm) 1400 (xx + 8) (yy + 48) 917 [(19, .int (nI k9)), (18, .int (dbF d sm)), (17, .int (nI le)), (16, .int (nI sm)), (15, .int bv), (10, .int (nI (pnS cl d nt nt))), (9, .int (nI (LIs cl d nt).2.2)), (7, .long (dgS ne nt cl d ev cr)), (6, .int x), (5, .int (nI tm)), (4, .int (nI nt)), (3, .ref s), (1, .ref (ad 0)), (0, .ref (gb g))] [.int (nI (LIs cl (evS cl nt os k9 (d, ev, cr)).1 nt).2.2)] (u30 ++ (sB ++ t)) Q
      refine r_istore [(20, .int (nI (LIs cl (evS cl nt os k9 (d, ev, cr)).1 nt).2.2)), (19, .int (nI k9)), (18, .int (dbF d sm)), (17, .int (nI le)), (16, .int (nI sm)), (15, .int bv), (10, .int (nI (pnS cl d nt nt))), (9, .int (nI (LIs cl d nt).2.2)), (7, .long (dgS ne nt cl d ev cr)), (6, .int x), (5, .int (nI tm)), (4, .int (nI nt)), (3, .ref s), (1, .ref (ad 0)), (0, .ref (gb g))] dL_law_917 (Nat.le_of_ble_eq_true rfl) rfl ?_
      refine r_aload_n 13 dL_law_919 rfl ?_
      refine k_Vm (x := (xx + 8)) (y := (yy + 48)) (rest := []) dL_law_920 kv_L_272 (ap_eveningsUntilOneStory hJ30) rfl rfl (List.mem_append_left _ hc77) rfl (Nat.le_of_ble_eq_true rfl) (by decide) (by decide) ?_
      rintro u31 hJ31
      obtain ⟨fs80, hc79⟩ := CI.cell hJ31
      show R g (mL_law nm) 1400 (xx + 8) (yy + 48) 923 [(20, .int (nI (LIs cl (evS cl nt os k9 (d, ev, cr)).1 nt).2.2)), (19, .int (nI k9)), (18, .int (dbF d sm)), (17, .int (nI le)), (16, .int (nI sm)), (15, .int bv), (10, .int (nI (pnS cl d nt nt))), (9, .int (nI (LIs cl d nt).2.2)), (7, .long (dgS ne nt cl d ev cr)), (6, .int x), (5, .int (nI tm)), (4, .int (nI nt)), (3, .ref s), (1, .ref (ad 0)), (0, .ref (gb g))] [.int (unS cl nt os (d, ev, cr))] (u31 ++ (sB ++ t)) Q
      refine r_istore [(21, .int (unS cl nt os (d, ev, cr))), (20, .int (nI (LIs cl (evS cl nt os k9 (d, ev, cr)).1 nt).2.2)), (19, .int (nI k9)), (18, .int (dbF d sm)), (17, .int (nI le)), (16, .int (nI sm)), (15, .int bv), (10, .int (nI (pnS cl d nt nt))), (9, .int (nI (LIs cl d nt).2.2)), (7, .long (dgS ne nt cl d ev cr)), (6, .int x), (5, .int (nI tm)), (4, .int (nI nt)), (3, .ref s), (1, .ref (ad 0)), (0, .ref (gb g))] dL_law_923 (Nat.le_of_ble_eq_true rfl) rfl ?_
      refine r_iload 0 dL_law_925 rfl ?_
      have e00 : (LIs cl (evS cl nt os 0 (d, ev, cr)).1 nt).2.2 = (LIs cl d nt).2.2 := rfl
      rcases f_until (os := os) (q := (d, ev, cr)) hA hn10 with ⟨eu, hno⟩ | ⟨n, hn30, eu, hz, hno⟩
      · have hl0 : ¬ (LIs cl d nt).2.2 = 0 := hno 0 (Nat.zero_le _)
        refine r_if_ne (tgt := 934) dL_law_927 (by decide) (fun _ => ?_) (fun hc => absurd hc (by rw [eu]; decide))
        refine r_iconst (v := (0 : Int32)) dL_law_934 (by decide) ?_
        refine r_iload 8 dL_law_935 rfl ?_
        refine r_if_ne (tgt := 944) dL_law_937 (by decide) (fun _ => ?_) (fun hc => absurd hc (nI_ne0 (by omega) (by omega)))
        refine r_iconst (v := (0 : Int32)) dL_law_944 (by decide) ?_
        refine r_icmp_ne (tgt := 958) dL_law_945 (by decide) (fun hc => absurd (rfl) hc) (fun _ => ?_)
        refine r_aload_n 14 dL_law_948 rfl ?_
        refine k_Vm (x := (xx + 8)) (y := (yy + 48)) (rest := []) dL_law_949 kv_L_200 (ap_digest hJ31) rfl rfl (List.mem_append_left _ hc79) rfl (Nat.le_of_ble_eq_true rfl) (by decide) (by decide) ?_
        rintro u32 hJ32
        obtain ⟨fs82, hc81⟩ := CI.cell hJ32
        show R g (mL_law nm) 1400 (xx + 8) (yy + 48) 952 [(21, .int (unS cl nt os (d, ev, cr))), (20, .int (nI (LIs cl (evS cl nt os k9 (d, ev, cr)).1 nt).2.2)), (19, .int (nI k9)), (18, .int (dbF d sm)), (17, .int (nI le)), (16, .int (nI sm)), (15, .int bv), (10, .int (nI (pnS cl d nt nt))), (9, .int (nI (LIs cl d nt).2.2)), (7, .long (dgS ne nt cl d ev cr)), (6, .int x), (5, .int (nI tm)), (4, .int (nI nt)), (3, .ref s), (1, .ref (ad 0)), (0, .ref (gb g))] [.long (dgS ne nt cl d ev cr)] (u32 ++ (sB ++ t)) Q
        refine r_lload 9 dL_law_952 rfl ?_
        refine r_lcmp dL_law_954 ?_
        refine r_top (w := .int (0 : Int32)) (congrArg Value.int (lcmp_0 _)) ?_
        refine r_if_eq (tgt := 960) dL_law_955 (by decide) (fun _ => ?_) (fun hc => absurd (rfl) hc)
        refine r_ls [0, 1, 2, 11, 12, 13, 14, 15] (ls2 := [(21, .int (unS cl nt os (d, ev, cr))), (20, .int (nI (LIs cl (evS cl nt os k9 (d, ev, cr)).1 nt).2.2)), (19, .int (nI k9)), (5, .int (nI tm)), (4, .int (nI nt)), (3, .ref s), (1, .ref (ad 0)), (0, .ref (gb g))]) rfl ?_
        refine r_room (x2 := xx) (y2 := yy) (by omega) (by omega) ?_
        exact K k9 (by omega) (by omega) _ hJ32
      · by_cases hn0 : n = 0
        · have hl0 : (LIs cl d nt).2.2 = 0 := by rw [hn0] at hz; exact hz
          refine r_if_ne (tgt := 934) dL_law_927 (by decide) (fun hc => absurd (by rw [eu, hn0]; rfl) hc) (fun _ => ?_)
          refine r_iconst (v := (1 : Int32)) dL_law_930 (by decide) ?_
          refine r_goto (tgt := 935) dL_law_931 (by decide) ?_
          refine r_iload 8 dL_law_935 rfl ?_
          refine r_if_ne (tgt := 944) dL_law_937 (by decide) (fun hc => absurd (by rw [hl0]; rfl) hc) (fun _ => ?_)
          refine r_iconst (v := (1 : Int32)) dL_law_940 (by decide) ?_
          refine r_goto (tgt := 945) dL_law_941 (by decide) ?_
          refine r_icmp_ne (tgt := 958) dL_law_945 (by decide) (fun hc => absurd (rfl) hc) (fun _ => ?_)
          refine r_aload_n 14 dL_law_948 rfl ?_
          refine k_Vm (x := (xx + 8)) (y := (yy + 48)) (rest := []) dL_law_949 kv_L_200 (ap_digest hJ31) rfl rfl (List.mem_append_left _ hc79) rfl (Nat.le_of_ble_eq_true rfl) (by decide) (by decide) ?_
          rintro u33 hJ33
          obtain ⟨fs84, hc83⟩ := CI.cell hJ33
          show R g (mL_law nm) 1400 (xx + 8) (yy + 48) 952 [(21, .int (unS cl nt os (d, ev, cr))), (20, .int (nI (LIs cl (evS cl nt os k9 (d, ev, cr)).1 nt).2.2)), (19, .int (nI k9)), (18, .int (dbF d sm)), (17, .int (nI le)), (16, .int (nI sm)), (15, .int bv), (10, .int (nI (pnS cl d nt nt))), (9, .int (nI (LIs cl d nt).2.2)), (7, .long (dgS ne nt cl d ev cr)), (6, .int x), (5, .int (nI tm)), (4, .int (nI nt)), (3, .ref s), (1, .ref (ad 0)), (0, .ref (gb g))] [.long (dgS ne nt cl d ev cr)] (u33 ++ (sB ++ t)) Q
          refine r_lload 9 dL_law_952 rfl ?_
          refine r_lcmp dL_law_954 ?_
          refine r_top (w := .int (0 : Int32)) (congrArg Value.int (lcmp_0 _)) ?_
          refine r_if_eq (tgt := 960) dL_law_955 (by decide) (fun _ => ?_) (fun hc => absurd (rfl) hc)
          refine r_ls [0, 1, 2, 11, 12, 13, 14, 15] (ls2 := [(21, .int (unS cl nt os (d, ev, cr))), (20, .int (nI (LIs cl (evS cl nt os k9 (d, ev, cr)).1 nt).2.2)), (19, .int (nI k9)), (5, .int (nI tm)), (4, .int (nI nt)), (3, .ref s), (1, .ref (ad 0)), (0, .ref (gb g))]) rfl ?_
          refine r_room (x2 := xx) (y2 := yy) (by omega) (by omega) ?_
          exact K k9 (by omega) (by omega) _ hJ33
        · have hl0 : ¬ (LIs cl d nt).2.2 = 0 := hno 0 (by omega)
          refine r_if_ne (tgt := 934) dL_law_927 (by decide) (fun _ => ?_) (fun hc => absurd hc (by rw [eu]; exact nI_ne0 (by omega) (by omega)))
          refine r_iconst (v := (0 : Int32)) dL_law_934 (by decide) ?_
          refine r_iload 8 dL_law_935 rfl ?_
          refine r_if_ne (tgt := 944) dL_law_937 (by decide) (fun _ => ?_) (fun hc => absurd hc (nI_ne0 (by omega) (by omega)))
          refine r_iconst (v := (0 : Int32)) dL_law_944 (by decide) ?_
          refine r_icmp_ne (tgt := 958) dL_law_945 (by decide) (fun hc => absurd (rfl) hc) (fun _ => ?_)
          refine r_aload_n 14 dL_law_948 rfl ?_
          refine k_Vm (x := (xx + 8)) (y := (yy + 48)) (rest := []) dL_law_949 kv_L_200 (ap_digest hJ31) rfl rfl (List.mem_append_left _ hc79) rfl (Nat.le_of_ble_eq_true rfl) (by decide) (by decide) ?_
          rintro u34 hJ34
          obtain ⟨fs86, hc85⟩ := CI.cell hJ34
          show R g (mL_law nm) 1400 (xx + 8) (yy + 48) 952 [(21, .int (unS cl nt os (d, ev, cr))), (20, .int (nI (LIs cl (evS cl nt os k9 (d, ev, cr)).1 nt).2.2)), (19, .int (nI k9)), (18, .int (dbF d sm)), (17, .int (nI le)), (16, .int (nI sm)), (15, .int bv), (10, .int (nI (pnS cl d nt nt))), (9, .int (nI (LIs cl d nt).2.2)), (7, .long (dgS ne nt cl d ev cr)), (6, .int x), (5, .int (nI tm)), (4, .int (nI nt)), (3, .ref s), (1, .ref (ad 0)), (0, .ref (gb g))] [.long (dgS ne nt cl d ev cr)] (u34 ++ (sB ++ t)) Q
          refine r_lload 9 dL_law_952 rfl ?_
          refine r_lcmp dL_law_954 ?_
          refine r_top (w := .int (0 : Int32)) (congrArg Value.int (lcmp_0 _)) ?_
          refine r_if_eq (tgt := 960) dL_law_955 (by decide) (fun _ => ?_) (fun hc => absurd (rfl) hc)
          refine r_ls [0, 1, 2, 11, 12, 13, 14, 15] (ls2 := [(21, .int (unS cl nt os (d, ev, cr))), (20, .int (nI (LIs cl (evS cl nt os k9 (d, ev, cr)).1 nt).2.2)), (19, .int (nI k9)), (5, .int (nI tm)), (4, .int (nI nt)), (3, .ref s), (1, .ref (ad 0)), (0, .ref (gb g))]) rfl ?_
          refine r_room (x2 := xx) (y2 := yy) (by omega) (by omega) ?_
          exact K k9 (by omega) (by omega) _ hJ34
    cases hb : d.testBit sm with
    | false =>
      have hx : (d ^^^ 2 ^ sm) = d ||| 2 ^ sm := (or_off hb).1.symm
      have hw0 : dbF d sm = 0 := dbF_f hb
      obtain ⟨f1, f2⟩ := f_doubt hA hn10 hsm hb
      rw [← hx] at f1 f2
      have hm9 := hmin sm hsm
      rw [← hx] at hm9 hfst
      refine r_iload 0 dL_law_800 rfl ?_
      refine r_if_ne (tgt := 850) dL_law_802 (by decide) (fun hc => absurd (hw0) hc) (fun _ => ?_)
      refine r_aload_n 11 dL_law_805 rfl ?_
      refine k_Vm (x := (xx + 18)) (y := (yy + 108)) (rest := []) dL_law_806 kv_L_219 (ap_liars hJ27) rfl rfl (List.mem_append_left _ hc69) rfl (Nat.le_of_ble_eq_true rfl) (by decide) (by decide) ?_
      rintro u35 hJ35
      obtain ⟨fs88, hc87⟩ := CI.cell hJ35
      show R g (mL_law nm) 1400 (xx + 18) (yy + 108) 809 [(18, .int (dbF d sm)), (17, .int (nI le)), (16, .int (nI sm)), (15, .int bv), (10, .int (nI (pnS cl d nt nt))), (9, .int (nI (LIs cl d nt).2.2)), (7, .long (dgS ne nt cl d ev cr)), (6, .int x), (5, .int (nI tm)), (4, .int (nI nt)), (3, .ref s), (1, .ref (ad 0)), (0, .ref (gb g))] [.int (nI (LIs cl (d ^^^ 2 ^ sm) nt).2.2)] (u35 ++ (sB ++ t)) Q
      refine r_iload 5 dL_law_809 rfl ?_
      refine r_icmp_gt (tgt := 896) dL_law_811 (by decide) (fun hc => absurd hc (nI_nlt f1 (by omega))) (fun _ => ?_)
      refine r_aload_n 11 dL_law_814 rfl ?_
      refine k_Vm (x := (xx + 18)) (y := (yy + 108)) (rest := []) dL_law_815 kv_L_219 (ap_liars hJ35) rfl rfl (List.mem_append_left _ hc87) rfl (Nat.le_of_ble_eq_true rfl) (by decide) (by decide) ?_
      rintro u36 hJ36
      obtain ⟨fs90, hc89⟩ := CI.cell hJ36
      show R g (mL_law nm) 1400 (xx + 18) (yy + 108) 818 [(18, .int (dbF d sm)), (17, .int (nI le)), (16, .int (nI sm)), (15, .int bv), (10, .int (nI (pnS cl d nt nt))), (9, .int (nI (LIs cl d nt).2.2)), (7, .long (dgS ne nt cl d ev cr)), (6, .int x), (5, .int (nI tm)), (4, .int (nI nt)), (3, .ref s), (1, .ref (ad 0)), (0, .ref (gb g))] [.int (nI (LIs cl (d ^^^ 2 ^ sm) nt).2.2)] (u36 ++ (sB ++ t)) Q
      refine r_iload 5 dL_law_818 rfl ?_
      refine r_iconst (v := (1 : Int32)) dL_law_820 (by decide) ?_
      refine r_isub dL_law_821 ?_
      refine r_icmp_lt (tgt := 896) dL_law_822 (by decide) (fun hc => absurd hc (lt_sub1 (by omega) (by omega) f2)) (fun _ => ?_)
      refine r_aload_n 11 dL_law_825 rfl ?_
      refine k_Vm (x := (xx + 18)) (y := (yy + 108)) (rest := []) dL_law_826 kv_L_222 (ap_contradictions hJ36) rfl rfl (List.mem_append_left _ hc89) rfl (Nat.le_of_ble_eq_true rfl) (by decide) (by decide) ?_
      rintro u37 hJ37
      obtain ⟨fs92, hc91⟩ := CI.cell hJ37
      show R g (mL_law nm) 1400 (xx + 18) (yy + 108) 829 [(18, .int (dbF d sm)), (17, .int (nI le)), (16, .int (nI sm)), (15, .int bv), (10, .int (nI (pnS cl d nt nt))), (9, .int (nI (LIs cl d nt).2.2)), (7, .long (dgS ne nt cl d ev cr)), (6, .int x), (5, .int (nI tm)), (4, .int (nI nt)), (3, .ref s), (1, .ref (ad 0)), (0, .ref (gb g))] [.int (nI (pnS cl (d ^^^ 2 ^ sm) nt nt))] (u37 ++ (sB ++ t)) Q
      refine r_iload 1 dL_law_829 rfl ?_
      refine r_icmp_lt (tgt := 896) dL_law_831 (by decide) (fun hc => absurd hc (nI_nlt hm9 (by omega))) (fun _ => ?_)
      refine r_aload_n 11 dL_law_834 rfl ?_
      refine k_Vm (x := (xx + 18)) (y := (yy + 108)) (rest := []) dL_law_835 kv_L_222 (ap_contradictions hJ37) rfl rfl (List.mem_append_left _ hc91) rfl (Nat.le_of_ble_eq_true rfl) (by decide) (by decide) ?_
      rintro u38 hJ38
      obtain ⟨fs94, hc93⟩ := CI.cell hJ38
      show R g (mL_law nm) 1400 (xx + 18) (yy + 108) 838 [(18, .int (dbF d sm)), (17, .int (nI le)), (16, .int (nI sm)), (15, .int bv), (10, .int (nI (pnS cl d nt nt))), (9, .int (nI (LIs cl d nt).2.2)), (7, .long (dgS ne nt cl d ev cr)), (6, .int x), (5, .int (nI tm)), (4, .int (nI nt)), (3, .ref s), (1, .ref (ad 0)), (0, .ref (gb g))] [.int (nI (pnS cl (d ^^^ 2 ^ sm) nt nt))] (u38 ++ (sB ++ t)) Q
      refine r_iload 1 dL_law_838 rfl ?_
      refine r_icmp_ne (tgt := 850) dL_law_840 (by decide) (fun h7 => ?_) (fun h7 => ?_)
      · refine r_iload 0 dL_law_850 rfl ?_
        refine r_if_eq (tgt := 875) dL_law_852 (by decide) (fun _ => ?_) (fun hc => absurd (hw0) hc)
        refine r_room (x2 := xx + 10) (y2 := yy + 60) (by omega) (by omega) ?_
        refine r_ls [0, 1, 2, 3, 4, 5, 6, 7, 8, 9, 10, 11, 12] (ls2 := [(18, .int (dbF d sm)), (17, .int (nI le)), (16, .int (nI sm)), (15, .int bv), (10, .int (nI (pnS cl d nt nt))), (9, .int (nI (LIs cl d nt).2.2)), (7, .long (dgS ne nt cl d ev cr)), (6, .int x), (5, .int (nI tm)), (4, .int (nI nt)), (3, .ref s), (1, .ref (ad 0)), (0, .ref (gb g))]) rfl ?_
        exact J875 _ hJ38
      · have h8 := hfst ((nI_eq (by omega) (by omega)).mp h7)
        refine r_iload 2 dL_law_843 rfl ?_
        refine r_iload 3 dL_law_845 rfl ?_
        refine r_icmp_lt (tgt := 896) dL_law_847 (by decide) (fun hc => absurd hc (Int32.not_lt.mpr h8)) (fun _ => ?_)
        refine r_iload 0 dL_law_850 rfl ?_
        refine r_if_eq (tgt := 875) dL_law_852 (by decide) (fun _ => ?_) (fun hc => absurd (hw0) hc)
        refine r_room (x2 := xx + 10) (y2 := yy + 60) (by omega) (by omega) ?_
        refine r_ls [0, 1, 2, 3, 4, 5, 6, 7, 8, 9, 10, 11, 12] (ls2 := [(18, .int (dbF d sm)), (17, .int (nI le)), (16, .int (nI sm)), (15, .int bv), (10, .int (nI (pnS cl d nt nt))), (9, .int (nI (LIs cl d nt).2.2)), (7, .long (dgS ne nt cl d ev cr)), (6, .int x), (5, .int (nI tm)), (4, .int (nI nt)), (3, .ref s), (1, .ref (ad 0)), (0, .ref (gb g))]) rfl ?_
        exact J875 _ hJ38
    | true =>
      have hw1 : dbF d sm = 1 := dbF_t hb
      have hxb : (d ^^^ 2 ^ sm).testBit sm = false := by rw [xor_bit, hb]; rfl
      obtain ⟨f1, f2⟩ := f_doubt (d := (d ^^^ 2 ^ sm)) hA hn10 hsm hxb
      rw [xor_on hb] at f1 f2
      refine r_iload 0 dL_law_800 rfl ?_
      refine r_if_ne (tgt := 850) dL_law_802 (by decide) (fun _ => ?_) (fun hc => absurd hc (by rw [hw1]; decide))
      refine r_iload 0 dL_law_850 rfl ?_
      refine r_if_eq (tgt := 875) dL_law_852 (by decide) (fun hc => absurd hc (by rw [hw1]; decide)) (fun _ => ?_)
      refine r_aload_n 11 dL_law_855 rfl ?_
      refine k_Vm (x := (xx + 18)) (y := (yy + 108)) (rest := []) dL_law_856 kv_L_219 (ap_liars hJ27) rfl rfl (List.mem_append_left _ hc69) rfl (Nat.le_of_ble_eq_true rfl) (by decide) (by decide) ?_
      rintro u39 hJ39
      obtain ⟨fs96, hc95⟩ := CI.cell hJ39
      show R g (mL_law nm) 1400 (xx + 18) (yy + 108) 859 [(18, .int (dbF d sm)), (17, .int (nI le)), (16, .int (nI sm)), (15, .int bv), (10, .int (nI (pnS cl d nt nt))), (9, .int (nI (LIs cl d nt).2.2)), (7, .long (dgS ne nt cl d ev cr)), (6, .int x), (5, .int (nI tm)), (4, .int (nI nt)), (3, .ref s), (1, .ref (ad 0)), (0, .ref (gb g))] [.int (nI (LIs cl (d ^^^ 2 ^ sm) nt).2.2)] (u39 ++ (sB ++ t)) Q
      refine r_iload 5 dL_law_859 rfl ?_
      refine r_icmp_lt (tgt := 896) dL_law_861 (by decide) (fun hc => absurd hc (nI_nlt f1 (by omega))) (fun _ => ?_)
      refine r_aload_n 11 dL_law_864 rfl ?_
      refine k_Vm (x := (xx + 18)) (y := (yy + 108)) (rest := []) dL_law_865 kv_L_219 (ap_liars hJ39) rfl rfl (List.mem_append_left _ hc95) rfl (Nat.le_of_ble_eq_true rfl) (by decide) (by decide) ?_
      rintro u40 hJ40
      obtain ⟨fs98, hc97⟩ := CI.cell hJ40
      show R g (mL_law nm) 1400 (xx + 18) (yy + 108) 868 [(18, .int (dbF d sm)), (17, .int (nI le)), (16, .int (nI sm)), (15, .int bv), (10, .int (nI (pnS cl d nt nt))), (9, .int (nI (LIs cl d nt).2.2)), (7, .long (dgS ne nt cl d ev cr)), (6, .int x), (5, .int (nI tm)), (4, .int (nI nt)), (3, .ref s), (1, .ref (ad 0)), (0, .ref (gb g))] [.int (nI (LIs cl (d ^^^ 2 ^ sm) nt).2.2)] (u40 ++ (sB ++ t)) Q
      refine r_iload 5 dL_law_868 rfl ?_
      refine r_iconst (v := (1 : Int32)) dL_law_870 (by decide) ?_
      refine r_iadd dL_law_871 ?_
      refine r_top (w := .int (nI ((LIs cl d nt).2.2 + 1))) (by rw [nI_1]) ?_
      refine r_icmp_gt (tgt := 896) dL_law_872 (by decide) (fun hc => absurd hc (nI_nlt f2 (by omega))) (fun _ => ?_)
      refine r_room (x2 := xx + 10) (y2 := yy + 60) (by omega) (by omega) ?_
      refine r_ls [0, 1, 2, 3, 4, 5, 6, 7, 8, 9, 10, 11, 12] (ls2 := [(18, .int (dbF d sm)), (17, .int (nI le)), (16, .int (nI sm)), (15, .int bv), (10, .int (nI (pnS cl d nt nt))), (9, .int (nI (LIs cl d nt).2.2)), (7, .long (dgS ne nt cl d ev cr)), (6, .int x), (5, .int (nI tm)), (4, .int (nI nt)), (3, .ref s), (1, .ref (ad 0)), (0, .ref (gb g))]) rfl ?_
      exact J875 _ hJ40
  refine r_iload 1 dL_law_693 rfl ?_
  rcases f_best (cl := cl) (d := d) (nt := nt) with ⟨eb, e0⟩ | ⟨b, hb, eb, db, hlt, hmin, hfst⟩
  · refine r_if_ge (tgt := 702) dL_law_695 (by decide) (fun hc => absurd hc (by rw [eb]; decide)) (fun _ => ?_)
    refine r_iconst (v := (1 : Int32)) dL_law_698 (by decide) ?_
    refine r_goto (tgt := 703) dL_law_699 (by decide) ?_
    refine r_iload 2 dL_law_703 rfl ?_
    refine r_if_ne (tgt := 712) dL_law_705 (by decide) (fun hc => absurd (by rw [e0]; rfl) hc) (fun _ => ?_)
    refine r_iconst (v := (1 : Int32)) dL_law_708 (by decide) ?_
    refine r_goto (tgt := 713) dL_law_709 (by decide) ?_
    refine r_icmp_ne (tgt := 726) dL_law_713 (by decide) (fun hc => absurd (rfl) hc) (fun _ => ?_)
    refine r_aload_n 9 dL_law_716 rfl ?_
    refine k_Vm (x := (xx + 30)) (y := (yy + 180)) (rest := []) dL_law_717 kv_L_200 (ap_digest hJ25) rfl rfl (List.mem_append_left _ hc63) rfl (Nat.le_of_ble_eq_true rfl) (by decide) (by decide) ?_
    rintro u41 hJ41
    obtain ⟨fs100, hc99⟩ := CI.cell hJ41
    show R g (mL_law nm) 1400 (xx + 30) (yy + 180) 720 [(16, .int (nI sm)), (15, .int (bsS cl d nt nt).1), (10, .int (nI (pnS cl d nt nt))), (9, .int (nI (LIs cl d nt).2.2)), (7, .long (dgS ne nt cl d ev cr)), (6, .int x), (5, .int (nI tm)), (4, .int (nI nt)), (3, .ref s), (1, .ref (ad 0)), (0, .ref (gb g))] [.long (dgS ne nt cl d ev cr)] (u41 ++ (sB ++ t)) Q
    refine r_lload 4 dL_law_720 rfl ?_
    refine r_lcmp dL_law_722 ?_
    refine r_top (w := .int (0 : Int32)) (congrArg Value.int (lcmp_0 _)) ?_
    refine r_if_eq (tgt := 728) dL_law_723 (by decide) (fun _ => ?_) (fun hc => absurd (rfl) hc)
    refine r_iload 2 dL_law_728 rfl ?_
    refine r_istore [(17, .int (nI (pnS cl d nt nt))), (16, .int (nI sm)), (15, .int (bsS cl d nt nt).1), (10, .int (nI (pnS cl d nt nt))), (9, .int (nI (LIs cl d nt).2.2)), (7, .long (dgS ne nt cl d ev cr)), (6, .int x), (5, .int (nI tm)), (4, .int (nI nt)), (3, .ref s), (1, .ref (ad 0)), (0, .ref (gb g))] dL_law_730 (Nat.le_of_ble_eq_true rfl) rfl ?_
    refine r_iload 2 dL_law_732 rfl ?_
    refine r_if_lt (tgt := 781) dL_law_734 (by decide) (fun _ => ?_) (fun hc => absurd (by rw [eb]; decide) hc)
    refine r_ls [0, 1, 2, 3, 4, 5, 6, 7, 8, 9, 10, 11] (ls2 := [(17, .int (nI (pnS cl d nt nt))), (16, .int (nI sm)), (15, .int (bsS cl d nt nt).1), (10, .int (nI (pnS cl d nt nt))), (9, .int (nI (LIs cl d nt).2.2)), (7, .long (dgS ne nt cl d ev cr)), (6, .int x), (5, .int (nI tm)), (4, .int (nI nt)), (3, .ref s), (1, .ref (ad 0)), (0, .ref (gb g))]) rfl ?_
    refine r_room (x2 := xx + 20) (y2 := yy + 120) (by omega) (by omega) ?_
    exact J781 _ _ (by omega) (fun j hj => by rw [e0]; exact Nat.zero_le _) (fun _ => by rw [eb]; exact Int32.le_trans (show (-1 : Int32) ≤ 0 by decide) (nI_leI0 sm (by omega))) _ hJ41
  · have hxb : (d ^^^ 2 ^ b) = d ||| 2 ^ b := (or_off db).1.symm
    refine r_if_ge (tgt := 702) dL_law_695 (by decide) (fun _ => ?_) (fun hc => absurd (by rw [eb]; exact nI_leI0 b (by omega)) hc)
    refine r_iconst (v := (0 : Int32)) dL_law_702 (by decide) ?_
    refine r_iload 2 dL_law_703 rfl ?_
    refine r_if_ne (tgt := 712) dL_law_705 (by decide) (fun _ => ?_) (fun hc => absurd hc (nI_ne0 (by omega) (by omega)))
    refine r_iconst (v := (0 : Int32)) dL_law_712 (by decide) ?_
    refine r_icmp_ne (tgt := 726) dL_law_713 (by decide) (fun hc => absurd (rfl) hc) (fun _ => ?_)
    refine r_aload_n 9 dL_law_716 rfl ?_
    refine k_Vm (x := (xx + 30)) (y := (yy + 180)) (rest := []) dL_law_717 kv_L_200 (ap_digest hJ25) rfl rfl (List.mem_append_left _ hc63) rfl (Nat.le_of_ble_eq_true rfl) (by decide) (by decide) ?_
    rintro u42 hJ42
    obtain ⟨fs102, hc101⟩ := CI.cell hJ42
    show R g (mL_law nm) 1400 (xx + 30) (yy + 180) 720 [(16, .int (nI sm)), (15, .int (bsS cl d nt nt).1), (10, .int (nI (pnS cl d nt nt))), (9, .int (nI (LIs cl d nt).2.2)), (7, .long (dgS ne nt cl d ev cr)), (6, .int x), (5, .int (nI tm)), (4, .int (nI nt)), (3, .ref s), (1, .ref (ad 0)), (0, .ref (gb g))] [.long (dgS ne nt cl d ev cr)] (u42 ++ (sB ++ t)) Q
    refine r_lload 4 dL_law_720 rfl ?_
    refine r_lcmp dL_law_722 ?_
    refine r_top (w := .int (0 : Int32)) (congrArg Value.int (lcmp_0 _)) ?_
    refine r_if_eq (tgt := 728) dL_law_723 (by decide) (fun _ => ?_) (fun hc => absurd (rfl) hc)
    refine r_iload 2 dL_law_728 rfl ?_
    refine r_istore [(17, .int (nI (pnS cl d nt nt))), (16, .int (nI sm)), (15, .int (bsS cl d nt nt).1), (10, .int (nI (pnS cl d nt nt))), (9, .int (nI (LIs cl d nt).2.2)), (7, .long (dgS ne nt cl d ev cr)), (6, .int x), (5, .int (nI tm)), (4, .int (nI nt)), (3, .ref s), (1, .ref (ad 0)), (0, .ref (gb g))] dL_law_730 (Nat.le_of_ble_eq_true rfl) rfl ?_
    refine r_iload 2 dL_law_732 rfl ?_
    refine r_if_lt (tgt := 781) dL_law_734 (by decide) (fun hc => absurd hc (by rw [eb]; exact nI_nlt0 b (by omega))) (fun _ => ?_)
    refine r_aload_n 10 dL_law_737 rfl ?_
    refine r_iload 2 dL_law_738 rfl ?_
    refine r_top (w := .int (nI b)) (by rw [eb]) ?_
    refine r_room (x2 := (xx + 29) + 1) (y2 := (yy + 174) + 6) (rq rfl) (rq rfl) ?_
    refine k_Vm (x := (xx + 29)) (y := (yy + 174)) (rest := []) dL_law_740 kv_L_173 (ap_turnDoubt (a := b) hJ42 hb) rfl rfl (List.mem_append_left _ hc101) rfl (Nat.le_of_ble_eq_true rfl) (by decide) (by decide) ?_
    rintro u43 hJ43
    obtain ⟨fs104, hc103⟩ := CI.cell hJ43
    show R g (mL_law nm) 1400 (xx + 29) (yy + 174) 743 [(17, .int (nI (pnS cl d nt nt))), (16, .int (nI sm)), (15, .int (bsS cl d nt nt).1), (10, .int (nI (pnS cl d nt nt))), (9, .int (nI (LIs cl d nt).2.2)), (7, .long (dgS ne nt cl d ev cr)), (6, .int x), (5, .int (nI tm)), (4, .int (nI nt)), (3, .ref s), (1, .ref (ad 0)), (0, .ref (gb g))] [.int (bI (!d.testBit b))] (u43 ++ (sB ++ t)) Q
    refine r_if_ne (tgt := 748) dL_law_743 (by decide) (fun _ => ?_) (fun hc => absurd hc (by rw [db]; decide))
    refine r_aload_n 10 dL_law_748 rfl ?_
    refine k_Vm (x := (xx + 29)) (y := (yy + 174)) (rest := []) dL_law_749 kv_L_222 (ap_contradictions hJ43) rfl rfl (List.mem_append_left _ hc103) rfl (Nat.le_of_ble_eq_true rfl) (by decide) (by decide) ?_
    rintro u44 hJ44
    obtain ⟨fs106, hc105⟩ := CI.cell hJ44
    show R g (mL_law nm) 1400 (xx + 29) (yy + 174) 752 [(17, .int (nI (pnS cl d nt nt))), (16, .int (nI sm)), (15, .int (bsS cl d nt nt).1), (10, .int (nI (pnS cl d nt nt))), (9, .int (nI (LIs cl d nt).2.2)), (7, .long (dgS ne nt cl d ev cr)), (6, .int x), (5, .int (nI tm)), (4, .int (nI nt)), (3, .ref s), (1, .ref (ad 0)), (0, .ref (gb g))] [.int (nI (pnS cl (d ^^^ 2 ^ b) nt nt))] (u44 ++ (sB ++ t)) Q
    refine r_istore [(17, .int (nI (pnS cl (d ^^^ 2 ^ b) nt nt))), (16, .int (nI sm)), (15, .int (bsS cl d nt nt).1), (10, .int (nI (pnS cl d nt nt))), (9, .int (nI (LIs cl d nt).2.2)), (7, .long (dgS ne nt cl d ev cr)), (6, .int x), (5, .int (nI tm)), (4, .int (nI nt)), (3, .ref s), (1, .ref (ad 0)), (0, .ref (gb g))] dL_law_752 (Nat.le_of_ble_eq_true rfl) rfl ?_
    refine r_iload 0 dL_law_754 rfl ?_
    refine r_iload 3 dL_law_756 rfl ?_
    refine r_icmp_ge (tgt := 779) dL_law_758 (by decide) (fun hc => absurd hc (by rw [hxb]; exact nI_ge hlt (by omega))) (fun _ => ?_)
    refine r_aload_n 10 dL_law_761 rfl ?_
    refine r_iload 2 dL_law_762 rfl ?_
    refine r_top (w := .int (nI b)) (by rw [eb]) ?_
    refine r_room (x2 := (xx + 28) + 1) (y2 := (yy + 168) + 6) (rq rfl) (rq rfl) ?_
    refine k_Vm (x := (xx + 28)) (y := (yy + 168)) (rest := []) dL_law_764 kv_L_173 (ap_turnDoubt (a := b) hJ44 hb) rfl rfl (List.mem_append_left _ hc105) rfl (Nat.le_of_ble_eq_true rfl) (by decide) (by decide) ?_
    rintro u45 hJ45
    obtain ⟨fs108, hc107⟩ := CI.cell hJ45
    show R g (mL_law nm) 1400 (xx + 28) (yy + 168) 767 [(17, .int (nI (pnS cl (d ^^^ 2 ^ b) nt nt))), (16, .int (nI sm)), (15, .int (bsS cl d nt nt).1), (10, .int (nI (pnS cl d nt nt))), (9, .int (nI (LIs cl d nt).2.2)), (7, .long (dgS ne nt cl d ev cr)), (6, .int x), (5, .int (nI tm)), (4, .int (nI nt)), (3, .ref s), (1, .ref (ad 0)), (0, .ref (gb g))] [.int (bI (!(d ^^^ 2 ^ b).testBit b))] (u45 ++ (sB ++ t)) Q
    rw [xor_xor] at hJ45
    refine r_if_ne (tgt := 779) dL_law_767 (by decide) (fun hc => absurd (by rw [xor_bit, db]; rfl) hc) (fun _ => ?_)
    refine r_aload_n 10 dL_law_770 rfl ?_
    refine k_Vm (x := (xx + 28)) (y := (yy + 168)) (rest := []) dL_law_771 kv_L_222 (ap_contradictions hJ45) rfl rfl (List.mem_append_left _ hc107) rfl (Nat.le_of_ble_eq_true rfl) (by decide) (by decide) ?_
    rintro u46 hJ46
    obtain ⟨fs110, hc109⟩ := CI.cell hJ46
    show R g (mL_law nm) 1400 (xx + 28) (yy + 168) 774 [(17, .int (nI (pnS cl (d ^^^ 2 ^ b) nt nt))), (16, .int (nI sm)), (15, .int (bsS cl d nt nt).1), (10, .int (nI (pnS cl d nt nt))), (9, .int (nI (LIs cl d nt).2.2)), (7, .long (dgS ne nt cl d ev cr)), (6, .int x), (5, .int (nI tm)), (4, .int (nI nt)), (3, .ref s), (1, .ref (ad 0)), (0, .ref (gb g))] [.int (nI (pnS cl d nt nt))] (u46 ++ (sB ++ t)) Q
    refine r_iload 3 dL_law_774 rfl ?_
    refine r_icmp_eq (tgt := 781) dL_law_776 (by decide) (fun _ => ?_) (fun hc => absurd (rfl) hc)
    refine r_ls [0, 1, 2, 3, 4, 5, 6, 7, 8, 9, 10, 11] (ls2 := [(17, .int (nI (pnS cl (d ^^^ 2 ^ b) nt nt))), (16, .int (nI sm)), (15, .int (bsS cl d nt nt).1), (10, .int (nI (pnS cl d nt nt))), (9, .int (nI (LIs cl d nt).2.2)), (7, .long (dgS ne nt cl d ev cr)), (6, .int x), (5, .int (nI tm)), (4, .int (nI nt)), (3, .ref s), (1, .ref (ad 0)), (0, .ref (gb g))]) rfl ?_
    refine r_room (x2 := xx + 20) (y2 := yy + 120) (by omega) (by omega) ?_
    exact J781 _ _ (by rw [hxb]; omega) (fun j hj => by rw [hxb]; exact hmin j hj) (fun h => by rw [eb]; exact (nI_leI (by omega) (by omega)).mpr (Nat.le_of_not_lt (fun h9 => by have := hfst sm h9; rw [hxb] at h; omega))) _ hJ46
set_option maxRecDepth 20000 in
set_option maxHeartbeats 16000000 in
theorem law_E {nm : String} {g : GG} {ad : Nat → Nat} {t r : va_W} {Q : Rs → va_W → Prop} {s ne nt d tm : Nat} {cl : List (Nat → Int32)} {os : List OT} {ev cr x : Int32} {A : Nat → Nat} {u0 : va_W} {xx yy k9 aC aD aO aT : Nat} {ca oa : List Nat} (hI : CI g ad u0 ne nt cl os d ev cr) (hA : AcS cl A) (hC : SimR g r aC ca cl) (hO : OM g ne nt r aO aT oa os) (hV : CV ne nt ca cl) (hD : CD cl) (h1 : 1 ≤ k9) (h3 : k9 ≤ 3) (K : ∀ w9 : va_W, PS g ad s w9 ne nt cl os (evS cl nt os k9 (d, ev, cr)).1 (evS cl nt os k9 (d, ev, cr)).2.1 (evS cl nt os k9 (d, ev, cr)).2.2 → R g (mL_law nm) 1400 xx yy 1067 [(5, .int (nI tm)), (4, .int (nI nt)), (3, .ref s), (1, .ref (ad 0)), (0, .ref (gb g))] [] (w9 ++ t) Q) : R g (mL_law nm) 1400 (xx + 4000) (yy + 39000) 960 [(21, .int (unS cl nt os (d, ev, cr))), (20, .int (nI (LIs cl (evS cl nt os k9 (d, ev, cr)).1 nt).2.2)), (19, .int (nI k9)), (5, .int (nI tm)), (4, .int (nI nt)), (3, .ref s), (1, .ref (ad 0)), (0, .ref (gb g))] [] ((s, .inr (10, [.int (nI ne), .int (nI nt), .ref aC, .ref aD, .ref aO, .ref aT, .int (evS cl nt os 0 (d, ev, cr)).2.1, .int (evS cl nt os 0 (d, ev, cr)).2.2])) :: ((aD, zA g 10 (dbF (evS cl nt os 0 (d, ev, cr)).1)) :: (u0 ++ (r ++ t)))) Q := by
  obtain ⟨n1, n2, n3, n4, hd, h40, -, -⟩ := CI.num hI
  have hn10 : nt ≤ 10 := by omega
  have hor := CI.or hI
  refine r_iconst (v := (0 : Int32)) dL_law_960 (by decide) ?_
  refine r_top (w := .int (nI 0)) (rfl) ?_
  refine r_istore [(22, .int (nI 0)), (21, .int (unS cl nt os (d, ev, cr))), (20, .int (nI (LIs cl (evS cl nt os k9 (d, ev, cr)).1 nt).2.2)), (19, .int (nI k9)), (5, .int (nI tm)), (4, .int (nI nt)), (3, .ref s), (1, .ref (ad 0)), (0, .ref (gb g))] dL_law_961 (Nat.le_of_ble_eq_true rfl) rfl ?_
  have LE : ∀ m k, m + k = k9 → ∀ u : va_W, CI g ad u ne nt cl os (evS cl nt os k (d, ev, cr)).1 (evS cl nt os k (d, ev, cr)).2.1 (evS cl nt os k (d, ev, cr)).2.2 → R g (mL_law nm) 1400 (1300 * m + xx) (13000 * m + yy) 963 [(22, .int (nI k)), (21, .int (unS cl nt os (d, ev, cr))), (20, .int (nI (LIs cl (evS cl nt os k9 (d, ev, cr)).1 nt).2.2)), (19, .int (nI k9)), (5, .int (nI tm)), (4, .int (nI nt)), (3, .ref s), (1, .ref (ad 0)), (0, .ref (gb g))] [] ((s, .inr (10, [.int (nI ne), .int (nI nt), .ref aC, .ref aD, .ref aO, .ref aT, .int (evS cl nt os k (d, ev, cr)).2.1, .int (evS cl nt os k (d, ev, cr)).2.2])) :: ((aD, zA g 10 (dbF (evS cl nt os k (d, ev, cr)).1)) :: (u ++ (r ++ t)))) Q := by
    intro m
    induction m with
    | zero =>
      intro k hk u hu
      have ek : k = k9 := by omega
      rw [ek] at hu ⊢
      obtain ⟨fs112, hc111⟩ := CI.cell hu
      refine r_room (x2 := xx) (y2 := yy) (by omega) (by omega) ?_
      refine r_iload 0 dL_law_963 rfl ?_
      refine r_iload 3 dL_law_965 rfl ?_
      refine r_icmp_ge (tgt := 1056) dL_law_967 (by decide) (fun _ => ?_) (fun hc => absurd (nI_le (Nat.le_refl _) (by omega)) hc)
      refine r_aload_n 7 dL_law_1056 rfl ?_
      refine r_seg (ws2 := (u ++ ([(s, .inr (10, [.int (nI ne), .int (nI nt), .ref aC, .ref aD, .ref aO, .ref aT, .int (evS cl nt os k9 (d, ev, cr)).2.1, .int (evS cl nt os k9 (d, ev, cr)).2.2])), (aD, zA g 10 (dbF (evS cl nt os k9 (d, ev, cr)).1))] ++ (r ++ t)))) [[(s, .inr (10, [.int (nI ne), .int (nI nt), .ref aC, .ref aD, .ref aO, .ref aT, .int (evS cl nt os k9 (d, ev, cr)).2.1, .int (evS cl nt os k9 (d, ev, cr)).2.2]))], [(aD, zA g 10 (dbF (evS cl nt os k9 (d, ev, cr)).1))], u, r, t] [2, 0, 1, 3, 4] rfl rfl rfl ?_
      refine k_Vm (x := xx) (y := yy) (rest := []) dL_law_1057 kv_L_219 (ap_liars hu) rfl rfl (List.mem_append_left _ hc111) rfl (Nat.le_of_ble_eq_true rfl) (by decide) (by decide) ?_
      rintro u47 hJ47
      obtain ⟨fs114, hc113⟩ := CI.cell hJ47
      refine r_seg (ws2 := ((s, .inr (10, [.int (nI ne), .int (nI nt), .ref aC, .ref aD, .ref aO, .ref aT, .int (evS cl nt os k9 (d, ev, cr)).2.1, .int (evS cl nt os k9 (d, ev, cr)).2.2])) :: ((aD, zA g 10 (dbF (evS cl nt os k9 (d, ev, cr)).1)) :: (u47 ++ (r ++ t))))) [u47, [(s, .inr (10, [.int (nI ne), .int (nI nt), .ref aC, .ref aD, .ref aO, .ref aT, .int (evS cl nt os k9 (d, ev, cr)).2.1, .int (evS cl nt os k9 (d, ev, cr)).2.2])), (aD, zA g 10 (dbF (evS cl nt os k9 (d, ev, cr)).1))], r, t] [1, 0, 2, 3] rfl rfl rfl ?_
      show R g (mL_law nm) 1400 xx yy 1060 [(22, .int (nI k9)), (21, .int (unS cl nt os (d, ev, cr))), (20, .int (nI (LIs cl (evS cl nt os k9 (d, ev, cr)).1 nt).2.2)), (19, .int (nI k9)), (5, .int (nI tm)), (4, .int (nI nt)), (3, .ref s), (1, .ref (ad 0)), (0, .ref (gb g))] [.int (nI (LIs cl (evS cl nt os k9 (d, ev, cr)).1 nt).2.2)] ((s, .inr (10, [.int (nI ne), .int (nI nt), .ref aC, .ref aD, .ref aO, .ref aT, .int (evS cl nt os k9 (d, ev, cr)).2.1, .int (evS cl nt os k9 (d, ev, cr)).2.2])) :: ((aD, zA g 10 (dbF (evS cl nt os k9 (d, ev, cr)).1)) :: (u47 ++ (r ++ t)))) Q
      refine r_iload 2 dL_law_1060 rfl ?_
      refine r_icmp_eq (tgt := 1067) dL_law_1062 (by decide) (fun _ => ?_) (fun hc => absurd (rfl) hc)
      refine r_ls [4, 5, 6, 7, 8] (ls2 := [(5, .int (nI tm)), (4, .int (nI nt)), (3, .ref s), (1, .ref (ad 0)), (0, .ref (gb g))]) rfl ?_
      refine r_wc (w3 := (simO s aC aD aO aT ne nt (evS cl nt os k9 (d, ev, cr)).2.1 (evS cl nt os k9 (d, ev, cr)).2.2 :: (aD, zA g 10 (dbF (evS cl nt os k9 (d, ev, cr)).1)) :: (u47 ++ r)) ++ t) (by simp only [List.cons_append, List.append_assoc]) ?_
      exact K _ ⟨aC, aD, aO, aT, ca, oa, u47, r, rfl, hJ47, hC, hO, hV, hD⟩
    | succ m ih =>
      intro k hk u hu
      have hk2 : k < k9 := by omega
      have hdk := hor k (d, ev, cr) hd
      have hfew := f_few (d := (evS cl nt os k (d, ev, cr)).1) hA hn10
      obtain ⟨fs116, hc115⟩ := CI.cell hu
      refine r_room (x2 := 1300 * m + xx + 1300) (y2 := 13000 * m + yy + 13000) (by omega) (by omega) ?_
      refine r_iload 0 dL_law_963 rfl ?_
      refine r_iload 3 dL_law_965 rfl ?_
      refine r_icmp_ge (tgt := 1056) dL_law_967 (by decide) (fun hc => absurd hc (nI_ge hk2 (by omega))) (fun _ => ?_)
      have J1023 :  ∀ u : va_W, CI g ad u ne nt cl os (evS cl nt os k (d, ev, cr)).1 (evS cl nt os k (d, ev, cr)).2.1 (evS cl nt os k (d, ev, cr)).2.2 → R g (mL_law nm) 1400 (1300 * m + xx + 1290) (13000 * m + yy + 12900) 1023 [(22, .int (nI k)), (21, .int (unS cl nt os (d, ev, cr))), (20, .int (nI (LIs cl (evS cl nt os k9 (d, ev, cr)).1 nt).2.2)), (19, .int (nI k9)), (5, .int (nI tm)), (4, .int (nI nt)), (3, .ref s), (1, .ref (ad 0)), (0, .ref (gb g))] [] ((s, .inr (10, [.int (nI ne), .int (nI nt), .ref aC, .ref aD, .ref aO, .ref aT, .int (evS cl nt os k (d, ev, cr)).2.1, .int (evS cl nt os k (d, ev, cr)).2.2])) :: ((aD, zA g 10 (dbF (evS cl nt os k (d, ev, cr)).1)) :: (u ++ (r ++ t)))) Q := by
        intro u hu
        obtain ⟨fs118, hc117⟩ := CI.cell hu
        refine r_aload_n 6 dL_law_1023 rfl ?_
        refine r_getf (v := .int (evS cl nt os k (d, ev, cr)).2.2) 0 dL_law_1024 fl_L_177 rfl rfl ?_
        refine r_istore [(23, .int (evS cl nt os k (d, ev, cr)).2.2), (22, .int (nI k)), (21, .int (unS cl nt os (d, ev, cr))), (20, .int (nI (LIs cl (evS cl nt os k9 (d, ev, cr)).1 nt).2.2)), (19, .int (nI k9)), (5, .int (nI tm)), (4, .int (nI nt)), (3, .ref s), (1, .ref (ad 0)), (0, .ref (gb g))] dL_law_1027 (Nat.le_of_ble_eq_true rfl) rfl ?_
        refine r_aload_n 7 dL_law_1029 rfl ?_
        refine r_room (x2 := (1300 * m + xx + 10) + 1280) (y2 := (13000 * m + yy + 100) + 12800) (rq rfl) (rq rfl) ?_
        refine k_V (x := (1300 * m + xx + 10)) (y := (13000 * m + yy + 100)) (rest := []) 0 dL_law_1030 kv_L_180 ((cl_pass (s := s) (aC := aC) (aD := aD) (aO := aO) (aT := aT) (ev := (evS cl nt os k (d, ev, cr)).2.1) (cr := (evS cl nt os k (d, ev, cr)).2.2) (d := (evS cl nt os k (d, ev, cr)).1) (SimR.mono hC (fun p hp => List.mem_append_right _ (List.mem_append_left _ hp))) (OM.mono hO (fun p hp => List.mem_append_right _ (List.mem_append_left _ hp))) hV n4 (by omega) n3).dq) rfl rfl rfl rfl (Nat.le_of_ble_eq_true rfl) (by decide) (by decide) ?_
        rintro ⟨⟩ -
        show R g (mL_law nm) 1400 (1300 * m + xx + 10) (13000 * m + yy + 100) 1033 [(23, .int (evS cl nt os k (d, ev, cr)).2.2), (22, .int (nI k)), (21, .int (unS cl nt os (d, ev, cr))), (20, .int (nI (LIs cl (evS cl nt os k9 (d, ev, cr)).1 nt).2.2)), (19, .int (nI k9)), (5, .int (nI tm)), (4, .int (nI nt)), (3, .ref s), (1, .ref (ad 0)), (0, .ref (gb g))] [] ((s, .inr (10, [.int (nI ne), .int (nI nt), .ref aC, .ref aD, .ref aO, .ref aT, .int (evS cl nt os (k + 1) (d, ev, cr)).2.1, .int (evS cl nt os (k + 1) (d, ev, cr)).2.2])) :: ((aD, zA g 10 (dbF (evS cl nt os (k + 1) (d, ev, cr)).1)) :: (u ++ (r ++ t)))) Q
        refine r_aload_n 8 dL_law_1033 rfl ?_
        refine r_iconst (v := (1 : Int32)) dL_law_1034 (by decide) ?_
        refine r_top (w := .int (nI 1)) (rfl) ?_
        refine r_seg (ws2 := (u ++ ([(s, .inr (10, [.int (nI ne), .int (nI nt), .ref aC, .ref aD, .ref aO, .ref aT, .int (evS cl nt os (k + 1) (d, ev, cr)).2.1, .int (evS cl nt os (k + 1) (d, ev, cr)).2.2])), (aD, zA g 10 (dbF (evS cl nt os (k + 1) (d, ev, cr)).1))] ++ (r ++ t)))) [[(s, .inr (10, [.int (nI ne), .int (nI nt), .ref aC, .ref aD, .ref aO, .ref aT, .int (evS cl nt os (k + 1) (d, ev, cr)).2.1, .int (evS cl nt os (k + 1) (d, ev, cr)).2.2]))], [(aD, zA g 10 (dbF (evS cl nt os (k + 1) (d, ev, cr)).1))], u, r, t] [2, 0, 1, 3, 4] rfl rfl rfl ?_
        refine r_room (x2 := (1300 * m + xx + 9) + 1) (y2 := (13000 * m + yy + 94) + 6) (rq rfl) (rq rfl) ?_
        refine k_Vm (x := (1300 * m + xx + 9)) (y := (13000 * m + yy + 94)) (rest := []) dL_law_1035 kv_L_183 (ap_passEvenings (k := 1) hu (by decide) (by decide)) rfl rfl (List.mem_append_left _ hc117) rfl (Nat.le_of_ble_eq_true rfl) (by decide) (by decide) ?_
        rintro u48 hJ48
        obtain ⟨fs120, hc119⟩ := CI.cell hJ48
        refine r_seg (ws2 := ((s, .inr (10, [.int (nI ne), .int (nI nt), .ref aC, .ref aD, .ref aO, .ref aT, .int (evS cl nt os (k + 1) (d, ev, cr)).2.1, .int (evS cl nt os (k + 1) (d, ev, cr)).2.2])) :: ((aD, zA g 10 (dbF (evS cl nt os (k + 1) (d, ev, cr)).1)) :: (u48 ++ (r ++ t))))) [u48, [(s, .inr (10, [.int (nI ne), .int (nI nt), .ref aC, .ref aD, .ref aO, .ref aT, .int (evS cl nt os (k + 1) (d, ev, cr)).2.1, .int (evS cl nt os (k + 1) (d, ev, cr)).2.2])), (aD, zA g 10 (dbF (evS cl nt os (k + 1) (d, ev, cr)).1))], r, t] [1, 0, 2, 3] rfl rfl rfl ?_
        show R g (mL_law nm) 1400 (1300 * m + xx + 9) (13000 * m + yy + 94) 1038 [(23, .int (evS cl nt os k (d, ev, cr)).2.2), (22, .int (nI k)), (21, .int (unS cl nt os (d, ev, cr))), (20, .int (nI (LIs cl (evS cl nt os k9 (d, ev, cr)).1 nt).2.2)), (19, .int (nI k9)), (5, .int (nI tm)), (4, .int (nI nt)), (3, .ref s), (1, .ref (ad 0)), (0, .ref (gb g))] [.int ((evS cl nt os (k + 1) (d, ev, cr)).2.2 - (evS cl nt os k (d, ev, cr)).2.2)] ((s, .inr (10, [.int (nI ne), .int (nI nt), .ref aC, .ref aD, .ref aO, .ref aT, .int (evS cl nt os (k + 1) (d, ev, cr)).2.1, .int (evS cl nt os (k + 1) (d, ev, cr)).2.2])) :: ((aD, zA g 10 (dbF (evS cl nt os (k + 1) (d, ev, cr)).1)) :: (u48 ++ (r ++ t)))) Q
        refine r_aload_n 7 dL_law_1038 rfl ?_
        refine r_getf (v := .int (evS cl nt os (k + 1) (d, ev, cr)).2.2) 0 dL_law_1039 fl_L_177 rfl rfl ?_
        refine r_iload 0 dL_law_1042 rfl ?_
        refine r_isub dL_law_1044 ?_
        refine r_icmp_eq (tgt := 1050) dL_law_1045 (by decide) (fun _ => ?_) (fun hc => absurd (rfl) hc)
        refine r_iinc (v2 := (nI (k + 1))) 1 [(22, .int (nI (k + 1))), (23, .int (evS cl nt os k (d, ev, cr)).2.2), (21, .int (unS cl nt os (d, ev, cr))), (20, .int (nI (LIs cl (evS cl nt os k9 (d, ev, cr)).1 nt).2.2)), (19, .int (nI k9)), (5, .int (nI tm)), (4, .int (nI nt)), (3, .ref s), (1, .ref (ad 0)), (0, .ref (gb g))] dL_law_1050 rfl (nI_1 k) (Nat.le_of_ble_eq_true rfl) rfl ?_
        refine r_goto (tgt := 963) dL_law_1053 (by decide) ?_
        refine r_ls [0, 2, 3, 4, 5, 6, 7, 8, 9] (ls2 := [(22, .int (nI (k + 1))), (21, .int (unS cl nt os (d, ev, cr))), (20, .int (nI (LIs cl (evS cl nt os k9 (d, ev, cr)).1 nt).2.2)), (19, .int (nI k9)), (5, .int (nI tm)), (4, .int (nI nt)), (3, .ref s), (1, .ref (ad 0)), (0, .ref (gb g))]) rfl ?_
        refine r_room (x2 := 1300 * m + xx) (y2 := 13000 * m + yy) (by omega) (by omega) ?_
        exact ih (k + 1) (by omega) _ hJ48
      refine r_iload 1 dL_law_970 rfl ?_
      rcases f_until (os := os) (q := (d, ev, cr)) hA hn10 with ⟨eu, hno⟩ | ⟨n, hn30, eu, hz, hno⟩
      · refine r_if_lt (tgt := 1009) dL_law_972 (by decide) (fun _ => ?_) (fun hc => absurd (by rw [eu]; decide) hc)
        refine r_iload 1 dL_law_1009 rfl ?_
        refine r_if_ge (tgt := 1023) dL_law_1011 (by decide) (fun hc => absurd hc (by rw [eu]; decide)) (fun _ => ?_)
        refine r_aload_n 7 dL_law_1014 rfl ?_
        refine r_seg (ws2 := (u ++ ([(s, .inr (10, [.int (nI ne), .int (nI nt), .ref aC, .ref aD, .ref aO, .ref aT, .int (evS cl nt os k (d, ev, cr)).2.1, .int (evS cl nt os k (d, ev, cr)).2.2])), (aD, zA g 10 (dbF (evS cl nt os k (d, ev, cr)).1))] ++ (r ++ t)))) [[(s, .inr (10, [.int (nI ne), .int (nI nt), .ref aC, .ref aD, .ref aO, .ref aT, .int (evS cl nt os k (d, ev, cr)).2.1, .int (evS cl nt os k (d, ev, cr)).2.2]))], [(aD, zA g 10 (dbF (evS cl nt os k (d, ev, cr)).1))], u, r, t] [2, 0, 1, 3, 4] rfl rfl rfl ?_
        refine k_Vm (x := (1300 * m + xx + 1300)) (y := (13000 * m + yy + 13000)) (rest := []) dL_law_1015 kv_L_219 (ap_liars hu) rfl rfl (List.mem_append_left _ hc115) rfl (Nat.le_of_ble_eq_true rfl) (by decide) (by decide) ?_
        rintro u49 hJ49
        obtain ⟨fs122, hc121⟩ := CI.cell hJ49
        refine r_seg (ws2 := ((s, .inr (10, [.int (nI ne), .int (nI nt), .ref aC, .ref aD, .ref aO, .ref aT, .int (evS cl nt os k (d, ev, cr)).2.1, .int (evS cl nt os k (d, ev, cr)).2.2])) :: ((aD, zA g 10 (dbF (evS cl nt os k (d, ev, cr)).1)) :: (u49 ++ (r ++ t))))) [u49, [(s, .inr (10, [.int (nI ne), .int (nI nt), .ref aC, .ref aD, .ref aO, .ref aT, .int (evS cl nt os k (d, ev, cr)).2.1, .int (evS cl nt os k (d, ev, cr)).2.2])), (aD, zA g 10 (dbF (evS cl nt os k (d, ev, cr)).1))], r, t] [1, 0, 2, 3] rfl rfl rfl ?_
        show R g (mL_law nm) 1400 (1300 * m + xx + 1300) (13000 * m + yy + 13000) 1018 [(22, .int (nI k)), (21, .int (unS cl nt os (d, ev, cr))), (20, .int (nI (LIs cl (evS cl nt os k9 (d, ev, cr)).1 nt).2.2)), (19, .int (nI k9)), (5, .int (nI tm)), (4, .int (nI nt)), (3, .ref s), (1, .ref (ad 0)), (0, .ref (gb g))] [.int (nI (LIs cl (evS cl nt os k (d, ev, cr)).1 nt).2.2)] ((s, .inr (10, [.int (nI ne), .int (nI nt), .ref aC, .ref aD, .ref aO, .ref aT, .int (evS cl nt os k (d, ev, cr)).2.1, .int (evS cl nt os k (d, ev, cr)).2.2])) :: ((aD, zA g 10 (dbF (evS cl nt os k (d, ev, cr)).1)) :: (u49 ++ (r ++ t)))) Q
        refine r_if_ne (tgt := 1023) dL_law_1018 (by decide) (fun _ => ?_) (fun hc => absurd hc (nI_ne0 (by have := hno k (by omega); omega) (by omega)))
        refine r_room (x2 := 1300 * m + xx + 1290) (y2 := 13000 * m + yy + 12900) (by omega) (by omega) ?_
        exact J1023 _ hJ49
      · refine r_if_lt (tgt := 1009) dL_law_972 (by decide) (fun hc => absurd hc (by rw [eu]; exact nI_nlt0 n (by omega))) (fun _ => ?_)
        refine r_iload 0 dL_law_975 rfl ?_
        refine r_iload 1 dL_law_977 rfl ?_
        refine r_top (w := .int (nI n)) (by rw [eu]) ?_
        by_cases hkn : n < k
        · refine r_icmp_gt (tgt := 1009) dL_law_979 (by decide) (fun _ => ?_) (fun hc => absurd (nI_lt hkn (by omega)) hc)
          refine r_iload 1 dL_law_1009 rfl ?_
          refine r_if_ge (tgt := 1023) dL_law_1011 (by decide) (fun _ => ?_) (fun hc => absurd (by rw [eu]; exact nI_leI0 n (by omega)) hc)
          refine r_room (x2 := 1300 * m + xx + 1290) (y2 := 13000 * m + yy + 12900) (by omega) (by omega) ?_
          exact J1023 _ hu
        · refine r_icmp_gt (tgt := 1009) dL_law_979 (by decide) (fun hc => absurd hc (nI_nlt (by omega) (by omega))) (fun _ => ?_)
          refine r_aload_n 7 dL_law_982 rfl ?_
          refine r_seg (ws2 := (u ++ ([(s, .inr (10, [.int (nI ne), .int (nI nt), .ref aC, .ref aD, .ref aO, .ref aT, .int (evS cl nt os k (d, ev, cr)).2.1, .int (evS cl nt os k (d, ev, cr)).2.2])), (aD, zA g 10 (dbF (evS cl nt os k (d, ev, cr)).1))] ++ (r ++ t)))) [[(s, .inr (10, [.int (nI ne), .int (nI nt), .ref aC, .ref aD, .ref aO, .ref aT, .int (evS cl nt os k (d, ev, cr)).2.1, .int (evS cl nt os k (d, ev, cr)).2.2]))], [(aD, zA g 10 (dbF (evS cl nt os k (d, ev, cr)).1))], u, r, t] [2, 0, 1, 3, 4] rfl rfl rfl ?_
          refine k_Vm (x := (1300 * m + xx + 1300)) (y := (13000 * m + yy + 13000)) (rest := []) dL_law_983 kv_L_219 (ap_liars hu) rfl rfl (List.mem_append_left _ hc115) rfl (Nat.le_of_ble_eq_true rfl) (by decide) (by decide) ?_
          rintro u50 hJ50
          obtain ⟨fs124, hc123⟩ := CI.cell hJ50
          refine r_seg (ws2 := ((s, .inr (10, [.int (nI ne), .int (nI nt), .ref aC, .ref aD, .ref aO, .ref aT, .int (evS cl nt os k (d, ev, cr)).2.1, .int (evS cl nt os k (d, ev, cr)).2.2])) :: ((aD, zA g 10 (dbF (evS cl nt os k (d, ev, cr)).1)) :: (u50 ++ (r ++ t))))) [u50, [(s, .inr (10, [.int (nI ne), .int (nI nt), .ref aC, .ref aD, .ref aO, .ref aT, .int (evS cl nt os k (d, ev, cr)).2.1, .int (evS cl nt os k (d, ev, cr)).2.2])), (aD, zA g 10 (dbF (evS cl nt os k (d, ev, cr)).1))], r, t] [1, 0, 2, 3] rfl rfl rfl ?_
          show R g (mL_law nm) 1400 (1300 * m + xx + 1300) (13000 * m + yy + 13000) 986 [(22, .int (nI k)), (21, .int (unS cl nt os (d, ev, cr))), (20, .int (nI (LIs cl (evS cl nt os k9 (d, ev, cr)).1 nt).2.2)), (19, .int (nI k9)), (5, .int (nI tm)), (4, .int (nI nt)), (3, .ref s), (1, .ref (ad 0)), (0, .ref (gb g))] [.int (nI (LIs cl (evS cl nt os k (d, ev, cr)).1 nt).2.2)] ((s, .inr (10, [.int (nI ne), .int (nI nt), .ref aC, .ref aD, .ref aO, .ref aT, .int (evS cl nt os k (d, ev, cr)).2.1, .int (evS cl nt os k (d, ev, cr)).2.2])) :: ((aD, zA g 10 (dbF (evS cl nt os k (d, ev, cr)).1)) :: (u50 ++ (r ++ t)))) Q
          by_cases hkn2 : k = n
          · have hl0 : (LIs cl (evS cl nt os k (d, ev, cr)).1 nt).2.2 = 0 := by rw [hkn2]; exact hz
            refine r_if_ne (tgt := 993) dL_law_986 (by decide) (fun hc => absurd (by rw [hl0]; rfl) hc) (fun _ => ?_)
            refine r_iconst (v := (1 : Int32)) dL_law_989 (by decide) ?_
            refine r_goto (tgt := 994) dL_law_990 (by decide) ?_
            refine r_iload 0 dL_law_994 rfl ?_
            refine r_iload 1 dL_law_996 rfl ?_
            refine r_top (w := .int (nI n)) (by rw [eu]) ?_
            refine r_icmp_ne (tgt := 1005) dL_law_998 (by decide) (fun hc => absurd (congrArg nI hkn2) hc) (fun _ => ?_)
            refine r_iconst (v := (1 : Int32)) dL_law_1001 (by decide) ?_
            refine r_goto (tgt := 1006) dL_law_1002 (by decide) ?_
            refine r_icmp_ne (tgt := 1021) dL_law_1006 (by decide) (fun hc => absurd (rfl) hc) (fun _ => ?_)
            refine r_iload 1 dL_law_1009 rfl ?_
            refine r_if_ge (tgt := 1023) dL_law_1011 (by decide) (fun _ => ?_) (fun hc => absurd (by rw [eu]; exact nI_leI0 n (by omega)) hc)
            refine r_room (x2 := 1300 * m + xx + 1290) (y2 := 13000 * m + yy + 12900) (by omega) (by omega) ?_
            exact J1023 _ hJ50
          · have hl0 : ¬ (LIs cl (evS cl nt os k (d, ev, cr)).1 nt).2.2 = 0 := hno k (by omega)
            refine r_if_ne (tgt := 993) dL_law_986 (by decide) (fun _ => ?_) (fun hc => absurd hc (nI_ne0 (by omega) (by omega)))
            refine r_iconst (v := (0 : Int32)) dL_law_993 (by decide) ?_
            refine r_iload 0 dL_law_994 rfl ?_
            refine r_iload 1 dL_law_996 rfl ?_
            refine r_top (w := .int (nI n)) (by rw [eu]) ?_
            refine r_icmp_ne (tgt := 1005) dL_law_998 (by decide) (fun _ => ?_) (fun hc => absurd hc (fun h => hkn2 ((nI_eq (by omega) (by omega)).mp h)))
            refine r_iconst (v := (0 : Int32)) dL_law_1005 (by decide) ?_
            refine r_icmp_ne (tgt := 1021) dL_law_1006 (by decide) (fun hc => absurd (rfl) hc) (fun _ => ?_)
            refine r_iload 1 dL_law_1009 rfl ?_
            refine r_if_ge (tgt := 1023) dL_law_1011 (by decide) (fun _ => ?_) (fun hc => absurd (by rw [eu]; exact nI_leI0 n (by omega)) hc)
            refine r_room (x2 := 1300 * m + xx + 1290) (y2 := 13000 * m + yy + 12900) (by omega) (by omega) ?_
            exact J1023 _ hJ50
  refine r_room (x2 := 1300 * k9 + xx) (y2 := 13000 * k9 + yy) (by omega) (by omega) ?_
  exact LE k9 0 (by omega) u0 hI
set_option maxRecDepth 20000 in
set_option maxHeartbeats 16000000 in
theorem law_T {nm : String} {g : GG} {ad : Nat → Nat} {t : va_W} {Q : Rs → va_W → Prop} {s ne nt : Nat} {os : List OT} (hL : gL g ≤ 260) (hQ : ∀ ws, Q (.inl (some (.int 1))) ws) : ∀ m tm, m + tm = 6 → ∀ (W : va_W) (cl : List (Nat → Int32)) (d : Nat) (ev cr : Int32), PS g ad s W ne nt cl os d ev cr → R g (mL_law nm) 1400 (10000 * m + 2100) (100000 * m + 13000) 46 [(5, .int (nI tm)), (4, .int (nI nt)), (3, .ref s), (1, .ref (ad 0)), (0, .ref (gb g))] [] (W ++ t) Q := by
  intro m
  induction m with
  | zero =>
    intro tm htm W cl d ev cr hP
    have etm : tm = 6 := by omega
    subst etm
    refine r_room (x2 := 100 + 2000) (y2 := 1000 + 12000) (by omega) (by omega) ?_
    refine r_iload 0 dL_law_46 rfl ?_
    refine r_bipush (v := (6 : Int32)) dL_law_48 (by decide) ?_
    refine r_icmp_ge (tgt := 1073) dL_law_50 (by decide) (fun _ => ?_) (fun hc => absurd (by decide) hc)
    refine r_aload_n 2 dL_law_1073 rfl ?_
    refine r_aload_n 3 dL_law_1074 rfl ?_
    obtain ⟨fs0, hc0⟩ : ∃ fs, (s, .inr (10, fs)) ∈ W := by
      obtain ⟨aC, aD, aO, aT, ca, oa, w0, r, rfl, -⟩ := hP
      exact ⟨_, List.mem_cons_self⟩
    refine k_Vm (x := 100) (y := 1000) (rest := []) dL_law_1075 kv_L_275 (cl_isSame hP) rfl rfl (List.mem_append_left _ hc0) rfl (Nat.le_of_ble_eq_true rfl) (by decide) (by decide) ?_
    rintro w9 -
    show R g (mL_law nm) 1400 100 1000 1078 [(5, .int (nI 6)), (4, .int (nI nt)), (3, .ref s), (1, .ref (ad 0)), (0, .ref (gb g))] [.int (1 : Int32)] (w9 ++ t) Q
    refine r_zret dL_law_1078 rfl (by decide) ?_
    exact hQ _
  | succ m ih =>
    intro tm htm W cl d ev cr hP
    have htm2 : tm < 6 := by omega
    refine r_room (x2 := 10000 * m + 2100 + 10000) (y2 := 100000 * m + 13000 + 100000) (by omega) (by omega) ?_
    refine r_iload 0 dL_law_46 rfl ?_
    refine r_bipush (v := (6 : Int32)) dL_law_48 (by decide) ?_
    refine r_icmp_ge (tgt := 1073) dL_law_50 (by decide) (fun hc => absurd hc (nI_ge (b := 6) htm2 (by decide))) (fun _ => ?_)
    refine r_aload_n 4 dL_law_53 rfl ?_
    refine r_iconst (v := (2 : Int32)) dL_law_54 (by decide) ?_
    refine r_iload 0 dL_law_55 rfl ?_
    refine r_iadd dL_law_57 ?_
    refine r_top (w := .int (nI (2 + tm))) (congrArg Value.int (nI_add 2 tm)) ?_
    refine k_S (x := (10000 * m + 2100 + 10000)) (y := (100000 * m + 13000 + 100000)) (rest := []) dL_law_58 ks_L_104 (cl_cell (k := 2 + tm) (by omega) hL) rfl rfl (Nat.le_of_ble_eq_true rfl) (by decide) (by decide) ?_
    rintro c9 -
    show R g (mL_law nm) 1400 (10000 * m + 2100 + 10000) (100000 * m + 13000 + 100000) 61 [(5, .int (nI tm)), (4, .int (nI nt)), (3, .ref s), (1, .ref (ad 0)), (0, .ref (gb g))] [.int c9] (W ++ t) Q
    refine r_iconst (v := (1 : Int32)) dL_law_61 (by decide) ?_
    refine r_ishr dL_law_62 ?_
    refine r_bipush (v := (53 : Int32)) dL_law_63 (by decide) ?_
    refine r_iload 0 dL_law_65 rfl ?_
    refine r_imul dL_law_67 ?_
    refine r_iadd dL_law_68 ?_
    generalize ((c9 >>> ((1 : Int32) &&& 31)) + ((53 : Int32) * (nI tm))) = x
    refine r_istore [(6, .int x), (5, .int (nI tm)), (4, .int (nI nt)), (3, .ref s), (1, .ref (ad 0)), (0, .ref (gb g))] dL_law_69 (Nat.le_of_ble_eq_true rfl) rfl ?_
    refine r_aload_n 4 dL_law_71 rfl ?_
    refine r_aload_n 3 dL_law_72 rfl ?_
    refine r_iload 0 dL_law_73 rfl ?_
    refine r_room (x2 := 10000 * m + 2100 + 5800 + 4200) (y2 := 100000 * m + 13000 + 58000 + 42000) (by omega) (by omega) ?_
    refine k_S (x := 10000 * m + 2100 + 5800) (y := 100000 * m + 13000 + 58000) (rest := []) dL_law_75 ks_L_196 (cl_act (x := x) hP) rfl rfl (Nat.le_of_ble_eq_true rfl) (by decide) (by decide) ?_
    rintro W2 ⟨cl2, d2, ev2, cr2, hP2⟩
    clear hP
    obtain ⟨aC, aD, aO, aT, ca, oa, u0, r, rfl, hI, hC, hO, hV, hD⟩ := hP2
    obtain ⟨A, hA⟩ := CI.ac hI
    obtain ⟨sB, hsB⟩ : ∃ sB : va_W, sB = simO s aC aD aO aT ne nt ev2 cr2 :: (aD, zA g 10 (dbF d2)) :: r := ⟨_, rfl⟩
    refine r_seg (ws2 := (u0 ++ (sB ++ t))) [[simO s aC aD aO aT ne nt ev2 cr2], [(aD, zA g 10 (dbF d2))], u0, r, t] [2, 0, 1, 3, 4] rfl (by simp [wj]) (by rw [hsB]; rfl) ?_
    show R g (mL_law nm) 1400 (10000 * m + 2100 + 5800) (100000 * m + 13000 + 58000) 78 [(6, .int x), (5, .int (nI tm)), (4, .int (nI nt)), (3, .ref s), (1, .ref (ad 0)), (0, .ref (gb g))] [.int (1 : Int32)] (u0 ++ (sB ++ t)) Q
    refine r_if_ne (tgt := 83) dL_law_78 (by decide) (fun _ => ?_) (fun hc => absurd hc (by decide))
    obtain ⟨fs126, hc125⟩ := CI.cell hI
    refine r_aload_n 4 dL_law_83 rfl ?_
    refine k_Vm (x := (10000 * m + 2100 + 5800)) (y := (100000 * m + 13000 + 58000)) (rest := []) dL_law_84 kv_L_200 (ap_digest hI) rfl rfl (List.mem_append_left _ hc125) rfl (Nat.le_of_ble_eq_true rfl) (by decide) (by decide) ?_
    rintro u51 hJ51
    obtain ⟨fs128, hc127⟩ := CI.cell hJ51
    show R g (mL_law nm) 1400 (10000 * m + 2100 + 5800) (100000 * m + 13000 + 58000) 87 [(6, .int x), (5, .int (nI tm)), (4, .int (nI nt)), (3, .ref s), (1, .ref (ad 0)), (0, .ref (gb g))] [.long (dgS ne nt cl2 d2 ev2 cr2)] (u51 ++ (sB ++ t)) Q
    refine r_lstore [(7, .long (dgS ne nt cl2 d2 ev2 cr2)), (6, .int x), (5, .int (nI tm)), (4, .int (nI nt)), (3, .ref s), (1, .ref (ad 0)), (0, .ref (gb g))] dL_law_87 (Nat.le_of_ble_eq_true rfl) rfl ?_
    refine r_ls [0, 1, 2, 3, 4, 5, 6] (ls2 := [(7, .long (dgS ne nt cl2 d2 ev2 cr2)), (6, .int x), (5, .int (nI tm)), (4, .int (nI nt)), (3, .ref s), (1, .ref (ad 0)), (0, .ref (gb g))]) rfl ?_
    refine r_room (x2 := 10000 * m + 2100 + 4000 + 30 + 950 + 800) (y2 := 100000 * m + 13000 + 39000 + 180 + 5700 + 4800) (by omega) (by omega) ?_
    refine law_A (xx := 10000 * m + 2100 + 4000 + 30 + 950) (yy := 100000 * m + 13000 + 39000 + 180 + 5700) hJ51 hA (fun u hu => ?_)
    refine law_B (xx := 10000 * m + 2100 + 4000 + 30) (yy := 100000 * m + 13000 + 39000 + 180) hu hA (fun u hu => ?_)
    refine law_D (xx := 10000 * m + 2100 + 4000) (yy := 100000 * m + 13000 + 39000) hu hA (fun k9 h1 h3 u hu => ?_)
    subst hsB
    refine r_seg (ws2 := simO s aC aD aO aT ne nt ev2 cr2 :: (aD, zA g 10 (dbF d2)) :: (u ++ (r ++ t))) [u, [simO s aC aD aO aT ne nt ev2 cr2], [(aD, zA g 10 (dbF d2))], r, t] [1, 2, 0, 3, 4] rfl rfl rfl ?_
    refine law_E (x := 0) (xx := 10000 * m + 2100) (yy := 100000 * m + 13000) hu hA hC hO hV hD h1 h3 (fun w9 h9 => ?_)
    show R g (mL_law nm) 1400 (10000 * m + 2100) (100000 * m + 13000) 1067 [(5, .int (nI tm)), (4, .int (nI nt)), (3, .ref s), (1, .ref (ad 0)), (0, .ref (gb g))] [] (w9 ++ t) Q
    refine r_iinc (v2 := (nI (tm + 1))) 0 [(5, .int (nI (tm + 1))), (4, .int (nI nt)), (3, .ref s), (1, .ref (ad 0)), (0, .ref (gb g))] dL_law_1067 rfl (nI_1 tm) (Nat.le_of_ble_eq_true rfl) rfl ?_
    refine r_goto (tgt := 46) dL_law_1070 (by decide) ?_
    exact ih (tm + 1) (by omega) w9 cl2 _ _ _ h9
