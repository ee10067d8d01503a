set_option maxRecDepth 20000 in
set_option maxHeartbeats 8000000 in
theorem cl_act {g : GG} {ad : Nat → Nat} {t W : va_W} {s ne nt d : Nat} {cl : List (Nat → Int32)} {os : List OT} {ev cr x : Int32} (hP : PS g ad s W ne nt cl os d ev cr) : Ct g mL_act 17 4200 42000 [.ref (ad 0), .ref s, .int x] (W ++ t) (Dq (fun (_ : va_W) => some (.int (1 : Int32))) (fun z => z ++ t) (fun z => ∃ cl2 d2 ev2 cr2, PS g ad s z ne nt cl2 os d2 ev2 cr2)) := by
  obtain ⟨aC, aD, aO, aT, ca, oa, w0, r, rfl, hI, hC, hO, hV, hD⟩ := hP
  obtain ⟨n1, n2, n3, n4, hd, h40, -, -⟩ := CI.num hI
  obtain ⟨fs0, hc0⟩ := CI.cell hI
  have hlc := hV.1
  refine Ct.ofR (by decide +kernel) rfl (Nat.le_of_ble_eq_true rfl) ?_
  have e0 : (simO s aC aD aO aT ne nt ev cr :: (aD, zA g 10 (dbF d)) :: (w0 ++ r)) ++ t = ((s, .inr (10, [.int (nI ne), .int (nI nt), .ref aC, .ref aD, .ref aO, .ref aT, .int ev, .int cr])) :: ((aD, zA g 10 (dbF d)) :: (w0 ++ (r ++ t)))) := by rw [List.cons_append, List.cons_append, List.append_assoc]
  rw [e0]
  show R g mL_act 17 4200 42000 0 [(0, .ref (ad 0)), (1, .ref s), (2, .int x)] [] ((s, .inr (10, [.int (nI ne), .int (nI nt), .ref aC, .ref aD, .ref aO, .ref aT, .int ev, .int cr])) :: ((aD, zA g 10 (dbF d)) :: (w0 ++ (r ++ t)))) (Dq (fun (_ : va_W) => some (.int (1 : Int32))) (fun z => z ++ t) (fun z => ∃ cl2 d2 ev2 cr2, PS g ad s z ne nt cl2 os d2 ev2 cr2))
  have J40 : True → R g mL_act 17 4200 42000 40 [(0, .ref (ad 0)), (1, .ref s), (2, .int x)] [] ((s, .inr (10, [.int (nI ne), .int (nI nt), .ref aC, .ref aD, .ref aO, .ref aT, .int ev, .int cr])) :: ((aD, zA g 10 (dbF d)) :: (w0 ++ (r ++ t)))) (Dq (fun (_ : va_W) => some (.int (1 : Int32))) (fun z => z ++ t) (fun z => ∃ cl2 d2 ev2 cr2, PS g ad s z ne nt cl2 os d2 ev2 cr2)) := by
    intro _
    refine r_iload_n 2 dL_act_40 rfl ?_
    refine r_iconst (v := (2 : Int32)) dL_act_41 (by decide) ?_
    refine r_ishr dL_act_42 ?_
    refine r_aload_n 1 dL_act_43 rfl ?_
    refine r_getf (v := .int (nI ne)) 0 dL_act_44 fl_L_108 rfl rfl ?_
    refine r_aload_n 1 dL_act_47 rfl ?_
    refine r_getf (v := .int (nI nt)) 0 dL_act_48 fl_L_111 rfl rfl ?_
    refine k_S (x := 4199) (y := 41995) (rest := []) dL_act_51 ks_L_118 (cl_claim (x := (x >>> ((2 : Int32) &&& 31))) n1 (by omega) n3 (by omega)) rfl rfl (Nat.le_of_ble_eq_true rfl) (by decide) (by decide) ?_
    rintro ⟨q5, f5⟩ ⟨hf5, hd5⟩
    try dsimp only at hf5 hd5
    show R g mL_act 17 4199 41995 54 [(0, .ref (ad 0)), (1, .ref s), (2, .int x)] [.ref q5] ((q5, iA g 5 f5) :: ((s, .inr (10, [.int (nI ne), .int (nI nt), .ref aC, .ref aD, .ref aO, .ref aT, .int ev, .int cr])) :: ((aD, zA g 10 (dbF d)) :: (w0 ++ (r ++ t))))) (Dq (fun (_ : va_W) => some (.int (1 : Int32))) (fun z => z ++ t) (fun z => ∃ cl2 d2 ev2 cr2, PS g ad s z ne nt cl2 os d2 ev2 cr2))
    refine r_astore_n [(3, .ref q5), (0, .ref (ad 0)), (1, .ref s), (2, .int x)] dL_act_54 (by decide) rfl ?_
    refine r_aload_n 2 dL_act_55 rfl ?_
    refine r_getf (v := .ref aC) 1 dL_act_56 fl_L_122 rfl rfl ?_
    refine r_alenm (t := 4) (v := (nI ca.length)) dL_act_59 rfl (List.mem_cons_of_mem _ (List.mem_cons_of_mem _ (List.mem_cons_of_mem _ (List.mem_append_right _ (List.mem_append_left _ hC.1))))) (by rfl) ?_
    refine r_bipush (v := (40 : Int32)) dL_act_60 (by decide) ?_
    refine r_icmp_ne (tgt := 67) dL_act_62 (by decide) (fun h40c => ?_) (fun h40c => ?_)
    · have hl40 : cl.length < 40 := by
        have : ¬ ca.length = 40 := fun e => h40c (by rw [e]; rfl)
        omega
      refine r_aload_n 2 dL_act_67 rfl ?_
      refine r_aload_n 2 dL_act_68 rfl ?_
      refine r_getf (v := .ref aC) 1 dL_act_69 fl_L_122 rfl rfl ?_
      refine r_aload_n 0 dL_act_72 rfl ?_
      refine k_S (x := 4198) (y := 41954) (rest := [.ref s]) dL_act_73 ks_L_126 (cl_with (aC := aC) (v := q5) (ca := ca) (z0 := _) ((List.mem_cons_of_mem _ (List.mem_cons_of_mem _ (List.mem_cons_of_mem _ (List.mem_append_right _ (List.mem_append_left _ hC.1)))))) (fun k hk => ⟨_, (List.mem_cons_of_mem _ (List.mem_cons_of_mem _ (List.mem_cons_of_mem _ (List.mem_append_right _ (List.mem_append_left _ (hC.2 k hk))))))⟩) List.mem_cons_self (by omega)) rfl rfl (Nat.le_of_ble_eq_true rfl) (by decide) (by decide) ?_
      rintro r9 -
      show R g mL_act 17 4198 41954 76 [(3, .ref q5), (0, .ref (ad 0)), (1, .ref s), (2, .int x)] [.ref r9, .ref s] ((r9, qA g 4 (ca ++ [q5]).length (fun k => (ca ++ [q5])[k]?)) :: ((q5, iA g 5 f5) :: ((s, .inr (10, [.int (nI ne), .int (nI nt), .ref aC, .ref aD, .ref aO, .ref aT, .int ev, .int cr])) :: ((aD, zA g 10 (dbF d)) :: (w0 ++ (r ++ t)))))) (Dq (fun (_ : va_W) => some (.int (1 : Int32))) (fun z => z ++ t) (fun z => ∃ cl2 d2 ev2 cr2, PS g ad s z ne nt cl2 os d2 ev2 cr2))
      refine r_seg (ws2 := ((s, .inr (10, [.int (nI ne), .int (nI nt), .ref aC, .ref aD, .ref aO, .ref aT, .int ev, .int cr])) :: ((aD, zA g 10 (dbF d)) :: ((r9, qA g 4 (ca ++ [q5]).length (fun k => (ca ++ [q5])[k]?)) :: ((q5, iA g 5 f5) :: (w0 ++ (r ++ t))))))) [[(r9, qA g 4 (ca ++ [q5]).length (fun k => (ca ++ [q5])[k]?))], [(q5, iA g 5 f5)], [(s, .inr (10, [.int (nI ne), .int (nI nt), .ref aC, .ref aD, .ref aO, .ref aT, .int ev, .int cr]))], [(aD, zA g 10 (dbF d))], w0, r, t] [2, 3, 0, 1, 4, 5, 6] rfl rfl rfl ?_
      refine r_putf (ws2 := ((s, .inr (10, [.int (nI ne), .int (nI nt), .ref r9, .ref aD, .ref aO, .ref aT, .int ev, .int cr])) :: ((aD, zA g 10 (dbF d)) :: ((r9, qA g 4 (ca ++ [q5]).length (fun k => (ca ++ [q5])[k]?)) :: ((q5, iA g 5 f5) :: (w0 ++ (r ++ t))))))) 0 dL_act_76 fl_L_122 rfl (Nat.le_of_ble_eq_true rfl) rfl rfl rfl ?_
      have J140 : ∀ w5, CI g ad w5 ne nt (cl ++ [f5]) os d ev cr → R g mL_act 17 4000 41000 140 [(3, .ref q5), (0, .ref (ad 0)), (1, .ref s), (2, .int x)] [.int (nI cl.length)] ((s, .inr (10, [.int (nI ne), .int (nI nt), .ref r9, .ref aD, .ref aO, .ref aT, .int ev, .int cr])) :: ((aD, zA g 10 (dbF d)) :: ((r9, qA g 4 (ca ++ [q5]).length (fun k => (ca ++ [q5])[k]?)) :: ((q5, iA g 5 f5) :: (w5 ++ (r ++ t)))))) (Dq (fun (_ : va_W) => some (.int (1 : Int32))) (fun z => z ++ t) (fun z => ∃ cl2 d2 ev2 cr2, PS g ad s z ne nt cl2 os d2 ev2 cr2)) := by
        intro w5 hI5
        refine r_istore [(4, .int (nI cl.length)), (3, .ref q5), (0, .ref (ad 0)), (1, .ref s), (2, .int x)] dL_act_140 (by decide) rfl ?_
        refine r_iload 0 dL_act_142 rfl ?_
        refine r_aload_n 3 dL_act_144 rfl ?_
        refine r_getf (v := .ref r9) 0 dL_act_145 fl_L_122 rfl rfl ?_
        refine r_alenm (t := 4) (v := (nI (ca ++ [q5]).length)) dL_act_148 rfl (List.mem_cons_of_mem _ (List.mem_cons_of_mem _ List.mem_cons_self)) (by rfl) ?_
        refine r_iconst (v := (1 : Int32)) dL_act_149 (by decide) ?_
        refine r_isub dL_act_150 ?_
        refine r_top (w := .int (nI cl.length)) (by rw [List.length_append, hlc]; exact congrArg Value.int (nI_pred cl.length)) ?_
        refine r_icmp_ne (tgt := 158) dL_act_151 (by decide) (fun hc => absurd (rfl) hc) (fun _ => ?_)
        refine r_iconst (v := (1 : Int32)) dL_act_154 (by decide) ?_
        refine r_goto (tgt := 159) dL_act_155 (by decide) ?_
        refine r_seg (ws2 := ((s, .inr (10, [.int (nI ne), .int (nI nt), .ref r9, .ref aD, .ref aO, .ref aT, .int ev, .int cr])) :: ((aD, zA g 10 (dbF d)) :: (w5 ++ (((r9, qA g 4 (ca ++ [q5]).length (fun k => (ca ++ [q5])[k]?)) :: (q5, iA g 5 f5) :: r) ++ t))))) [[(s, .inr (10, [.int (nI ne), .int (nI nt), .ref r9, .ref aD, .ref aO, .ref aT, .int ev, .int cr]))], [(aD, zA g 10 (dbF d))], [(r9, qA g 4 (ca ++ [q5]).length (fun k => (ca ++ [q5])[k]?))], [(q5, iA g 5 f5)], w5, r, t] [0, 1, 4, 2, 3, 5, 6] rfl rfl rfl ?_
        refine r_zret dL_act_159 rfl (by decide) ?_
        exact Dq.mk (simO s r9 aD aO aT ne nt ev cr :: (aD, zA g 10 (dbF d)) :: (w5 ++ ((r9, qA g 4 (ca ++ [q5]).length (fun k => (ca ++ [q5])[k]?)) :: (q5, iA g 5 f5) :: r))) rfl (by simp only [List.cons_append, List.append_assoc]) ⟨(cl ++ [f5]), d, ev, cr, r9, aD, aO, aT, (ca ++ [q5]), oa, w5, ((r9, qA g 4 (ca ++ [q5]).length (fun k => (ca ++ [q5])[k]?)) :: (q5, iA g 5 f5) :: r), rfl, hI5, SimR.push hC hlc (List.mem_cons_of_mem _ List.mem_cons_self) List.mem_cons_self (fun p hp => List.mem_cons_of_mem _ (List.mem_cons_of_mem _ hp)), OM.mono hO (fun p hp => List.mem_cons_of_mem _ (List.mem_cons_of_mem _ hp)), CV.push hV hf5 hl40, CD.push hD hd5⟩
      refine r_aload_n 0 dL_act_79 rfl ?_
      refine r_iconst (v := (0 : Int32)) dL_act_80 (by decide) ?_
      refine r_ialdm (n := 5) (f := f5) dL_act_81 (List.mem_cons_of_mem _ (List.mem_cons_of_mem _ (List.mem_cons_of_mem _ List.mem_cons_self))) (by decide) ?_
      refine r_top (w := .int (f5 0)) (by rw [cl0]) ?_
      refine r_if_ne (tgt := 104) dL_act_82 (by decide) (fun h0 => ?_) (fun h0 => ?_)
      · refine r_aload_n 0 dL_act_104 rfl ?_
        refine r_iconst (v := (0 : Int32)) dL_act_105 (by decide) ?_
        refine r_ialdm (n := 5) (f := f5) dL_act_106 (List.mem_cons_of_mem _ (List.mem_cons_of_mem _ (List.mem_cons_of_mem _ List.mem_cons_self))) (by decide) ?_
        refine r_top (w := .int (f5 0)) (by rw [cl0]) ?_
        refine r_iconst (v := (1 : Int32)) dL_act_107 (by decide) ?_
        refine r_icmp_ne (tgt := 127) dL_act_108 (by decide) (fun h1 => ?_) (fun h1 => ?_)
        · have hk2 : f5 0 = 2 := by rcases hf5.1 with h9 | h9 | h9 <;> first | exact h9 | exact absurd h9 h0 | exact absurd h9 h1
          refine r_aload_n 1 dL_act_127 rfl ?_
          refine r_aload_n 0 dL_act_128 rfl ?_
          refine r_iconst (v := (1 : Int32)) dL_act_129 (by decide) ?_
          refine r_ialdm (n := 5) (f := f5) dL_act_130 (List.mem_cons_of_mem _ (List.mem_cons_of_mem _ (List.mem_cons_of_mem _ List.mem_cons_self))) (by decide) ?_
          refine r_top (w := .int (f5 1)) (by rw [cl1]) ?_
          refine r_aload_n 0 dL_act_131 rfl ?_
          refine r_iconst (v := (2 : Int32)) dL_act_132 (by decide) ?_
          refine r_ialdm (n := 5) (f := f5) dL_act_133 (List.mem_cons_of_mem _ (List.mem_cons_of_mem _ (List.mem_cons_of_mem _ List.mem_cons_self))) (by decide) ?_
          refine r_top (w := .int (f5 2)) (by rw [cl2]) ?_
          refine r_aload_n 0 dL_act_134 rfl ?_
          refine r_iconst (v := (3 : Int32)) dL_act_135 (by decide) ?_
          refine r_ialdm (n := 5) (f := f5) dL_act_136 (List.mem_cons_of_mem _ (List.mem_cons_of_mem _ (List.mem_cons_of_mem _ List.mem_cons_self))) (by decide) ?_
          refine r_top (w := .int (f5 3)) (by rw [cl3]) ?_
          refine r_seg (ws2 := (w0 ++ ([(s, .inr (10, [.int (nI ne), .int (nI nt), .ref r9, .ref aD, .ref aO, .ref aT, .int ev, .int cr])), (aD, zA g 10 (dbF d)), (r9, qA g 4 (ca ++ [q5]).length (fun k => (ca ++ [q5])[k]?)), (q5, iA g 5 f5)] ++ (r ++ t)))) [[(s, .inr (10, [.int (nI ne), .int (nI nt), .ref r9, .ref aD, .ref aO, .ref aT, .int ev, .int cr]))], [(aD, zA g 10 (dbF d))], [(r9, qA g 4 (ca ++ [q5]).length (fun k => (ca ++ [q5])[k]?))], [(q5, iA g 5 f5)], w0, r, t] [4, 0, 1, 2, 3, 5, 6] rfl rfl rfl ?_
          refine k_Vm (x := 4193) (y := 41924) (rest := []) dL_act_137 kv_L_160 (ap_claimTogether hI hf5 hk2 hd5 hl40) rfl rfl (List.mem_append_left _ hc0) rfl (Nat.le_of_ble_eq_true rfl) (by decide) (by decide) ?_
          rintro w5 hI5
          obtain ⟨fs2, hc1⟩ := CI.cell hI5
          refine r_seg (ws2 := ((s, .inr (10, [.int (nI ne), .int (nI nt), .ref r9, .ref aD, .ref aO, .ref aT, .int ev, .int cr])) :: ((aD, zA g 10 (dbF d)) :: ((r9, qA g 4 (ca ++ [q5]).length (fun k => (ca ++ [q5])[k]?)) :: ((q5, iA g 5 f5) :: (w5 ++ (r ++ t))))))) [w5, [(s, .inr (10, [.int (nI ne), .int (nI nt), .ref r9, .ref aD, .ref aO, .ref aT, .int ev, .int cr])), (aD, zA g 10 (dbF d)), (r9, qA g 4 (ca ++ [q5]).length (fun k => (ca ++ [q5])[k]?)), (q5, iA g 5 f5)], r, t] [1, 0, 2, 3] rfl rfl rfl ?_
          show R g mL_act 17 4193 41924 140 [(3, .ref q5), (0, .ref (ad 0)), (1, .ref s), (2, .int x)] [.int (nI cl.length)] ((s, .inr (10, [.int (nI ne), .int (nI nt), .ref r9, .ref aD, .ref aO, .ref aT, .int ev, .int cr])) :: ((aD, zA g 10 (dbF d)) :: ((r9, qA g 4 (ca ++ [q5]).length (fun k => (ca ++ [q5])[k]?)) :: ((q5, iA g 5 f5) :: (w5 ++ (r ++ t)))))) (Dq (fun (_ : va_W) => some (.int (1 : Int32))) (fun z => z ++ t) (fun z => ∃ cl2 d2 ev2 cr2, PS g ad s z ne nt cl2 os d2 ev2 cr2))
          refine r_room (x2 := 4000) (y2 := 41000) (by decide) (by decide) ?_
          exact J140 w5 hI5
        · refine r_aload_n 1 dL_act_111 rfl ?_
          refine r_aload_n 0 dL_act_112 rfl ?_
          refine r_iconst (v := (1 : Int32)) dL_act_113 (by decide) ?_
          refine r_ialdm (n := 5) (f := f5) dL_act_114 (List.mem_cons_of_mem _ (List.mem_cons_of_mem _ (List.mem_cons_of_mem _ List.mem_cons_self))) (by decide) ?_
          refine r_top (w := .int (f5 1)) (by rw [cl1]) ?_
          refine r_aload_n 0 dL_act_115 rfl ?_
          refine r_iconst (v := (2 : Int32)) dL_act_116 (by decide) ?_
          refine r_ialdm (n := 5) (f := f5) dL_act_117 (List.mem_cons_of_mem _ (List.mem_cons_of_mem _ (List.mem_cons_of_mem _ List.mem_cons_self))) (by decide) ?_
          refine r_top (w := .int (f5 2)) (by rw [cl2]) ?_
          refine r_aload_n 0 dL_act_118 rfl ?_
          refine r_iconst (v := (3 : Int32)) dL_act_119 (by decide) ?_
          refine r_ialdm (n := 5) (f := f5) dL_act_120 (List.mem_cons_of_mem _ (List.mem_cons_of_mem _ (List.mem_cons_of_mem _ List.mem_cons_self))) (by decide) ?_
          refine r_top (w := .int (f5 3)) (by rw [cl3]) ?_
          refine r_seg (ws2 := (w0 ++ ([(s, .inr (10, [.int (nI ne), .int (nI nt), .ref r9, .ref aD, .ref aO, .ref aT, .int ev, .int cr])), (aD, zA g 10 (dbF d)), (r9, qA g 4 (ca ++ [q5]).length (fun k => (ca ++ [q5])[k]?)), (q5, iA g 5 f5)] ++ (r ++ t)))) [[(s, .inr (10, [.int (nI ne), .int (nI nt), .ref r9, .ref aD, .ref aO, .ref aT, .int ev, .int cr]))], [(aD, zA g 10 (dbF d))], [(r9, qA g 4 (ca ++ [q5]).length (fun k => (ca ++ [q5])[k]?))], [(q5, iA g 5 f5)], w0, r, t] [4, 0, 1, 2, 3, 5, 6] rfl rfl rfl ?_
          refine k_Vm (x := 4193) (y := 41924) (rest := []) dL_act_121 kv_L_156 (ap_claimBefore hI hf5 h1 hd5 hl40) rfl rfl (List.mem_append_left _ hc0) rfl (Nat.le_of_ble_eq_true rfl) (by decide) (by decide) ?_
          rintro w5 hI5
          obtain ⟨fs4, hc3⟩ := CI.cell hI5
          refine r_seg (ws2 := ((s, .inr (10, [.int (nI ne), .int (nI nt), .ref r9, .ref aD, .ref aO, .ref aT, .int ev, .int cr])) :: ((aD, zA g 10 (dbF d)) :: ((r9, qA g 4 (ca ++ [q5]).length (fun k => (ca ++ [q5])[k]?)) :: ((q5, iA g 5 f5) :: (w5 ++ (r ++ t))))))) [w5, [(s, .inr (10, [.int (nI ne), .int (nI nt), .ref r9, .ref aD, .ref aO, .ref aT, .int ev, .int cr])), (aD, zA g 10 (dbF d)), (r9, qA g 4 (ca ++ [q5]).length (fun k => (ca ++ [q5])[k]?)), (q5, iA g 5 f5)], r, t] [1, 0, 2, 3] rfl rfl rfl ?_
          show R g mL_act 17 4193 41924 124 [(3, .ref q5), (0, .ref (ad 0)), (1, .ref s), (2, .int x)] [.int (nI cl.length)] ((s, .inr (10, [.int (nI ne), .int (nI nt), .ref r9, .ref aD, .ref aO, .ref aT, .int ev, .int cr])) :: ((aD, zA g 10 (dbF d)) :: ((r9, qA g 4 (ca ++ [q5]).length (fun k => (ca ++ [q5])[k]?)) :: ((q5, iA g 5 f5) :: (w5 ++ (r ++ t)))))) (Dq (fun (_ : va_W) => some (.int (1 : Int32))) (fun z => z ++ t) (fun z => ∃ cl2 d2 ev2 cr2, PS g ad s z ne nt cl2 os d2 ev2 cr2))
          refine r_goto (tgt := 140) dL_act_124 (by decide) ?_
          refine r_room (x2 := 4000) (y2 := 41000) (by decide) (by decide) ?_
          exact J140 w5 hI5
      · refine r_aload_n 1 dL_act_85 rfl ?_
        refine r_aload_n 0 dL_act_86 rfl ?_
        refine r_iconst (v := (1 : Int32)) dL_act_87 (by decide) ?_
        refine r_ialdm (n := 5) (f := f5) dL_act_88 (List.mem_cons_of_mem _ (List.mem_cons_of_mem _ (List.mem_cons_of_mem _ List.mem_cons_self))) (by decide) ?_
        refine r_top (w := .int (f5 1)) (by rw [cl1]) ?_
        refine r_aload_n 0 dL_act_89 rfl ?_
        refine r_iconst (v := (2 : Int32)) dL_act_90 (by decide) ?_
        refine r_ialdm (n := 5) (f := f5) dL_act_91 (List.mem_cons_of_mem _ (List.mem_cons_of_mem _ (List.mem_cons_of_mem _ List.mem_cons_self))) (by decide) ?_
        refine r_top (w := .int (f5 2)) (by rw [cl2]) ?_
        refine r_aload_n 0 dL_act_92 rfl ?_
        refine r_iconst (v := (3 : Int32)) dL_act_93 (by decide) ?_
        refine r_ialdm (n := 5) (f := f5) dL_act_94 (List.mem_cons_of_mem _ (List.mem_cons_of_mem _ (List.mem_cons_of_mem _ List.mem_cons_self))) (by decide) ?_
        refine r_top (w := .int (f5 3)) (by rw [cl3]) ?_
        refine r_aload_n 0 dL_act_95 rfl ?_
        refine r_iconst (v := (4 : Int32)) dL_act_96 (by decide) ?_
        refine r_ialdm (n := 5) (f := f5) dL_act_97 (List.mem_cons_of_mem _ (List.mem_cons_of_mem _ (List.mem_cons_of_mem _ List.mem_cons_self))) (by decide) ?_
        refine r_top (w := .int (f5 4)) (by rw [cl4]) ?_
        refine r_seg (ws2 := (w0 ++ ([(s, .inr (10, [.int (nI ne), .int (nI nt), .ref r9, .ref aD, .ref aO, .ref aT, .int ev, .int cr])), (aD, zA g 10 (dbF d)), (r9, qA g 4 (ca ++ [q5]).length (fun k => (ca ++ [q5])[k]?)), (q5, iA g 5 f5)] ++ (r ++ t)))) [[(s, .inr (10, [.int (nI ne), .int (nI nt), .ref r9, .ref aD, .ref aO, .ref aT, .int ev, .int cr]))], [(aD, zA g 10 (dbF d))], [(r9, qA g 4 (ca ++ [q5]).length (fun k => (ca ++ [q5])[k]?))], [(q5, iA g 5 f5)], w0, r, t] [4, 0, 1, 2, 3, 5, 6] rfl rfl rfl ?_
        refine k_Vm (x := 4195) (y := 41936) (rest := []) dL_act_98 kv_L_152 (ap_claimHours hI hf5 h0 hl40) rfl rfl (List.mem_append_left _ hc0) rfl (Nat.le_of_ble_eq_true rfl) (by decide) (by decide) ?_
        rintro w5 hI5
        obtain ⟨fs6, hc5⟩ := CI.cell hI5
        refine r_seg (ws2 := ((s, .inr (10, [.int (nI ne), .int (nI nt), .ref r9, .ref aD, .ref aO, .ref aT, .int ev, .int cr])) :: ((aD, zA g 10 (dbF d)) :: ((r9, qA g 4 (ca ++ [q5]).length (fun k => (ca ++ [q5])[k]?)) :: ((q5, iA g 5 f5) :: (w5 ++ (r ++ t))))))) [w5, [(s, .inr (10, [.int (nI ne), .int (nI nt), .ref r9, .ref aD, .ref aO, .ref aT, .int ev, .int cr])), (aD, zA g 10 (dbF d)), (r9, qA g 4 (ca ++ [q5]).length (fun k => (ca ++ [q5])[k]?)), (q5, iA g 5 f5)], r, t] [1, 0, 2, 3] rfl rfl rfl ?_
        show R g mL_act 17 4195 41936 101 [(3, .ref q5), (0, .ref (ad 0)), (1, .ref s), (2, .int x)] [.int (nI cl.length)] ((s, .inr (10, [.int (nI ne), .int (nI nt), .ref r9, .ref aD, .ref aO, .ref aT, .int ev, .int cr])) :: ((aD, zA g 10 (dbF d)) :: ((r9, qA g 4 (ca ++ [q5]).length (fun k => (ca ++ [q5])[k]?)) :: ((q5, iA g 5 f5) :: (w5 ++ (r ++ t)))))) (Dq (fun (_ : va_W) => some (.int (1 : Int32))) (fun z => z ++ t) (fun z => ∃ cl2 d2 ev2 cr2, PS g ad s z ne nt cl2 os d2 ev2 cr2))
        refine r_goto (tgt := 140) dL_act_101 (by decide) ?_
        refine r_room (x2 := 4000) (y2 := 41000) (by decide) (by decide) ?_
        exact J140 w5 hI5
    · refine r_iconst (v := (1 : Int32)) dL_act_65 (by decide) ?_
      refine r_seg (ws2 := ((s, .inr (10, [.int (nI ne), .int (nI nt), .ref aC, .ref aD, .ref aO, .ref aT, .int ev, .int cr])) :: ((aD, zA g 10 (dbF d)) :: (w0 ++ (r ++ t))))) [[(q5, iA g 5 f5)], [(s, .inr (10, [.int (nI ne), .int (nI nt), .ref aC, .ref aD, .ref aO, .ref aT, .int ev, .int cr]))], [(aD, zA g 10 (dbF d))], w0, r, t] [1, 2, 3, 4, 5] rfl rfl rfl ?_
      refine r_zret dL_act_66 rfl (by decide) ?_
      exact Dq.mk (simO s aC aD aO aT ne nt ev cr :: (aD, zA g 10 (dbF d)) :: (w0 ++ r)) rfl (by simp only [List.cons_append, List.append_assoc]) ⟨cl, d, ev, cr, aC, aD, aO, aT, ca, oa, w0, r, rfl, hI, hC, hO, hV, hD⟩
  have J160 : True → R g mL_act 17 4200 42000 160 [(0, .ref (ad 0)), (1, .ref s), (2, .int x)] [] ((s, .inr (10, [.int (nI ne), .int (nI nt), .ref aC, .ref aD, .ref aO, .ref aT, .int ev, .int cr])) :: ((aD, zA g 10 (dbF d)) :: (w0 ++ (r ++ t)))) (Dq (fun (_ : va_W) => some (.int (1 : Int32))) (fun z => z ++ t) (fun z => ∃ cl2 d2 ev2 cr2, PS g ad s z ne nt cl2 os d2 ev2 cr2)) := by
    intro _
    refine r_aload_n 1 dL_act_160 rfl ?_
    refine r_getf (v := .ref aC) 0 dL_act_161 fl_L_122 rfl rfl ?_
    refine r_alenm (t := 4) (v := (nI ca.length)) dL_act_164 rfl (List.mem_cons_of_mem _ (List.mem_cons_of_mem _ (List.mem_append_right _ (List.mem_append_left _ hC.1)))) (by rfl) ?_
    refine r_if_ne (tgt := 170) dL_act_165 (by decide) (fun h0 => ?_) (fun h0 => ?_)
    · have hl0 : 0 < ca.length := by
        have : ¬ ca.length = 0 := fun e => h0 (by rw [e]; rfl)
        omega
      refine r_iload_n 2 dL_act_170 rfl ?_
      refine r_iconst (v := (5 : Int32)) dL_act_171 (by decide) ?_
      refine r_ishr dL_act_172 ?_
      refine r_aload_n 1 dL_act_173 rfl ?_
      refine r_getf (v := .ref aC) 0 dL_act_174 fl_L_122 rfl rfl ?_
      refine r_alenm (t := 4) (v := (nI ca.length)) dL_act_177 rfl (List.mem_cons_of_mem _ (List.mem_cons_of_mem _ (List.mem_append_right _ (List.mem_append_left _ hC.1)))) (by rfl) ?_
      refine k_S (x := 4200) (y := 42000) (rest := []) dL_act_178 ks_L_35 ((cl_below (v := (x >>> ((5 : Int32) &&& 31))) (n := ca.length) (hl0) (by omega)).dq) rfl rfl (Nat.le_of_ble_eq_true rfl) (by decide) (by decide) ?_
      rintro ⟨⟩ -
      show R g mL_act 17 4200 42000 181 [(0, .ref (ad 0)), (1, .ref s), (2, .int x)] [.int (nI (bw (x >>> ((5 : Int32) &&& 31)) ca.length))] ((s, .inr (10, [.int (nI ne), .int (nI nt), .ref aC, .ref aD, .ref aO, .ref aT, .int ev, .int cr])) :: ((aD, zA g 10 (dbF d)) :: (w0 ++ (r ++ t)))) (Dq (fun (_ : va_W) => some (.int (1 : Int32))) (fun z => z ++ t) (fun z => ∃ cl2 d2 ev2 cr2, PS g ad s z ne nt cl2 os d2 ev2 cr2))
      have hcc := bw_lt (x >>> ((5 : Int32) &&& 31)) (n := ca.length) (hl0)
      generalize bw (x >>> ((5 : Int32) &&& 31)) ca.length = cc at hcc ⊢
      show R g mL_act 17 4200 42000 181 [(0, .ref (ad 0)), (1, .ref s), (2, .int x)] [.int (nI cc)] ((s, .inr (10, [.int (nI ne), .int (nI nt), .ref aC, .ref aD, .ref aO, .ref aT, .int ev, .int cr])) :: ((aD, zA g 10 (dbF d)) :: (w0 ++ (r ++ t)))) (Dq (fun (_ : va_W) => some (.int (1 : Int32))) (fun z => z ++ t) (fun z => ∃ cl2 d2 ev2 cr2, PS g ad s z ne nt cl2 os d2 ev2 cr2))
      have hcl : cc < cl.length := by omega
      refine r_istore_n [(3, .int (nI cc)), (0, .ref (ad 0)), (1, .ref s), (2, .int x)] dL_act_181 (by decide) rfl ?_
      refine r_aload_n 2 dL_act_182 rfl ?_
      refine r_getf (v := .ref aC) 0 dL_act_183 fl_L_122 rfl rfl ?_
      refine r_iload_n 0 dL_act_186 rfl ?_
      refine r_aaldm (t := 4) (n := ca.length) (f := (fun k => ca[k]?)) (v := .ref (ca.getD cc 0)) dL_act_187 rfl rfl (List.mem_cons_of_mem _ (List.mem_cons_of_mem _ (List.mem_append_right _ (List.mem_append_left _ hC.1)))) (ib_nI hcc (by omega)) (by rw [nI_clamp (by omega), List.getD_eq_getElem?_getD, List.getElem?_eq_getElem hcc]; rfl) ?_
      refine r_iconst (v := (1 : Int32)) dL_act_188 (by decide) ?_
      refine r_ialdm (n := 5) (f := (rw5 cl cc)) dL_act_189 (List.mem_cons_of_mem _ (List.mem_cons_of_mem _ (List.mem_append_right _ (List.mem_append_left _ (hC.2 cc hcc))))) (by decide) ?_
      refine r_top (w := .int (rw5 cl cc 1)) (by rw [cl1]) ?_
      refine r_istore [(4, .int (rw5 cl cc 1)), (3, .int (nI cc)), (0, .ref (ad 0)), (1, .ref s), (2, .int x)] dL_act_190 (by decide) rfl ?_
      refine r_aload_n 3 dL_act_192 rfl ?_
      refine r_iload_n 1 dL_act_193 rfl ?_
      refine k_V (x := 4158) (y := 40300) (rest := []) 0 dL_act_194 kv_L_163 (cl_takeBack (s := s) (aC := aC) (ca := ca) (c := cc) ((List.mem_cons_of_mem _ (List.mem_append_right _ (List.mem_append_left _ hC.1)))) (fun k hk => ⟨_, (List.mem_cons_of_mem _ (List.mem_append_right _ (List.mem_append_left _ (hC.2 k hk))))⟩) (by omega) hcc) rfl rfl rfl rfl (Nat.le_of_ble_eq_true rfl) (by decide) (by decide) ?_
      rintro q9 -
      show R g mL_act 17 4158 40300 197 [(4, .int (rw5 cl cc 1)), (3, .int (nI cc)), (0, .ref (ad 0)), (1, .ref s), (2, .int x)] [] ((s, .inr (10, [.int (nI ne), .int (nI nt), .ref q9, .ref aD, .ref aO, .ref aT, .int ev, .int cr])) :: ((q9, qA g 4 (ca.eraseIdx cc).length (fun k => (ca.eraseIdx cc)[k]?)) :: ((aD, zA g 10 (dbF d)) :: (w0 ++ (r ++ t))))) (Dq (fun (_ : va_W) => some (.int (1 : Int32))) (fun z => z ++ t) (fun z => ∃ cl2 d2 ev2 cr2, PS g ad s z ne nt cl2 os d2 ev2 cr2))
      refine r_aload_n 2 dL_act_197 rfl ?_
      refine r_iload_n 1 dL_act_198 rfl ?_
      refine r_seg (ws2 := ((s, .inr (10, [.int (nI ne), .int (nI nt), .ref q9, .ref aD, .ref aO, .ref aT, .int ev, .int cr])) :: ((aD, zA g 10 (dbF d)) :: ((q9, qA g 4 (ca.eraseIdx cc).length (fun k => (ca.eraseIdx cc)[k]?)) :: (w0 ++ (r ++ t)))))) [[(s, .inr (10, [.int (nI ne), .int (nI nt), .ref q9, .ref aD, .ref aO, .ref aT, .int ev, .int cr]))], [(q9, qA g 4 (ca.eraseIdx cc).length (fun k => (ca.eraseIdx cc)[k]?))], [(aD, zA g 10 (dbF d))], w0, r, t] [0, 2, 1, 3, 4, 5] rfl rfl rfl ?_
      refine r_seg (ws2 := (w0 ++ ([(s, .inr (10, [.int (nI ne), .int (nI nt), .ref q9, .ref aD, .ref aO, .ref aT, .int ev, .int cr])), (aD, zA g 10 (dbF d)), (q9, qA g 4 (ca.eraseIdx cc).length (fun k => (ca.eraseIdx cc)[k]?))] ++ (r ++ t)))) [[(s, .inr (10, [.int (nI ne), .int (nI nt), .ref q9, .ref aD, .ref aO, .ref aT, .int ev, .int cr]))], [(aD, zA g 10 (dbF d))], [(q9, qA g 4 (ca.eraseIdx cc).length (fun k => (ca.eraseIdx cc)[k]?))], w0, r, t] [3, 0, 1, 2, 4, 5] rfl rfl rfl ?_
      refine k_Vm (x := 4157) (y := 40294) (rest := []) dL_act_199 kv_L_167 (ap_takeBack hI hcl) rfl rfl (List.mem_append_left _ hc0) rfl (Nat.le_of_ble_eq_true rfl) (by decide) (by decide) ?_
      rintro w5 hI5
      obtain ⟨fs8, hc7⟩ := CI.cell hI5
      refine r_seg (ws2 := ((s, .inr (10, [.int (nI ne), .int (nI nt), .ref q9, .ref aD, .ref aO, .ref aT, .int ev, .int cr])) :: ((aD, zA g 10 (dbF d)) :: ((q9, qA g 4 (ca.eraseIdx cc).length (fun k => (ca.eraseIdx cc)[k]?)) :: (w5 ++ (r ++ t)))))) [w5, [(s, .inr (10, [.int (nI ne), .int (nI nt), .ref q9, .ref aD, .ref aO, .ref aT, .int ev, .int cr])), (aD, zA g 10 (dbF d)), (q9, qA g 4 (ca.eraseIdx cc).length (fun k => (ca.eraseIdx cc)[k]?))], r, t] [1, 0, 2, 3] rfl rfl rfl ?_
      show R g mL_act 17 4157 40294 202 [(4, .int (rw5 cl cc 1)), (3, .int (nI cc)), (0, .ref (ad 0)), (1, .ref s), (2, .int x)] [.int (rw5 cl cc 1)] ((s, .inr (10, [.int (nI ne), .int (nI nt), .ref q9, .ref aD, .ref aO, .ref aT, .int ev, .int cr])) :: ((aD, zA g 10 (dbF d)) :: ((q9, qA g 4 (ca.eraseIdx cc).length (fun k => (ca.eraseIdx cc)[k]?)) :: (w5 ++ (r ++ t))))) (Dq (fun (_ : va_W) => some (.int (1 : Int32))) (fun z => z ++ t) (fun z => ∃ cl2 d2 ev2 cr2, PS g ad s z ne nt cl2 os d2 ev2 cr2))
      refine r_iload 0 dL_act_202 rfl ?_
      refine r_icmp_ne (tgt := 211) dL_act_204 (by decide) (fun hc => absurd (rfl) hc) (fun _ => ?_)
      refine r_iconst (v := (1 : Int32)) dL_act_207 (by decide) ?_
      refine r_goto (tgt := 212) dL_act_208 (by decide) ?_
      refine r_seg (ws2 := ((s, .inr (10, [.int (nI ne), .int (nI nt), .ref q9, .ref aD, .ref aO, .ref aT, .int ev, .int cr])) :: ((aD, zA g 10 (dbF d)) :: (w5 ++ (((q9, qA g 4 (ca.eraseIdx cc).length (fun k => (ca.eraseIdx cc)[k]?)) :: r) ++ t))))) [[(s, .inr (10, [.int (nI ne), .int (nI nt), .ref q9, .ref aD, .ref aO, .ref aT, .int ev, .int cr]))], [(aD, zA g 10 (dbF d))], [(q9, qA g 4 (ca.eraseIdx cc).length (fun k => (ca.eraseIdx cc)[k]?))], w5, r, t] [0, 1, 3, 2, 4, 5] rfl rfl rfl ?_
      refine r_zret dL_act_212 rfl (by decide) ?_
      exact Dq.mk (simO s q9 aD aO aT ne nt ev cr :: (aD, zA g 10 (dbF d)) :: (w5 ++ ((q9, qA g 4 (ca.eraseIdx cc).length (fun k => (ca.eraseIdx cc)[k]?)) :: r))) rfl (by simp only [List.cons_append, List.append_assoc]) ⟨(cl.eraseIdx cc), d, ev, cr, q9, aD, aO, aT, (ca.eraseIdx cc), oa, w5, ((q9, qA g 4 (ca.eraseIdx cc).length (fun k => (ca.eraseIdx cc)[k]?)) :: r), rfl, hI5, SimR.del hC hlc hcc List.mem_cons_self (fun p hp => List.mem_cons_of_mem _ hp), OM.mono hO (fun p hp => List.mem_cons_of_mem _ hp), CVl_del hV hcl, CD_del hD hcl⟩
    · refine r_iconst (v := (1 : Int32)) dL_act_168 (by decide) ?_
      refine r_zret dL_act_169 rfl (by decide) ?_
      exact Dq.mk (simO s aC aD aO aT ne nt ev cr :: (aD, zA g 10 (dbF d)) :: (w0 ++ r)) rfl (by simp only [List.cons_append, List.append_assoc]) ⟨cl, d, ev, cr, aC, aD, aO, aT, ca, oa, w0, r, rfl, hI, hC, hO, hV, hD⟩
  have J213 : True → R g mL_act 17 4200 42000 213 [(0, .ref (ad 0)), (1, .ref s), (2, .int x)] [] ((s, .inr (10, [.int (nI ne), .int (nI nt), .ref aC, .ref aD, .ref aO, .ref aT, .int ev, .int cr])) :: ((aD, zA g 10 (dbF d)) :: (w0 ++ (r ++ t)))) (Dq (fun (_ : va_W) => some (.int (1 : Int32))) (fun z => z ++ t) (fun z => ∃ cl2 d2 ev2 cr2, PS g ad s z ne nt cl2 os d2 ev2 cr2)) := by
    intro _
    refine r_iload_n 2 dL_act_213 rfl ?_
    refine r_iconst (v := (4 : Int32)) dL_act_214 (by decide) ?_
    refine r_ishr dL_act_215 ?_
    refine r_aload_n 1 dL_act_216 rfl ?_
    refine r_getf (v := .int (nI nt)) 0 dL_act_217 fl_L_111 rfl rfl ?_
    refine k_S (x := 4200) (y := 42000) (rest := []) dL_act_220 ks_L_35 ((cl_below (v := (x >>> ((4 : Int32) &&& 31))) (n := nt) (n3) (by omega)).dq) rfl rfl (Nat.le_of_ble_eq_true rfl) (by decide) (by decide) ?_
    rintro ⟨⟩ -
    show R g mL_act 17 4200 42000 223 [(0, .ref (ad 0)), (1, .ref s), (2, .int x)] [.int (nI (bw (x >>> ((4 : Int32) &&& 31)) nt))] ((s, .inr (10, [.int (nI ne), .int (nI nt), .ref aC, .ref aD, .ref aO, .ref aT, .int ev, .int cr])) :: ((aD, zA g 10 (dbF d)) :: (w0 ++ (r ++ t)))) (Dq (fun (_ : va_W) => some (.int (1 : Int32))) (fun z => z ++ t) (fun z => ∃ cl2 d2 ev2 cr2, PS g ad s z ne nt cl2 os d2 ev2 cr2))
    have ht := bw_lt (x >>> ((4 : Int32) &&& 31)) (n := nt) (n3)
    generalize bw (x >>> ((4 : Int32) &&& 31)) nt = tt at ht ⊢
    show R g mL_act 17 4200 42000 223 [(0, .ref (ad 0)), (1, .ref s), (2, .int x)] [.int (nI tt)] ((s, .inr (10, [.int (nI ne), .int (nI nt), .ref aC, .ref aD, .ref aO, .ref aT, .int ev, .int cr])) :: ((aD, zA g 10 (dbF d)) :: (w0 ++ (r ++ t)))) (Dq (fun (_ : va_W) => some (.int (1 : Int32))) (fun z => z ++ t) (fun z => ∃ cl2 d2 ev2 cr2, PS g ad s z ne nt cl2 os d2 ev2 cr2))
    refine r_istore_n [(3, .int (nI tt)), (0, .ref (ad 0)), (1, .ref s), (2, .int x)] dL_act_223 (by decide) rfl ?_
    refine r_aload_n 2 dL_act_224 rfl ?_
    refine r_getf (v := .ref aD) 0 dL_act_225 fl_L_169 rfl rfl ?_
    refine r_iload_n 0 dL_act_228 rfl ?_
    refine r_aload_n 2 dL_act_229 rfl ?_
    refine r_getf (v := .ref aD) 0 dL_act_230 fl_L_169 rfl rfl ?_
    refine r_iload_n 0 dL_act_233 rfl ?_
    refine r_zaldm (n := 10) (f := (dbF d)) dL_act_234 (List.mem_cons_of_mem _ List.mem_cons_self) (ib_nI (by omega) (by decide)) ?_
    refine r_top (w := .int (dbF d tt)) (by rw [nI_clamp (by omega)]) ?_
    have J243 : R g mL_act 17 4200 42000 243 [(3, .int (nI tt)), (0, .ref (ad 0)), (1, .ref s), (2, .int x)] [.int (bI (!d.testBit tt)), .int (nI tt), .ref aD] ((s, .inr (10, [.int (nI ne), .int (nI nt), .ref aC, .ref aD, .ref aO, .ref aT, .int ev, .int cr])) :: ((aD, zA g 10 (dbF d)) :: (w0 ++ (r ++ t)))) (Dq (fun (_ : va_W) => some (.int (1 : Int32))) (fun z => z ++ t) (fun z => ∃ cl2 d2 ev2 cr2, PS g ad s z ne nt cl2 os d2 ev2 cr2)) := by
      refine r_zast (w := (bI (!d.testBit tt))) (ws2 := ((s, .inr (10, [.int (nI ne), .int (nI nt), .ref aC, .ref aD, .ref aO, .ref aT, .int ev, .int cr])) :: ((aD, zA g 10 (dbF (d ^^^ 2 ^ tt))) :: (w0 ++ (r ++ t))))) 1 dL_act_243 rfl (ib_nI (by omega) (by decide)) (bI_nar _) (by rw [nI_clamp (by omega), dbF_turn] <;> rfl) ?_
      refine r_aload_n 1 dL_act_244 rfl ?_
      refine r_iload_n 0 dL_act_245 rfl ?_
      refine r_seg (ws2 := (w0 ++ ([(s, .inr (10, [.int (nI ne), .int (nI nt), .ref aC, .ref aD, .ref aO, .ref aT, .int ev, .int cr])), (aD, zA g 10 (dbF (d ^^^ 2 ^ tt)))] ++ (r ++ t)))) [[(s, .inr (10, [.int (nI ne), .int (nI nt), .ref aC, .ref aD, .ref aO, .ref aT, .int ev, .int cr]))], [(aD, zA g 10 (dbF (d ^^^ 2 ^ tt)))], w0, r, t] [2, 0, 1, 3, 4] rfl rfl rfl ?_
      refine k_Vm (x := 4199) (y := 41994) (rest := []) dL_act_246 kv_L_173 (ap_turnDoubt hI ht) rfl rfl (List.mem_append_left _ hc0) rfl (Nat.le_of_ble_eq_true rfl) (by decide) (by decide) ?_
      rintro w5 hI5
      obtain ⟨fs10, hc9⟩ := CI.cell hI5
      refine r_seg (ws2 := ((s, .inr (10, [.int (nI ne), .int (nI nt), .ref aC, .ref aD, .ref aO, .ref aT, .int ev, .int cr])) :: ((aD, zA g 10 (dbF (d ^^^ 2 ^ tt))) :: (w5 ++ (r ++ t))))) [w5, [(s, .inr (10, [.int (nI ne), .int (nI nt), .ref aC, .ref aD, .ref aO, .ref aT, .int ev, .int cr])), (aD, zA g 10 (dbF (d ^^^ 2 ^ tt)))], r, t] [1, 0, 2, 3] rfl rfl rfl ?_
      show R g mL_act 17 4199 41994 249 [(3, .int (nI tt)), (0, .ref (ad 0)), (1, .ref s), (2, .int x)] [.int (bI (!d.testBit tt))] ((s, .inr (10, [.int (nI ne), .int (nI nt), .ref aC, .ref aD, .ref aO, .ref aT, .int ev, .int cr])) :: ((aD, zA g 10 (dbF (d ^^^ 2 ^ tt))) :: (w5 ++ (r ++ t)))) (Dq (fun (_ : va_W) => some (.int (1 : Int32))) (fun z => z ++ t) (fun z => ∃ cl2 d2 ev2 cr2, PS g ad s z ne nt cl2 os d2 ev2 cr2))
      refine r_aload_n 2 dL_act_249 rfl ?_
      refine r_getf (v := .ref aD) 0 dL_act_250 fl_L_169 rfl rfl ?_
      refine r_iload_n 0 dL_act_253 rfl ?_
      refine r_zaldm (n := 10) (f := (dbF (d ^^^ 2 ^ tt))) dL_act_254 (List.mem_cons_of_mem _ List.mem_cons_self) (ib_nI (by omega) (by decide)) ?_
      refine r_top (w := .int (bI (!d.testBit tt))) (by rw [nI_clamp (by omega), dbF_bI, Nat.testBit_xor, Nat.testBit_two_pow_self, Bool.xor_true]) ?_
      refine r_icmp_ne (tgt := 262) dL_act_255 (by decide) (fun hc => absurd (rfl) hc) (fun _ => ?_)
      refine r_iconst (v := (1 : Int32)) dL_act_258 (by decide) ?_
      refine r_goto (tgt := 263) dL_act_259 (by decide) ?_
      refine r_zret dL_act_263 rfl (by decide) ?_
      exact Dq.mk (simO s aC aD aO aT ne nt ev cr :: (aD, zA g 10 (dbF (d ^^^ 2 ^ tt))) :: (w5 ++ r)) rfl (by simp only [List.cons_append, List.append_assoc]) ⟨cl, (d ^^^ 2 ^ tt), ev, cr, aC, aD, aO, aT, ca, oa, w5, r, rfl, hI5, hC, hO, hV, hD⟩
    refine r_if_ne (tgt := 242) dL_act_235 (by decide) (fun h9 => ?_) (fun h9 => ?_)
    · have hb : d.testBit tt = true := by cases h8 : d.testBit tt with | false => exact absurd (dbF_0.mpr h8) h9 | true => rfl
      refine r_iconst (v := (0 : Int32)) dL_act_242 (by decide) ?_
      refine r_top (w := .int (bI (!d.testBit tt))) (by rw [hb]; rfl) ?_
      exact J243
    · have hb : d.testBit tt = false := dbF_0.mp h9
      refine r_iconst (v := (1 : Int32)) dL_act_238 (by decide) ?_
      refine r_goto (tgt := 243) dL_act_239 (by decide) ?_
      refine r_top (w := .int (bI (!d.testBit tt))) (by rw [hb]; rfl) ?_
      exact J243
  have J264 : True → R g mL_act 17 4200 42000 264 [(0, .ref (ad 0)), (1, .ref s), (2, .int x)] [] ((s, .inr (10, [.int (nI ne), .int (nI nt), .ref aC, .ref aD, .ref aO, .ref aT, .int ev, .int cr])) :: ((aD, zA g 10 (dbF d)) :: (w0 ++ (r ++ t)))) (Dq (fun (_ : va_W) => some (.int (1 : Int32))) (fun z => z ++ t) (fun z => ∃ cl2 d2 ev2 cr2, PS g ad s z ne nt cl2 os d2 ev2 cr2)) := by
    intro _
    refine r_iconst (v := (1 : Int32)) dL_act_264 (by decide) ?_
    refine r_iload_n 2 dL_act_265 rfl ?_
    refine r_bipush (v := (6 : Int32)) dL_act_266 (by decide) ?_
    refine r_ishr dL_act_268 ?_
    refine r_iconst (v := (3 : Int32)) dL_act_269 (by decide) ?_
    refine r_top (w := .int (nI 3)) (rfl) ?_
    refine k_S (x := 4200) (y := 42000) (rest := [.int (1 : Int32)]) dL_act_270 ks_L_35 ((cl_below (v := (x >>> ((6 : Int32) &&& 31))) (n := 3) (by decide) (by decide)).dq) rfl rfl (Nat.le_of_ble_eq_true rfl) (by decide) (by decide) ?_
    rintro ⟨⟩ -
    show R g mL_act 17 4200 42000 273 [(0, .ref (ad 0)), (1, .ref s), (2, .int x)] [.int (nI (bw (x >>> ((6 : Int32) &&& 31)) 3)), .int (1 : Int32)] ((s, .inr (10, [.int (nI ne), .int (nI nt), .ref aC, .ref aD, .ref aO, .ref aT, .int ev, .int cr])) :: ((aD, zA g 10 (dbF d)) :: (w0 ++ (r ++ t)))) (Dq (fun (_ : va_W) => some (.int (1 : Int32))) (fun z => z ++ t) (fun z => ∃ cl2 d2 ev2 cr2, PS g ad s z ne nt cl2 os d2 ev2 cr2))
    have hk3 := bw_lt (x >>> ((6 : Int32) &&& 31)) (n := 3) (by decide)
    generalize bw (x >>> ((6 : Int32) &&& 31)) 3 = k3 at hk3 ⊢
    show R g mL_act 17 4200 42000 273 [(0, .ref (ad 0)), (1, .ref s), (2, .int x)] [.int (nI k3), .int (1 : Int32)] ((s, .inr (10, [.int (nI ne), .int (nI nt), .ref aC, .ref aD, .ref aO, .ref aT, .int ev, .int cr])) :: ((aD, zA g 10 (dbF d)) :: (w0 ++ (r ++ t)))) (Dq (fun (_ : va_W) => some (.int (1 : Int32))) (fun z => z ++ t) (fun z => ∃ cl2 d2 ev2 cr2, PS g ad s z ne nt cl2 os d2 ev2 cr2))
    refine r_iadd dL_act_273 ?_
    refine r_top (w := .int (nI (1 + k3))) (congrArg Value.int (nI_add 1 k3)) ?_
    refine r_istore_n [(3, .int (nI (1 + k3))), (0, .ref (ad 0)), (1, .ref s), (2, .int x)] dL_act_274 (by decide) rfl ?_
    refine r_aload_n 2 dL_act_275 rfl ?_
    refine r_getf (v := .int cr) 0 dL_act_276 fl_L_177 rfl rfl ?_
    refine r_istore [(4, .int cr), (3, .int (nI (1 + k3))), (0, .ref (ad 0)), (1, .ref s), (2, .int x)] dL_act_279 (by decide) rfl ?_
    refine r_iconst (v := (0 : Int32)) dL_act_281 (by decide) ?_
    refine r_top (w := .int (nI 0)) (rfl) ?_
    refine r_istore [(5, .int (nI 0)), (4, .int cr), (3, .int (nI (1 + k3))), (0, .ref (ad 0)), (1, .ref s), (2, .int x)] dL_act_282 (by decide) rfl ?_
    have L : ∀ m i, m + i = 1 + k3 → R g mL_act 17 (1280 * m + 100) (12800 * m + 1000) 284 [(5, .int (nI i)), (4, .int cr), (3, .int (nI (1 + k3))), (0, .ref (ad 0)), (1, .ref s), (2, .int x)] [] ((s, .inr (10, [.int (nI ne), .int (nI nt), .ref aC, .ref aD, .ref aO, .ref aT, .int (evS cl nt os i (d, ev, cr)).2.1, .int (evS cl nt os i (d, ev, cr)).2.2])) :: ((aD, zA g 10 (dbF (evS cl nt os i (d, ev, cr)).1)) :: (w0 ++ (r ++ t)))) (Dq (fun (_ : va_W) => some (.int (1 : Int32))) (fun z => z ++ t) (fun z => ∃ cl2 d2 ev2 cr2, PS g ad s z ne nt cl2 os d2 ev2 cr2)) := by
      intro m
      induction m with
      | zero =>
        intro i hi
        have ei : i = 1 + k3 := by omega
        rw [ei]
        refine r_room (x2 := 100) (y2 := 1000) (by omega) (by omega) ?_
        refine r_iload 0 dL_act_284 rfl ?_
        refine r_iload_n 2 dL_act_286 rfl ?_
        refine r_icmp_ge (tgt := 300) dL_act_287 (by decide) (fun _ => ?_) (fun hc => absurd (nI_le (Nat.le_refl _) (by omega)) hc)
        refine r_aload_n 3 dL_act_300 rfl ?_
        refine r_iload_n 2 dL_act_301 rfl ?_
        refine r_seg (ws2 := (w0 ++ ([(s, .inr (10, [.int (nI ne), .int (nI nt), .ref aC, .ref aD, .ref aO, .ref aT, .int (evS cl nt os (1 + k3) (d, ev, cr)).2.1, .int (evS cl nt os (1 + k3) (d, ev, cr)).2.2])), (aD, zA g 10 (dbF (evS cl nt os (1 + k3) (d, ev, cr)).1))] ++ (r ++ t)))) [[(s, .inr (10, [.int (nI ne), .int (nI nt), .ref aC, .ref aD, .ref aO, .ref aT, .int (evS cl nt os (1 + k3) (d, ev, cr)).2.1, .int (evS cl nt os (1 + k3) (d, ev, cr)).2.2]))], [(aD, zA g 10 (dbF (evS cl nt os (1 + k3) (d, ev, cr)).1))], w0, r, t] [2, 0, 1, 3, 4] rfl rfl rfl ?_
        refine k_Vm (x := 99) (y := 994) (rest := []) dL_act_302 kv_L_183 (ap_passEvenings (k := 1 + k3) hI (by omega) (by omega)) rfl rfl (List.mem_append_left _ hc0) rfl (Nat.le_of_ble_eq_true rfl) (by decide) (by decide) ?_
        rintro w5 hI5
        obtain ⟨fs12, hc11⟩ := CI.cell hI5
        refine r_seg (ws2 := ((s, .inr (10, [.int (nI ne), .int (nI nt), .ref aC, .ref aD, .ref aO, .ref aT, .int (evS cl nt os (1 + k3) (d, ev, cr)).2.1, .int (evS cl nt os (1 + k3) (d, ev, cr)).2.2])) :: ((aD, zA g 10 (dbF (evS cl nt os (1 + k3) (d, ev, cr)).1)) :: (w5 ++ (r ++ t))))) [w5, [(s, .inr (10, [.int (nI ne), .int (nI nt), .ref aC, .ref aD, .ref aO, .ref aT, .int (evS cl nt os (1 + k3) (d, ev, cr)).2.1, .int (evS cl nt os (1 + k3) (d, ev, cr)).2.2])), (aD, zA g 10 (dbF (evS cl nt os (1 + k3) (d, ev, cr)).1))], r, t] [1, 0, 2, 3] rfl rfl rfl ?_
        show R g mL_act 17 99 994 305 [(5, .int (nI (1 + k3))), (4, .int cr), (3, .int (nI (1 + k3))), (0, .ref (ad 0)), (1, .ref s), (2, .int x)] [.int ((evS cl nt os (1 + k3) (d, ev, cr)).2.2 - cr)] ((s, .inr (10, [.int (nI ne), .int (nI nt), .ref aC, .ref aD, .ref aO, .ref aT, .int (evS cl nt os (1 + k3) (d, ev, cr)).2.1, .int (evS cl nt os (1 + k3) (d, ev, cr)).2.2])) :: ((aD, zA g 10 (dbF (evS cl nt os (1 + k3) (d, ev, cr)).1)) :: (w5 ++ (r ++ t)))) (Dq (fun (_ : va_W) => some (.int (1 : Int32))) (fun z => z ++ t) (fun z => ∃ cl2 d2 ev2 cr2, PS g ad s z ne nt cl2 os d2 ev2 cr2))
        refine r_aload_n 4 dL_act_305 rfl ?_
        refine r_getf (v := .int (evS cl nt os (1 + k3) (d, ev, cr)).2.2) 0 dL_act_306 fl_L_177 rfl rfl ?_
        refine r_iload 1 dL_act_309 rfl ?_
        refine r_isub dL_act_311 ?_
        refine r_icmp_ne (tgt := 319) dL_act_312 (by decide) (fun hc => absurd (rfl) hc) (fun _ => ?_)
        refine r_iconst (v := (1 : Int32)) dL_act_315 (by decide) ?_
        refine r_goto (tgt := 320) dL_act_316 (by decide) ?_
        refine r_zret dL_act_320 rfl (by decide) ?_
        exact Dq.mk (simO s aC aD aO aT ne nt (evS cl nt os (1 + k3) (d, ev, cr)).2.1 (evS cl nt os (1 + k3) (d, ev, cr)).2.2 :: (aD, zA g 10 (dbF (evS cl nt os (1 + k3) (d, ev, cr)).1)) :: (w5 ++ r)) rfl (by simp only [List.cons_append, List.append_assoc]) ⟨cl, (evS cl nt os (1 + k3) (d, ev, cr)).1, (evS cl nt os (1 + k3) (d, ev, cr)).2.1, (evS cl nt os (1 + k3) (d, ev, cr)).2.2, aC, aD, aO, aT, ca, oa, w5, r, rfl, hI5, hC, hO, hV, hD⟩
      | succ m ih =>
        intro i hi
        have hi2 : i < 1 + k3 := by omega
        refine r_room (x2 := (1280 * m + 100 + 1280)) (y2 := (12800 * m + 1000 + 12800)) (by omega) (by omega) ?_
        refine r_iload 0 dL_act_284 rfl ?_
        refine r_iload_n 2 dL_act_286 rfl ?_
        refine r_icmp_ge (tgt := 300) dL_act_287 (by decide) (fun hc => absurd hc (nI_ge (by omega) (by omega))) (fun _ => ?_)
        refine r_aload_n 4 dL_act_290 rfl ?_
        refine r_room (x2 := (1280 * m + 100 + 0) + 1280) (y2 := (12800 * m + 1000 + 0) + 12800) (rq rfl) (rq rfl) ?_
        refine k_V (x := (1280 * m + 100 + 0)) (y := (12800 * m + 1000 + 0)) (rest := []) 0 dL_act_291 kv_L_180 ((cl_pass (s := s) (aC := aC) (aD := aD) (aO := aO) (aT := aT) (ev := (evS cl nt os i (d, ev, cr)).2.1) (cr := (evS cl nt os i (d, ev, cr)).2.2) (d := (evS cl nt os i (d, ev, cr)).1) (SimR.mono hC (fun p hp => List.mem_append_right _ (List.mem_append_left _ hp))) (OM.mono hO (fun p hp => List.mem_append_right _ (List.mem_append_left _ hp))) hV n4 (by omega) n3).dq) rfl rfl rfl rfl (Nat.le_of_ble_eq_true rfl) (by decide) (by decide) ?_
        rintro ⟨⟩ -
        show R g mL_act 17 (1280 * m + 100 + 0) (12800 * m + 1000 + 0) 294 [(5, .int (nI i)), (4, .int cr), (3, .int (nI (1 + k3))), (0, .ref (ad 0)), (1, .ref s), (2, .int x)] [] ((s, .inr (10, [.int (nI ne), .int (nI nt), .ref aC, .ref aD, .ref aO, .ref aT, .int (evS cl nt os (i + 1) (d, ev, cr)).2.1, .int (evS cl nt os (i + 1) (d, ev, cr)).2.2])) :: ((aD, zA g 10 (dbF (evS cl nt os (i + 1) (d, ev, cr)).1)) :: (w0 ++ (r ++ t)))) (Dq (fun (_ : va_W) => some (.int (1 : Int32))) (fun z => z ++ t) (fun z => ∃ cl2 d2 ev2 cr2, PS g ad s z ne nt cl2 os d2 ev2 cr2))
        refine r_iinc (v2 := (nI (i + 1))) 0 [(5, .int (nI (i + 1))), (4, .int cr), (3, .int (nI (1 + k3))), (0, .ref (ad 0)), (1, .ref s), (2, .int x)] dL_act_294 rfl (nI_1 i) (by decide) rfl ?_
        refine r_goto (tgt := 284) dL_act_297 (by decide) ?_
        refine r_ls [0, 1, 2, 3, 4, 5] (ls2 := [(5, .int (nI (i + 1))), (4, .int cr), (3, .int (nI (1 + k3))), (0, .ref (ad 0)), (1, .ref s), (2, .int x)]) rfl ?_
        exact ih (i + 1) (by omega)
    refine r_room (x2 := 1280 * (1 + k3) + 100) (y2 := 12800 * (1 + k3) + 1000) (by omega) (by omega) ?_
    exact L (1 + k3) 0 (by omega)
  refine r_iload_n 2 dL_act_0 rfl ?_
  refine r_bipush (v := (8 : Int32)) dL_act_1 (by decide) ?_
  refine r_top (w := .int (nI 8)) (rfl) ?_
  refine k_S (x := 4200) (y := 42000) (rest := []) dL_act_3 ks_L_35 ((cl_below (v := x) (n := 8) (by decide) (by decide)).dq) rfl rfl (Nat.le_of_ble_eq_true rfl) (by decide) (by decide) ?_
  rintro ⟨⟩ -
  show R g mL_act 17 4200 42000 6 [(0, .ref (ad 0)), (1, .ref s), (2, .int x)] [.int (nI (bw x 8))] ((s, .inr (10, [.int (nI ne), .int (nI nt), .ref aC, .ref aD, .ref aO, .ref aT, .int ev, .int cr])) :: ((aD, zA g 10 (dbF d)) :: (w0 ++ (r ++ t)))) (Dq (fun (_ : va_W) => some (.int (1 : Int32))) (fun z => z ++ t) (fun z => ∃ cl2 d2 ev2 cr2, PS g ad s z ne nt cl2 os d2 ev2 cr2))
  have hb8 := bw_lt x (n := 8) (by decide)
  generalize bw x 8 = b8 at hb8 ⊢
  show R g mL_act 17 4200 42000 6 [(0, .ref (ad 0)), (1, .ref s), (2, .int x)] [.int (nI b8)] ((s, .inr (10, [.int (nI ne), .int (nI nt), .ref aC, .ref aD, .ref aO, .ref aT, .int ev, .int cr])) :: ((aD, zA g 10 (dbF d)) :: (w0 ++ (r ++ t)))) (Dq (fun (_ : va_W) => some (.int (1 : Int32))) (fun z => z ++ t) (fun z => ∃ cl2 d2 ev2 cr2, PS g ad s z ne nt cl2 os d2 ev2 cr2))
  have hb9 : b8 = 0 ∨ b8 = 1 ∨ b8 = 2 ∨ b8 = 3 ∨ b8 = 4 ∨ b8 = 5 ∨ b8 = 6 ∨ b8 = 7 := by omega
  rcases hb9 with rfl | rfl | rfl | rfl | rfl | rfl | rfl | rfl
  · refine r_tableIn (off := 34) (tgt := 40) dL_act_6 (by decide) (by decide) (by decide) (by decide) ?_
    exact J40 trivial
  · refine r_tableIn (off := 34) (tgt := 40) dL_act_6 (by decide) (by decide) (by decide) (by decide) ?_
    exact J40 trivial
  · refine r_tableIn (off := 154) (tgt := 160) dL_act_6 (by decide) (by decide) (by decide) (by decide) ?_
    exact J160 trivial
  · refine r_tableIn (off := 207) (tgt := 213) dL_act_6 (by decide) (by decide) (by decide) (by decide) ?_
    exact J213 trivial
  · refine r_tableIn (off := 207) (tgt := 213) dL_act_6 (by decide) (by decide) (by decide) (by decide) ?_
    exact J213 trivial
  · refine r_tableOut (tgt := 264) dL_act_6 (by decide) (by decide) ?_
    exact J264 trivial
  · refine r_tableOut (tgt := 264) dL_act_6 (by decide) (by decide) ?_
    exact J264 trivial
  · refine r_tableOut (tgt := 264) dL_act_6 (by decide) (by decide) ?_
    exact J264 trivial
