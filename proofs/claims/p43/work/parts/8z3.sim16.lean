set_option maxRecDepth 20000 in
set_option maxHeartbeats 16000000 in
theorem law_0 {nm : String} {g : GG} {t : va_W} {Q : Rs → va_W → Prop} (hL : gL g ≤ 260) (hQ : ∀ ws, Q (.inl (some (.int 1))) ws) : R g (mL_law nm) 1400 65000 4100000 0 [(0, .ref (gb g))] [] t Q := by
  refine r_new (N := 8) (x := 64999) (y := 4099992) dL_law_0 nl_L_20 (fun q1 => ?_)
  refine r_dup dL_law_3 rfl ?_
  refine k_I (x := 64923) (y := 4093314) (rest := [.ref q1]) dL_law_4 ki_L_186 (cf_init) rfl rfl (Nat.le_of_ble_eq_true rfl) (by decide) (by decide) ?_
  rintro ⟨ad, w0⟩ ⟨had, hF⟩
  try dsimp only at had hF
  have had2 : ad 0 = q1 := had
  subst had2
  show R g (mL_law nm) 1400 64923 4093314 7 [(0, .ref (gb g))] [.ref (ad 0)] (w0 ++ t) Q
  refine r_astore_n [(1, .ref (ad 0)), (0, .ref (gb g))] dL_law_7 (Nat.le_of_ble_eq_true rfl) rfl ?_
  refine r_new (N := 4) (x := 64922) (y := 4093310) dL_law_8 nl_L_66 (fun q2 => ?_)
  refine r_dup dL_law_11 rfl ?_
  refine k_I (x := 64921) (y := 4093294) (rest := [.ref q2]) dL_law_12 ki_L_68 (cj_sb) rfl rfl (Nat.le_of_ble_eq_true rfl) (by decide) (by decide) ?_
  rintro v -
  show R g (mL_law nm) 1400 64921 4093294 15 [(1, .ref (ad 0)), (0, .ref (gb g))] [.ref q2] ((q2, .inr (13, [.ref v, .int (0 : Int32), .int (0 : Int32), .int (0 : Int32)])) :: ((v, yA g 16 (fun _ => 0)) :: (w0 ++ t))) Q
  refine r_astore_n [(2, .ref q2), (1, .ref (ad 0)), (0, .ref (gb g))] dL_law_15 (Nat.le_of_ble_eq_true rfl) rfl ?_
  refine r_aload_n 2 dL_law_16 rfl ?_
  refine r_bipush (v := (6 : Int32)) dL_law_17 (by decide) ?_
  refine r_aload_n 0 dL_law_19 rfl ?_
  refine k_S (x := 62721) (y := 693294) (rest := []) dL_law_20 ks_L_187 (cl_told (a := q2) (v := v) hL) rfl rfl (Nat.le_of_ble_eq_true rfl) (by decide) (by decide) ?_
  rintro ⟨s, z2⟩ ⟨aC, aD, aO, aT, ne, nt, v2, m2, f2, ca, oa, cl, os, w9, e2, h0, h6, h0', h6', hC, hO, hV, hD, h16, hB, hLn, hk⟩
  try dsimp only at aC aD aO aT ne nt v2 m2 f2 ca oa cl os w9 e2 h0 h6 h0' h6' hC hO hV hD h16 hB hLn hk
  have e3 : z2 = _ := e2
  subst e3
  show R g (mL_law nm) 1400 62721 693294 23 [(2, .ref q2), (1, .ref (ad 0)), (0, .ref (gb g))] [.ref s] ((s, .inr (10, [.int (nI ne), .int (nI nt), .ref aC, .ref aD, .ref aO, .ref aT, .int (0 : Int32), .int (0 : Int32)])) :: ((aD, zA g 10 (dbF 0)) :: ((q2, .inr (13, [.ref v2, .int (0 : Int32), .int (0 : Int32), .int (nI (allT ne nt cl os).length)])) :: ((v2, yA g m2 f2) :: (w9 ++ (w0 ++ t)))))) Q
  refine r_seg (ws2 := ((q2, .inr (13, [.ref v2, .int (0 : Int32), .int (0 : Int32), .int (nI (allT ne nt cl os).length)])) :: ((v2, yA g m2 f2) :: ([(s, .inr (10, [.int (nI ne), .int (nI nt), .ref aC, .ref aD, .ref aO, .ref aT, .int (0 : Int32), .int (0 : Int32)])), (aD, zA g 10 (dbF 0))] ++ (w9 ++ (w0 ++ t)))))) [[(s, .inr (10, [.int (nI ne), .int (nI nt), .ref aC, .ref aD, .ref aO, .ref aT, .int (0 : Int32), .int (0 : Int32)])), (aD, zA g 10 (dbF 0))], [(q2, .inr (13, [.ref v2, .int (0 : Int32), .int (0 : Int32), .int (nI (allT ne nt cl os).length)]))], [(v2, yA g m2 f2)], w9, w0, t] [1, 2, 0, 3, 4, 5] rfl rfl rfl ?_
  refine r_astore_n [(3, .ref s), (2, .ref q2), (1, .ref (ad 0)), (0, .ref (gb g))] dL_law_23 (Nat.le_of_ble_eq_true rfl) rfl ?_
  refine r_aload_n 2 dL_law_24 rfl ?_
  refine r_aload_n 1 dL_law_25 rfl ?_
  refine k_V (x := 62719) (y := 689288) (rest := [.ref (ad 0)]) 0 dL_law_26 kv_L_84 (cj_strB hB) rfl rfl rfl rfl (Nat.le_of_ble_eq_true rfl) (by decide) (by decide) ?_
  rintro ⟨s9, b9, f9⟩ hf9
  try dsimp only at hf9
  show R g (mL_law nm) 1400 62719 689288 29 [(3, .ref s), (2, .ref q2), (1, .ref (ad 0)), (0, .ref (gb g))] [.ref s9, .ref (ad 0)] ((s9, .inr (12, [.ref b9, .int (0 : Int32), .int (0 : Int32), .int (0 : Int32)])) :: ((b9, yA g (allT ne nt cl os).length f9) :: ((q2, .inr (13, [.ref v2, .int (0 : Int32), .int (0 : Int32), .int (nI (allT ne nt cl os).length)])) :: ((v2, yA g m2 f2) :: ([(s, .inr (10, [.int (nI ne), .int (nI nt), .ref aC, .ref aD, .ref aO, .ref aT, .int (0 : Int32), .int (0 : Int32)])), (aD, zA g 10 (dbF 0))] ++ (w9 ++ (w0 ++ t))))))) Q
  refine r_seg (ws2 := ((s9, .inr (12, [.ref b9, .int (0 : Int32), .int (0 : Int32), .int (0 : Int32)])) :: ((b9, yA g (allT ne nt cl os).length f9) :: (w0 ++ ([(q2, .inr (13, [.ref v2, .int (0 : Int32), .int (0 : Int32), .int (nI (allT ne nt cl os).length)])), (v2, yA g m2 f2)] ++ ([(s, .inr (10, [.int (nI ne), .int (nI nt), .ref aC, .ref aD, .ref aO, .ref aT, .int (0 : Int32), .int (0 : Int32)])), (aD, zA g 10 (dbF 0))] ++ (w9 ++ t))))))) [[(s9, .inr (12, [.ref b9, .int (0 : Int32), .int (0 : Int32), .int (0 : Int32)]))], [(b9, yA g (allT ne nt cl os).length f9)], [(q2, .inr (13, [.ref v2, .int (0 : Int32), .int (0 : Int32), .int (nI (allT ne nt cl os).length)])), (v2, yA g m2 f2)], [(s, .inr (10, [.int (nI ne), .int (nI nt), .ref aC, .ref aD, .ref aO, .ref aT, .int (0 : Int32), .int (0 : Int32)])), (aD, zA g 10 (dbF 0))], w9, w0, t] [0, 1, 5, 2, 3, 4, 6] rfl rfl rfl ?_
  have hOT : ∀ k, k < os.length → (oG os k).2.1 < nt ∧ ∀ T, (oG os k).2.2 = some T → TB ne nt 4 T ∧ tkn 4 T ≤ 43 := fun k hk1 => ⟨(hO.2.2.2.2 k hk1).2.1, fun T hT => ⟨((hO.2.2.2.2 k hk1).2.2 T hT).2, hk k T hk1 hT⟩⟩
  obtain ⟨af1, af2, -⟩ := all_f h6 h6' hV.2.2 h16 hO.2.1 hOT
  have hA : ASC (allT ne nt cl os) := by rw [← af1]; exact asc_fl _ (af2 (4, 59, 0))
  show R g (mL_law nm) 1400 62719 689288 29 [(3, .ref s), (2, .ref q2), (1, .ref (ad 0)), (0, .ref (gb g))] [.ref s9, .ref (ad 0)] ((s9, .inr (12, [.ref b9, .int (0 : Int32), .int (0 : Int32), .int (0 : Int32)])) :: ((b9, yA g (allT ne nt cl os).length f9) :: (w0 ++ ([(q2, .inr (13, [.ref v2, .int (0 : Int32), .int (0 : Int32), .int (nI (allT ne nt cl os).length)])), (v2, yA g m2 f2)] ++ ([(s, .inr (10, [.int (nI ne), .int (nI nt), .ref aC, .ref aD, .ref aO, .ref aT, .int (0 : Int32), .int (0 : Int32)])), (aD, zA g 10 (dbF 0))] ++ (w9 ++ t)))))) Q
  refine k_S (x := 62649) (y := 688868) (rest := []) dL_law_29 ks_L_190 (cl_taught (L := (allT ne nt cl os)) (tape := fun _ => 0) rfl rfl hA hf9 hLn h0 h6 h0' h6' hV.2.2 hD h16 hO.2.1 hOT hF) rfl rfl (Nat.le_of_ble_eq_true rfl) (by decide) (by decide) ?_
  rintro wc hI
  try dsimp only at hI
  show R g (mL_law nm) 1400 62649 688868 32 [(3, .ref s), (2, .ref q2), (1, .ref (ad 0)), (0, .ref (gb g))] [.int (0 : Int32)] ((s9, .inr (12, [.ref b9, .int (0 : Int32), .int (0 : Int32), .int (0 : Int32)])) :: ((b9, yA g (allT ne nt cl os).length f9) :: (wc ++ ([(q2, .inr (13, [.ref v2, .int (0 : Int32), .int (0 : Int32), .int (nI (allT ne nt cl os).length)])), (v2, yA g m2 f2)] ++ ([(s, .inr (10, [.int (nI ne), .int (nI nt), .ref aC, .ref aD, .ref aO, .ref aT, .int (0 : Int32), .int (0 : Int32)])), (aD, zA g 10 (dbF 0))] ++ (w9 ++ t)))))) Q
  refine r_if_eq (tgt := 37) dL_law_32 (by decide) (fun _ => ?_) (fun hc => absurd (rfl) hc)
  obtain ⟨fs0, hc0⟩ := CI.cell hI
  refine r_seg (ws2 := (wc ++ ([(s9, .inr (12, [.ref b9, .int (0 : Int32), .int (0 : Int32), .int (0 : Int32)])), (b9, yA g (allT ne nt cl os).length f9)] ++ ([(q2, .inr (13, [.ref v2, .int (0 : Int32), .int (0 : Int32), .int (nI (allT ne nt cl os).length)])), (v2, yA g m2 f2)] ++ ([(s, .inr (10, [.int (nI ne), .int (nI nt), .ref aC, .ref aD, .ref aO, .ref aT, .int (0 : Int32), .int (0 : Int32)])), (aD, zA g 10 (dbF 0))] ++ (w9 ++ t)))))) [[(s9, .inr (12, [.ref b9, .int (0 : Int32), .int (0 : Int32), .int (0 : Int32)])), (b9, yA g (allT ne nt cl os).length f9)], wc, [(q2, .inr (13, [.ref v2, .int (0 : Int32), .int (0 : Int32), .int (nI (allT ne nt cl os).length)])), (v2, yA g m2 f2)], [(s, .inr (10, [.int (nI ne), .int (nI nt), .ref aC, .ref aD, .ref aO, .ref aT, .int (0 : Int32), .int (0 : Int32)])), (aD, zA g 10 (dbF 0))], w9, t] [1, 0, 2, 3, 4, 5] rfl rfl rfl ?_
  refine r_aload_n 2 dL_law_37 rfl ?_
  refine k_Vm (x := 62649) (y := 688868) (rest := []) dL_law_38 kv_L_194 (ap_tellers hI) rfl rfl (List.mem_append_left _ hc0) rfl (Nat.le_of_ble_eq_true rfl) (by decide) (by decide) ?_
  rintro w6 hI6
  show R g (mL_law nm) 1400 62649 688868 41 [(3, .ref s), (2, .ref q2), (1, .ref (ad 0)), (0, .ref (gb g))] [.int (nI nt)] (w6 ++ ([(s9, .inr (12, [.ref b9, .int (0 : Int32), .int (0 : Int32), .int (0 : Int32)])), (b9, yA g (allT ne nt cl os).length f9)] ++ ([(q2, .inr (13, [.ref v2, .int (0 : Int32), .int (0 : Int32), .int (nI (allT ne nt cl os).length)])), (v2, yA g m2 f2)] ++ ([(s, .inr (10, [.int (nI ne), .int (nI nt), .ref aC, .ref aD, .ref aO, .ref aT, .int (0 : Int32), .int (0 : Int32)])), (aD, zA g 10 (dbF 0))] ++ (w9 ++ t))))) Q
  refine r_istore [(4, .int (nI nt)), (3, .ref s), (2, .ref q2), (1, .ref (ad 0)), (0, .ref (gb g))] dL_law_41 (Nat.le_of_ble_eq_true rfl) rfl ?_
  refine r_iconst (v := (0 : Int32)) dL_law_43 (by decide) ?_
  refine r_top (w := .int (nI 0)) (rfl) ?_
  refine r_istore [(5, .int (nI 0)), (4, .int (nI nt)), (3, .ref s), (2, .ref q2), (1, .ref (ad 0)), (0, .ref (gb g))] dL_law_44 (Nat.le_of_ble_eq_true rfl) rfl ?_
  refine r_ls [0, 1, 2, 4, 5] (ls2 := [(5, .int (nI 0)), (4, .int (nI nt)), (3, .ref s), (1, .ref (ad 0)), (0, .ref (gb g))]) rfl ?_
  refine r_room (x2 := 10000 * 6 + 2100) (y2 := 100000 * 6 + 13000) (by decide) (by decide) ?_
  refine r_seg (ws2 := ([(s, .inr (10, [.int (nI ne), .int (nI nt), .ref aC, .ref aD, .ref aO, .ref aT, .int (0 : Int32), .int (0 : Int32)])), (aD, zA g 10 (dbF 0))] ++ (w6 ++ (w9 ++ ([(s9, .inr (12, [.ref b9, .int (0 : Int32), .int (0 : Int32), .int (0 : Int32)])), (b9, yA g (allT ne nt cl os).length f9)] ++ ([(q2, .inr (13, [.ref v2, .int (0 : Int32), .int (0 : Int32), .int (nI (allT ne nt cl os).length)])), (v2, yA g m2 f2)] ++ t)))))) [w6, [(s9, .inr (12, [.ref b9, .int (0 : Int32), .int (0 : Int32), .int (0 : Int32)])), (b9, yA g (allT ne nt cl os).length f9)], [(q2, .inr (13, [.ref v2, .int (0 : Int32), .int (0 : Int32), .int (nI (allT ne nt cl os).length)])), (v2, yA g m2 f2)], [(s, .inr (10, [.int (nI ne), .int (nI nt), .ref aC, .ref aD, .ref aO, .ref aT, .int (0 : Int32), .int (0 : Int32)])), (aD, zA g 10 (dbF 0))], w9, t] [3, 0, 4, 1, 2, 5] rfl rfl rfl ?_
  have hP : PS g ad s ((s, .inr (10, [.int (nI ne), .int (nI nt), .ref aC, .ref aD, .ref aO, .ref aT, .int (0 : Int32), .int (0 : Int32)])) :: (aD, zA g 10 (dbF 0)) :: (w6 ++ w9)) ne nt cl os 0 0 0 := ⟨aC, aD, aO, aT, ca, oa, w6, w9, rfl, hI6, hC, hO, hV, hD⟩
  have K := law_T (Q := Q) (nm := nm) (t := [(s9, .inr (12, [.ref b9, .int (0 : Int32), .int (0 : Int32), .int (0 : Int32)])), (b9, yA g (allT ne nt cl os).length f9)] ++ ([(q2, .inr (13, [.ref v2, .int (0 : Int32), .int (0 : Int32), .int (nI (allT ne nt cl os).length)])), (v2, yA g m2 f2)] ++ t)) hL hQ 6 0 (by decide) _ _ _ _ _ hP
  rw [show ((s, .inr (10, [.int (nI ne), .int (nI nt), .ref aC, .ref aD, .ref aO, .ref aT, .int (0 : Int32), .int (0 : Int32)])) :: (aD, zA g 10 (dbF 0)) :: (w6 ++ w9)) ++ ([(s9, .inr (12, [.ref b9, .int (0 : Int32), .int (0 : Int32), .int (0 : Int32)])), (b9, yA g (allT ne nt cl os).length f9)] ++ ([(q2, .inr (13, [.ref v2, .int (0 : Int32), .int (0 : Int32), .int (nI (allT ne nt cl os).length)])), (v2, yA g m2 f2)] ++ t)) = [(s, .inr (10, [.int (nI ne), .int (nI nt), .ref aC, .ref aD, .ref aO, .ref aT, .int (0 : Int32), .int (0 : Int32)])), (aD, zA g 10 (dbF 0))] ++ (w6 ++ (w9 ++ ([(s9, .inr (12, [.ref b9, .int (0 : Int32), .int (0 : Int32), .int (0 : Int32)])), (b9, yA g (allT ne nt cl os).length f9)] ++ ([(q2, .inr (13, [.ref v2, .int (0 : Int32), .int (0 : Int32), .int (nI (allT ne nt cl os).length)])), (v2, yA g m2 f2)] ++ t)))) from by simp only [List.append_assoc, List.cons_append, List.nil_append]] at K
  exact K
