set_option maxRecDepth 20000 in
set_option maxHeartbeats 4000000 in
theorem cl_told {g : GG} {t : va_W} {a v : Nat} (hL : gL g ≤ 260) : Ct g mL_told_ 14 2200 3400000 [.ref (gb g), .int (6 : Int32), .ref a] ((a, .inr (13, [.ref v, .int (0 : Int32), .int (0 : Int32), .int (nI ([] : List Int32).length)])) :: ((v, yA g 16 (fun _ => 0)) :: t)) (Dq (fun (z : Nat × va_W) => some (.ref z.1)) (fun z => z.2 ++ t) (fun z => ToldP g a z)) := by
  refine Ct.ofR (by decide +kernel) rfl (Nat.le_of_ble_eq_true rfl) ?_
  show R g mL_told_ 14 2200 3400000 0 [(0, .ref (gb g)), (1, .int (6 : Int32)), (2, .ref a)] [] ((a, .inr (13, [.ref v, .int (0 : Int32), .int (0 : Int32), .int (nI ([] : List Int32).length)])) :: ((v, yA g 16 (fun _ => 0)) :: t)) _
  refine r_new (N := 8) (x := 2199) (y := 3399992) dL_told__0 nl_L_101 (fun q1 => ?_)
  refine r_dup dL_told__3 rfl ?_
  refine k_J (x := 2194) (y := 3399972) (rest := [.ref q1]) dL_told__4 kj_L_103 (cl_newSim (s := q1)) rfl rfl (Nat.le_of_ble_eq_true rfl) (by decide) (by decide) ?_
  rintro ⟨aC, aD, aO, aT⟩ -
  show R g mL_told_ 14 2194 3399972 7 [(0, .ref (gb g)), (1, .int (6 : Int32)), (2, .ref a)] [.ref q1] ((aC, qA g 4 ([] : List Nat).length (fun k => ([] : List Nat)[k]?)) :: ((aD, zA g 10 (dbF 0)) :: ((aO, qA g 4 ([] : List Nat).length (fun k => ([] : List Nat)[k]?)) :: ((aT, qA g 6 0 (fun _ => none)) :: ((q1, .inr (10, [.int (0 : Int32), .int (0 : Int32), .ref aC, .ref aD, .ref aO, .ref aT, .int (0 : Int32), .int (0 : Int32)])) :: ((a, .inr (13, [.ref v, .int (0 : Int32), .int (0 : Int32), .int (nI ([] : List Int32).length)])) :: ((v, yA g 16 (fun _ => 0)) :: t))))))) (Dq (fun (z : Nat × va_W) => some (.ref z.1)) (fun z => z.2 ++ t) (fun z => ToldP g a z))
  obtain ⟨w0, hw0⟩ : ∃ w0 : va_W, w0 = [(aC, qA g 4 ([] : List Nat).length (fun k => ([] : List Nat)[k]?)), (aO, qA g 4 ([] : List Nat).length (fun k => ([] : List Nat)[k]?))] := ⟨_, rfl⟩
  have hC0 : SimR g w0 aC [] [] := ⟨by rw [hw0]; exact List.mem_cons_self, fun k hk => absurd hk (Nat.not_lt_zero _)⟩
  have hO0 : (aO, qA g 4 ([] : List Nat).length (fun k => ([] : List Nat)[k]?)) ∈ w0 := by rw [hw0]; exact List.mem_cons_of_mem _ List.mem_cons_self
  refine r_seg (ws2 := ((q1, .inr (10, [.int (0 : Int32), .int (0 : Int32), .ref aC, .ref aD, .ref aO, .ref aT, .int (0 : Int32), .int (0 : Int32)])) :: ((aD, zA g 10 (dbF 0)) :: ((a, .inr (13, [.ref v, .int (0 : Int32), .int (0 : Int32), .int (nI ([] : List Int32).length)])) :: ((v, yA g 16 (fun _ => 0)) :: (w0 ++ t)))))) [[(aC, qA g 4 ([] : List Nat).length (fun k => ([] : List Nat)[k]?))], [(aD, zA g 10 (dbF 0))], [(aO, qA g 4 ([] : List Nat).length (fun k => ([] : List Nat)[k]?))], [(aT, qA g 6 0 (fun _ => none))], [(q1, .inr (10, [.int (0 : Int32), .int (0 : Int32), .ref aC, .ref aD, .ref aO, .ref aT, .int (0 : Int32), .int (0 : Int32)]))], [(a, .inr (13, [.ref v, .int (0 : Int32), .int (0 : Int32), .int (nI ([] : List Int32).length)]))], [(v, yA g 16 (fun _ => 0))], t] [4, 1, 5, 6, 0, 2, 7] rfl rfl (by rw [hw0]; rfl) ?_
  refine r_astore_n [(3, .ref q1), (0, .ref (gb g)), (1, .int (6 : Int32)), (2, .ref a)] dL_told__7 (by decide) rfl ?_
  refine r_aload_n 0 dL_told__8 rfl ?_
  refine r_iconst (v := (1 : Int32)) dL_told__9 (by decide) ?_
  refine r_aload_n 1 dL_told__10 rfl ?_
  refine r_iconst (v := (0 : Int32)) dL_told__11 (by decide) ?_
  refine k_S (x := 2194) (y := 3399972) (rest := [.int (1 : Int32), .ref q1]) dL_told__12 ks_L_104 (cl_cell (k := 0) (by decide) hL) rfl rfl (Nat.le_of_ble_eq_true rfl) (by decide) (by decide) ?_
  rintro c0 -
  show R g mL_told_ 14 2194 3399972 15 [(3, .ref q1), (0, .ref (gb g)), (1, .int (6 : Int32)), (2, .ref a)] [.int c0, .int (1 : Int32), .ref q1] ((q1, .inr (10, [.int (0 : Int32), .int (0 : Int32), .ref aC, .ref aD, .ref aO, .ref aT, .int (0 : Int32), .int (0 : Int32)])) :: ((aD, zA g 10 (dbF 0)) :: ((a, .inr (13, [.ref v, .int (0 : Int32), .int (0 : Int32), .int (nI ([] : List Int32).length)])) :: ((v, yA g 16 (fun _ => 0)) :: (w0 ++ t))))) (Dq (fun (z : Nat × va_W) => some (.ref z.1)) (fun z => z.2 ++ t) (fun z => ToldP g a z))
  refine r_bipush (v := (6 : Int32)) dL_told__15 (by decide) ?_
  refine r_top (w := .int (nI 6)) (rfl) ?_
  refine k_S (x := 2194) (y := 3399972) (rest := [.int (1 : Int32), .ref q1]) dL_told__17 ks_L_35 ((cl_below (v := c0) (n := 6) (by decide) (by decide)).dq) rfl rfl (Nat.le_of_ble_eq_true rfl) (by decide) (by decide) ?_
  rintro ⟨⟩ -
  show R g mL_told_ 14 2194 3399972 20 [(3, .ref q1), (0, .ref (gb g)), (1, .int (6 : Int32)), (2, .ref a)] [.int (nI (bw c0 6)), .int (1 : Int32), .ref q1] ((q1, .inr (10, [.int (0 : Int32), .int (0 : Int32), .ref aC, .ref aD, .ref aO, .ref aT, .int (0 : Int32), .int (0 : Int32)])) :: ((aD, zA g 10 (dbF 0)) :: ((a, .inr (13, [.ref v, .int (0 : Int32), .int (0 : Int32), .int (nI ([] : List Int32).length)])) :: ((v, yA g 16 (fun _ => 0)) :: (w0 ++ t))))) (Dq (fun (z : Nat × va_W) => some (.ref z.1)) (fun z => z.2 ++ t) (fun z => ToldP g a z))
  have he0 := bw_lt c0 (n := 6) (by decide)
  generalize bw c0 6 = e0 at he0 ⊢
  show R g mL_told_ 14 2194 3399972 20 [(3, .ref q1), (0, .ref (gb g)), (1, .int (6 : Int32)), (2, .ref a)] [.int (nI e0), .int (1 : Int32), .ref q1] ((q1, .inr (10, [.int (0 : Int32), .int (0 : Int32), .ref aC, .ref aD, .ref aO, .ref aT, .int (0 : Int32), .int (0 : Int32)])) :: ((aD, zA g 10 (dbF 0)) :: ((a, .inr (13, [.ref v, .int (0 : Int32), .int (0 : Int32), .int (nI ([] : List Int32).length)])) :: ((v, yA g 16 (fun _ => 0)) :: (w0 ++ t))))) (Dq (fun (z : Nat × va_W) => some (.ref z.1)) (fun z => z.2 ++ t) (fun z => ToldP g a z))
  refine r_iadd dL_told__20 ?_
  refine r_top (w := .int (nI (1 + e0))) (congrArg Value.int (nI_add 1 e0)) ?_
  obtain ⟨ne, hne⟩ : ∃ ne, ne = 1 + e0 := ⟨_, rfl⟩
  rw [← hne]
  refine r_putf (ws2 := ((q1, .inr (10, [.int (nI ne), .int (0 : Int32), .ref aC, .ref aD, .ref aO, .ref aT, .int (0 : Int32), .int (0 : Int32)])) :: ((aD, zA g 10 (dbF 0)) :: ((a, .inr (13, [.ref v, .int (0 : Int32), .int (0 : Int32), .int (nI ([] : List Int32).length)])) :: ((v, yA g 16 (fun _ => 0)) :: (w0 ++ t)))))) 0 dL_told__21 fl_L_108 rfl (Nat.le_of_ble_eq_true rfl) rfl rfl rfl ?_
  refine r_aload_n 0 dL_told__24 rfl ?_
  refine r_iconst (v := (1 : Int32)) dL_told__25 (by decide) ?_
  refine r_aload_n 1 dL_told__26 rfl ?_
  refine r_iconst (v := (0 : Int32)) dL_told__27 (by decide) ?_
  refine k_S (x := 2194) (y := 3399972) (rest := [.int (1 : Int32), .ref q1]) dL_told__28 ks_L_104 (cl_cell (k := 0) (by decide) hL) rfl rfl (Nat.le_of_ble_eq_true rfl) (by decide) (by decide) ?_
  rintro c1 -
  show R g mL_told_ 14 2194 3399972 31 [(3, .ref q1), (0, .ref (gb g)), (1, .int (6 : Int32)), (2, .ref a)] [.int c1, .int (1 : Int32), .ref q1] ((q1, .inr (10, [.int (nI ne), .int (0 : Int32), .ref aC, .ref aD, .ref aO, .ref aT, .int (0 : Int32), .int (0 : Int32)])) :: ((aD, zA g 10 (dbF 0)) :: ((a, .inr (13, [.ref v, .int (0 : Int32), .int (0 : Int32), .int (nI ([] : List Int32).length)])) :: ((v, yA g 16 (fun _ => 0)) :: (w0 ++ t))))) (Dq (fun (z : Nat × va_W) => some (.ref z.1)) (fun z => z.2 ++ t) (fun z => ToldP g a z))
  refine r_iconst (v := (4 : Int32)) dL_told__31 (by decide) ?_
  refine r_ishr dL_told__32 ?_
  refine r_iload_n 2 dL_told__33 rfl ?_
  refine r_top (w := .int (nI 6)) (rfl) ?_
  refine k_S (x := 2194) (y := 3399972) (rest := [.int (1 : Int32), .ref q1]) dL_told__34 ks_L_35 ((cl_below (v := (c1 >>> ((4 : Int32) &&& 31))) (n := 6) (by decide) (by decide)).dq) rfl rfl (Nat.le_of_ble_eq_true rfl) (by decide) (by decide) ?_
  rintro ⟨⟩ -
  show R g mL_told_ 14 2194 3399972 37 [(3, .ref q1), (0, .ref (gb g)), (1, .int (6 : Int32)), (2, .ref a)] [.int (nI (bw (c1 >>> ((4 : Int32) &&& 31)) 6)), .int (1 : Int32), .ref q1] ((q1, .inr (10, [.int (nI ne), .int (0 : Int32), .ref aC, .ref aD, .ref aO, .ref aT, .int (0 : Int32), .int (0 : Int32)])) :: ((aD, zA g 10 (dbF 0)) :: ((a, .inr (13, [.ref v, .int (0 : Int32), .int (0 : Int32), .int (nI ([] : List Int32).length)])) :: ((v, yA g 16 (fun _ => 0)) :: (w0 ++ t))))) (Dq (fun (z : Nat × va_W) => some (.ref z.1)) (fun z => z.2 ++ t) (fun z => ToldP g a z))
  have ht0 := bw_lt (c1 >>> ((4 : Int32) &&& 31)) (n := 6) (by decide)
  generalize bw (c1 >>> ((4 : Int32) &&& 31)) 6 = t0 at ht0 ⊢
  show R g mL_told_ 14 2194 3399972 37 [(3, .ref q1), (0, .ref (gb g)), (1, .int (6 : Int32)), (2, .ref a)] [.int (nI t0), .int (1 : Int32), .ref q1] ((q1, .inr (10, [.int (nI ne), .int (0 : Int32), .ref aC, .ref aD, .ref aO, .ref aT, .int (0 : Int32), .int (0 : Int32)])) :: ((aD, zA g 10 (dbF 0)) :: ((a, .inr (13, [.ref v, .int (0 : Int32), .int (0 : Int32), .int (nI ([] : List Int32).length)])) :: ((v, yA g 16 (fun _ => 0)) :: (w0 ++ t))))) (Dq (fun (z : Nat × va_W) => some (.ref z.1)) (fun z => z.2 ++ t) (fun z => ToldP g a z))
  refine r_iadd dL_told__37 ?_
  refine r_top (w := .int (nI (1 + t0))) (congrArg Value.int (nI_add 1 t0)) ?_
  obtain ⟨nt, hnt⟩ : ∃ nt, nt = 1 + t0 := ⟨_, rfl⟩
  rw [← hnt]
  have n1 : 0 < ne := by omega
  have n2 : ne ≤ 6 := by omega
  have n3 : 0 < nt := by omega
  have n4 : nt ≤ 6 := by omega
  refine r_putf (ws2 := ((q1, .inr (10, [.int (nI ne), .int (nI nt), .ref aC, .ref aD, .ref aO, .ref aT, .int (0 : Int32), .int (0 : Int32)])) :: ((aD, zA g 10 (dbF 0)) :: ((a, .inr (13, [.ref v, .int (0 : Int32), .int (0 : Int32), .int (nI ([] : List Int32).length)])) :: ((v, yA g 16 (fun _ => 0)) :: (w0 ++ t)))))) 0 dL_told__38 fl_L_111 rfl (Nat.le_of_ble_eq_true rfl) rfl rfl rfl ?_
  refine r_iconst (v := (0 : Int32)) dL_told__41 (by decide) ?_
  refine r_top (w := .int (nI 0)) (rfl) ?_
  refine r_istore [(4, .int (nI 0)), (3, .ref q1), (0, .ref (gb g)), (1, .int (6 : Int32)), (2, .ref a)] dL_told__42 (by decide) rfl ?_
  refine r_ls [0, 1, 2, 3, 4] (ls2 := [(4, .int (nI 0)), (3, .ref q1), (0, .ref (gb g)), (1, .int (6 : Int32)), (2, .ref a)]) rfl ?_
  have LO : ∀ (no aT aC : Nat) (ca : List Nat) (cl : List (Nat → Int32)), no ≤ 4 → CV ne nt ca cl → CD cl → cl.length ≤ 16 → ∀ m k, m + k = no → ∀ (aO v9 m9 : Nat) (f9 : Nat → Int32) (oa : List Nat) (os : List OT) (w9 : va_W), SimR g w9 aC ca cl → OMp g ne nt w9 aO oa os → os.length = k → BL (orT (clsT (teT (evT [] ne) nt) cl cl.length) os k) m9 f9 → (orT (clsT (teT (evT [] ne) nt) cl cl.length) os k).length ≤ 530 + 202 * k → R g mL_told_ 14 (300 * m) (530000 * m) 230 [(6, .int (nI k)), (5, .int (nI no)), (3, .ref q1), (0, .ref (gb g)), (1, .int (6 : Int32)), (2, .ref a)] [] ((q1, .inr (10, [.int (nI ne), .int (nI nt), .ref aC, .ref aD, .ref aO, .ref aT, .int (0 : Int32), .int (0 : Int32)])) :: ((aD, zA g 10 (dbF 0)) :: ((a, .inr (13, [.ref v9, .int (0 : Int32), .int (0 : Int32), .int (nI (orT (clsT (teT (evT [] ne) nt) cl cl.length) os k).length)])) :: ((v9, yA g m9 f9) :: ((aT, qA g 6 no (oT os)) :: (w9 ++ t)))))) (Dq (fun (z : Nat × va_W) => some (.ref z.1)) (fun z => z.2 ++ t) (fun z => ToldP g a z)) := by
    intro no aT aC ca cl hno hV hD h16 m
    induction m with
    | zero =>
      intro k hk aO v9 m9 f9 oa os w9 hC hO hos h9 hlen
      have ek : k = no := by omega
      subst ek
      refine r_iload 0 dL_told__230 rfl ?_
      refine r_iload 1 dL_told__232 rfl ?_
      refine r_icmp_ge (tgt := 432) dL_told__234 (by decide) (fun _ => ?_) (fun hc => absurd (nI_le (Nat.le_refl _) (by omega)) hc)
      refine r_aload_n 2 dL_told__432 rfl ?_
      refine r_aret dL_told__433 rfl rfl (Or.inr ⟨_, rfl⟩) ?_
      subst hos
      refine Dq.mk (q1, simO q1 aC aD aO aT ne nt 0 0 :: (aD, zA g 10 (dbF 0)) :: sbC a v9 (allT ne nt cl os) :: (v9, yA g m9 f9) :: (aT, qA g 6 os.length (oT os)) :: w9) rfl rfl ⟨aC, aD, aO, aT, ne, nt, v9, m9, f9, ca, oa, cl, os, (aT, qA g 6 os.length (oT os)) :: w9, rfl, n1, n2, n3, n4, ⟨List.mem_cons_of_mem _ hC.1, fun k hk => List.mem_cons_of_mem _ (hC.2 k hk)⟩, ⟨hO.1, hno, List.mem_cons_of_mem _ hO.2.1, ?_, fun k hk => ⟨List.mem_cons_of_mem _ (hO.2.2 k hk).1, (hO.2.2 k hk).2.1, fun T hT => ⟨TM.mono (fun p hp => List.mem_cons_of_mem _ hp) 4 T ((hO.2.2 k hk).2.2 T hT).1, ((hO.2.2 k hk).2.2 T hT).2.1⟩⟩⟩, hV, hD, h16, h9, Nat.le_trans hlen (by omega), fun k T hk hT => ((hO.2.2 k hk).2.2 T hT).2.2⟩
      rw [hO.1]
      exact List.mem_cons_self
    | succ m ih =>
      intro k hk aO v9 m9 f9 oa os w9 hC hO hos h9 hlen
      have hk2 : k < no := by omega
      have hln : (orT (clsT (teT (evT [] ne) nt) cl cl.length) os k).length ≤ 1136 := by omega
      subst hos
      have hol := hO.1
      refine r_room (x2 := (300 * m + 300)) (y2 := (530000 * m + 530000)) (by omega) (by omega) ?_
      show R g mL_told_ 14 (300 * m + 300) (530000 * m + 530000) 230 [(6, .int (nI os.length)), (5, .int (nI no)), (3, .ref q1), (0, .ref (gb g)), (1, .int (6 : Int32)), (2, .ref a)] [] ((q1, .inr (10, [.int (nI ne), .int (nI nt), .ref aC, .ref aD, .ref aO, .ref aT, .int (0 : Int32), .int (0 : Int32)])) :: ((aD, zA g 10 (dbF 0)) :: ((a, .inr (13, [.ref v9, .int (0 : Int32), .int (0 : Int32), .int (nI (orT (clsT (teT (evT [] ne) nt) cl cl.length) os os.length).length)])) :: ((v9, yA g m9 f9) :: ((aT, qA g 6 no (oT os)) :: (w9 ++ t)))))) (Dq (fun (z : Nat × va_W) => some (.ref z.1)) (fun z => z.2 ++ t) (fun z => ToldP g a z))
      refine r_iload 0 dL_told__230 rfl ?_
      refine r_iload 1 dL_told__232 rfl ?_
      refine r_icmp_ge (tgt := 432) dL_told__234 (by decide) (fun hc => absurd hc (nI_ge (by omega) (by omega))) (fun _ => ?_)
      refine r_aload_n 3 dL_told__237 rfl ?_
      refine r_iconst (v := (3 : Int32)) dL_told__238 (by decide) ?_
      refine r_iload 0 dL_told__239 rfl ?_
      refine r_iadd dL_told__241 ?_
      refine r_top (w := .int (nI (3 + os.length))) (congrArg Value.int (nI_add 3 os.length)) ?_
      refine k_S (x := (300 * m + 300)) (y := (530000 * m + 530000)) (rest := []) dL_told__242 ks_L_104 (cl_cell (k := (3 + os.length)) (by omega) hL) rfl rfl (Nat.le_of_ble_eq_true rfl) (by decide) (by decide) ?_
      rintro c9 -
      show R g mL_told_ 14 (300 * m + 300) (530000 * m + 530000) 245 [(6, .int (nI os.length)), (5, .int (nI no)), (3, .ref q1), (0, .ref (gb g)), (1, .int (6 : Int32)), (2, .ref a)] [.int c9] ((q1, .inr (10, [.int (nI ne), .int (nI nt), .ref aC, .ref aD, .ref aO, .ref aT, .int (0 : Int32), .int (0 : Int32)])) :: ((aD, zA g 10 (dbF 0)) :: ((a, .inr (13, [.ref v9, .int (0 : Int32), .int (0 : Int32), .int (nI (orT (clsT (teT (evT [] ne) nt) cl cl.length) os os.length).length)])) :: ((v9, yA g m9 f9) :: ((aT, qA g 6 no (oT os)) :: (w9 ++ t)))))) (Dq (fun (z : Nat × va_W) => some (.ref z.1)) (fun z => z.2 ++ t) (fun z => ToldP g a z))
      refine r_iconst (v := (3 : Int32)) dL_told__245 (by decide) ?_
      refine r_ishr dL_told__246 ?_
      refine r_bipush (v := (17 : Int32)) dL_told__247 (by decide) ?_
      refine r_iload 0 dL_told__249 rfl ?_
      refine r_imul dL_told__251 ?_
      refine r_iadd dL_told__252 ?_
      generalize ((c9 >>> ((3 : Int32) &&& 31)) + ((17 : Int32) * (nI os.length))) = x9
      show R g mL_told_ 14 (300 * m + 300) (530000 * m + 530000) 253 [(6, .int (nI os.length)), (5, .int (nI no)), (3, .ref q1), (0, .ref (gb g)), (1, .int (6 : Int32)), (2, .ref a)] [.int x9] ((q1, .inr (10, [.int (nI ne), .int (nI nt), .ref aC, .ref aD, .ref aO, .ref aT, .int (0 : Int32), .int (0 : Int32)])) :: ((aD, zA g 10 (dbF 0)) :: ((a, .inr (13, [.ref v9, .int (0 : Int32), .int (0 : Int32), .int (nI (orT (clsT (teT (evT [] ne) nt) cl cl.length) os os.length).length)])) :: ((v9, yA g m9 f9) :: ((aT, qA g 6 no (oT os)) :: (w9 ++ t)))))) (Dq (fun (z : Nat × va_W) => some (.ref z.1)) (fun z => z.2 ++ t) (fun z => ToldP g a z))
      refine r_istore [(7, .int x9), (6, .int (nI os.length)), (5, .int (nI no)), (3, .ref q1), (0, .ref (gb g)), (1, .int (6 : Int32)), (2, .ref a)] dL_told__253 (by decide) rfl ?_
      refine r_aload_n 3 dL_told__255 rfl ?_
      refine r_aload_n 3 dL_told__256 rfl ?_
      refine r_getf (v := .ref aO) 0 dL_told__257 fl_L_140 rfl rfl ?_
      refine r_iconst (v := (2 : Int32)) dL_told__260 (by decide) ?_
      refine r_newIv (x := (300 * m + 299)) (y := (530000 * m + 529998)) (N := 2) dL_told__261 kk_105 (by decide) (by decide) (by decide) (fun q2 => ?_)
      refine r_dup dL_told__263 rfl ?_
      refine r_iconst (v := (0 : Int32)) dL_told__264 (by decide) ?_
      refine r_iload 0 dL_told__265 rfl ?_
      refine r_iconst (v := (3 : Int32)) dL_told__267 (by decide) ?_
      refine r_top (w := .int (nI 3)) (rfl) ?_
      refine k_S (x := (300 * m + 299)) (y := (530000 * m + 529998)) (rest := [.int (0 : Int32), .ref q2, .ref q2, .ref aO, .ref q1]) dL_told__268 ks_L_35 ((cl_below (v := x9) (n := 3) (by decide) (by decide)).dq) rfl rfl (Nat.le_of_ble_eq_true rfl) (by decide) (by decide) ?_
      rintro ⟨⟩ -
      show R g mL_told_ 14 (300 * m + 299) (530000 * m + 529998) 271 [(7, .int x9), (6, .int (nI os.length)), (5, .int (nI no)), (3, .ref q1), (0, .ref (gb g)), (1, .int (6 : Int32)), (2, .ref a)] [.int (nI (bw x9 3)), .int (0 : Int32), .ref q2, .ref q2, .ref aO, .ref q1] ((q2, iA g 2 (fun _ => 0)) :: ((q1, .inr (10, [.int (nI ne), .int (nI nt), .ref aC, .ref aD, .ref aO, .ref aT, .int (0 : Int32), .int (0 : Int32)])) :: ((aD, zA g 10 (dbF 0)) :: ((a, .inr (13, [.ref v9, .int (0 : Int32), .int (0 : Int32), .int (nI (orT (clsT (teT (evT [] ne) nt) cl cl.length) os os.length).length)])) :: ((v9, yA g m9 f9) :: ((aT, qA g 6 no (oT os)) :: (w9 ++ t))))))) (Dq (fun (z : Nat × va_W) => some (.ref z.1)) (fun z => z.2 ++ t) (fun z => ToldP g a z))
      have hb3 := bw_lt x9 (n := 3) (by decide)
      generalize bw x9 3 = b3 at hb3 ⊢
      show R g mL_told_ 14 (300 * m + 299) (530000 * m + 529998) 271 [(7, .int x9), (6, .int (nI os.length)), (5, .int (nI no)), (3, .ref q1), (0, .ref (gb g)), (1, .int (6 : Int32)), (2, .ref a)] [.int (nI b3), .int (0 : Int32), .ref q2, .ref q2, .ref aO, .ref q1] ((q2, iA g 2 (fun _ => 0)) :: ((q1, .inr (10, [.int (nI ne), .int (nI nt), .ref aC, .ref aD, .ref aO, .ref aT, .int (0 : Int32), .int (0 : Int32)])) :: ((aD, zA g 10 (dbF 0)) :: ((a, .inr (13, [.ref v9, .int (0 : Int32), .int (0 : Int32), .int (nI (orT (clsT (teT (evT [] ne) nt) cl cl.length) os os.length).length)])) :: ((v9, yA g m9 f9) :: ((aT, qA g 6 no (oT os)) :: (w9 ++ t))))))) (Dq (fun (z : Nat × va_W) => some (.ref z.1)) (fun z => z.2 ++ t) (fun z => ToldP g a z))
      have J279 : ∀ b : Bool, R g mL_told_ 14 (300 * m + 299) (530000 * m + 529998) 279 [(7, .int x9), (6, .int (nI os.length)), (5, .int (nI no)), (3, .ref q1), (0, .ref (gb g)), (1, .int (6 : Int32)), (2, .ref a)] [.int (bI b), .int (0 : Int32), .ref q2, .ref q2, .ref aO, .ref q1] ((q2, iA g 2 (fun _ => 0)) :: ((q1, .inr (10, [.int (nI ne), .int (nI nt), .ref aC, .ref aD, .ref aO, .ref aT, .int (0 : Int32), .int (0 : Int32)])) :: ((aD, zA g 10 (dbF 0)) :: ((a, .inr (13, [.ref v9, .int (0 : Int32), .int (0 : Int32), .int (nI (orT (clsT (teT (evT [] ne) nt) cl cl.length) os os.length).length)])) :: ((v9, yA g m9 f9) :: ((aT, qA g 6 no (oT os)) :: (w9 ++ t))))))) (Dq (fun (z : Nat × va_W) => some (.ref z.1)) (fun z => z.2 ++ t) (fun z => ToldP g a z)) := by
        intro b
        refine r_iast (ws2 := ((q2, iA g 2 (upd (fun _ => 0) 0 (bI b))) :: ((q1, .inr (10, [.int (nI ne), .int (nI nt), .ref aC, .ref aD, .ref aO, .ref aT, .int (0 : Int32), .int (0 : Int32)])) :: ((aD, zA g 10 (dbF 0)) :: ((a, .inr (13, [.ref v9, .int (0 : Int32), .int (0 : Int32), .int (nI (orT (clsT (teT (evT [] ne) nt) cl cl.length) os os.length).length)])) :: ((v9, yA g m9 f9) :: ((aT, qA g 6 no (oT os)) :: (w9 ++ t)))))))) 0 dL_told__279 rfl (by decide) (by rfl) ?_
        refine r_dup dL_told__280 rfl ?_
        refine r_iconst (v := (1 : Int32)) dL_told__281 (by decide) ?_
        refine r_iload 0 dL_told__282 rfl ?_
        refine r_iconst (v := (2 : Int32)) dL_told__284 (by decide) ?_
        refine r_ishr dL_told__285 ?_
        refine r_aload_n 3 dL_told__286 rfl ?_
        refine r_getf (v := .int (nI nt)) 1 dL_told__287 fl_L_111 rfl rfl ?_
        refine k_S (x := (300 * m + 299)) (y := (530000 * m + 529998)) (rest := [.int (1 : Int32), .ref q2, .ref q2, .ref aO, .ref q1]) dL_told__290 ks_L_35 ((cl_below (v := (x9 >>> ((2 : Int32) &&& 31))) (n := nt) (n3) (by omega)).dq) rfl rfl (Nat.le_of_ble_eq_true rfl) (by decide) (by decide) ?_
        rintro ⟨⟩ -
        show R g mL_told_ 14 (300 * m + 299) (530000 * m + 529998) 293 [(7, .int x9), (6, .int (nI os.length)), (5, .int (nI no)), (3, .ref q1), (0, .ref (gb g)), (1, .int (6 : Int32)), (2, .ref a)] [.int (nI (bw (x9 >>> ((2 : Int32) &&& 31)) nt)), .int (1 : Int32), .ref q2, .ref q2, .ref aO, .ref q1] ((q2, iA g 2 (upd (fun _ => 0) 0 (bI b))) :: ((q1, .inr (10, [.int (nI ne), .int (nI nt), .ref aC, .ref aD, .ref aO, .ref aT, .int (0 : Int32), .int (0 : Int32)])) :: ((aD, zA g 10 (dbF 0)) :: ((a, .inr (13, [.ref v9, .int (0 : Int32), .int (0 : Int32), .int (nI (orT (clsT (teT (evT [] ne) nt) cl cl.length) os os.length).length)])) :: ((v9, yA g m9 f9) :: ((aT, qA g 6 no (oT os)) :: (w9 ++ t))))))) (Dq (fun (z : Nat × va_W) => some (.ref z.1)) (fun z => z.2 ++ t) (fun z => ToldP g a z))
        have hwh := bw_lt (x9 >>> ((2 : Int32) &&& 31)) (n := nt) (n3)
        generalize bw (x9 >>> ((2 : Int32) &&& 31)) nt = wh at hwh ⊢
        show R g mL_told_ 14 (300 * m + 299) (530000 * m + 529998) 293 [(7, .int x9), (6, .int (nI os.length)), (5, .int (nI no)), (3, .ref q1), (0, .ref (gb g)), (1, .int (6 : Int32)), (2, .ref a)] [.int (nI wh), .int (1 : Int32), .ref q2, .ref q2, .ref aO, .ref q1] ((q2, iA g 2 (upd (fun _ => 0) 0 (bI b))) :: ((q1, .inr (10, [.int (nI ne), .int (nI nt), .ref aC, .ref aD, .ref aO, .ref aT, .int (0 : Int32), .int (0 : Int32)])) :: ((aD, zA g 10 (dbF 0)) :: ((a, .inr (13, [.ref v9, .int (0 : Int32), .int (0 : Int32), .int (nI (orT (clsT (teT (evT [] ne) nt) cl cl.length) os os.length).length)])) :: ((v9, yA g m9 f9) :: ((aT, qA g 6 no (oT os)) :: (w9 ++ t))))))) (Dq (fun (z : Nat × va_W) => some (.ref z.1)) (fun z => z.2 ++ t) (fun z => ToldP g a z))
        refine r_iast (ws2 := ((q2, iA g 2 (fun j => if j = 0 then bI b else if j = 1 then nI wh else 0)) :: ((q1, .inr (10, [.int (nI ne), .int (nI nt), .ref aC, .ref aD, .ref aO, .ref aT, .int (0 : Int32), .int (0 : Int32)])) :: ((aD, zA g 10 (dbF 0)) :: ((a, .inr (13, [.ref v9, .int (0 : Int32), .int (0 : Int32), .int (nI (orT (clsT (teT (evT [] ne) nt) cl cl.length) os os.length).length)])) :: ((v9, yA g m9 f9) :: ((aT, qA g 6 no (oT os)) :: (w9 ++ t)))))))) 0 dL_told__293 rfl (by decide) (by rw [cl1, or2_0] <;> rfl) ?_
        refine r_room (x2 := (300 * m + 298) + 1) (y2 := (530000 * m + 529957) + 41) (rq rfl) (rq rfl) ?_
        refine k_S (x := (300 * m + 298)) (y := (530000 * m + 529957)) (rest := [.ref q1]) dL_told__294 ks_L_126 (cl_with (aC := aO) (v := q2) (ca := oa) (z0 := _) ((List.mem_cons_of_mem _ (List.mem_cons_of_mem _ (List.mem_cons_of_mem _ (List.mem_cons_of_mem _ (List.mem_cons_of_mem _ (List.mem_cons_of_mem _ (List.mem_append_left _ hO.2.1)))))))) (fun k hk => ⟨_, (List.mem_cons_of_mem _ (List.mem_cons_of_mem _ (List.mem_cons_of_mem _ (List.mem_cons_of_mem _ (List.mem_cons_of_mem _ (List.mem_cons_of_mem _ (List.mem_append_left _ (hO.2.2 k (by omega)).1)))))))⟩) List.mem_cons_self (by omega)) rfl rfl (Nat.le_of_ble_eq_true rfl) (by decide) (by decide) ?_
        rintro r9 -
        show R g mL_told_ 14 (300 * m + 298) (530000 * m + 529957) 297 [(7, .int x9), (6, .int (nI os.length)), (5, .int (nI no)), (3, .ref q1), (0, .ref (gb g)), (1, .int (6 : Int32)), (2, .ref a)] [.ref r9, .ref q1] ((r9, qA g 4 (oa ++ [q2]).length (fun k => (oa ++ [q2])[k]?)) :: ((q2, iA g 2 (fun j => if j = 0 then bI b else if j = 1 then nI wh else 0)) :: ((q1, .inr (10, [.int (nI ne), .int (nI nt), .ref aC, .ref aD, .ref aO, .ref aT, .int (0 : Int32), .int (0 : Int32)])) :: ((aD, zA g 10 (dbF 0)) :: ((a, .inr (13, [.ref v9, .int (0 : Int32), .int (0 : Int32), .int (nI (orT (clsT (teT (evT [] ne) nt) cl cl.length) os os.length).length)])) :: ((v9, yA g m9 f9) :: ((aT, qA g 6 no (oT os)) :: (w9 ++ t)))))))) (Dq (fun (z : Nat × va_W) => some (.ref z.1)) (fun z => z.2 ++ t) (fun z => ToldP g a z))
        refine r_seg (ws2 := ((q1, .inr (10, [.int (nI ne), .int (nI nt), .ref aC, .ref aD, .ref aO, .ref aT, .int (0 : Int32), .int (0 : Int32)])) :: ((aD, zA g 10 (dbF 0)) :: ((a, .inr (13, [.ref v9, .int (0 : Int32), .int (0 : Int32), .int (nI (orT (clsT (teT (evT [] ne) nt) cl cl.length) os os.length).length)])) :: ((v9, yA g m9 f9) :: ((aT, qA g 6 no (oT os)) :: ((r9, qA g 4 (oa ++ [q2]).length (fun k => (oa ++ [q2])[k]?)) :: ((q2, iA g 2 (fun j => if j = 0 then bI b else if j = 1 then nI wh else 0)) :: (w9 ++ t))))))))) [[(r9, qA g 4 (oa ++ [q2]).length (fun k => (oa ++ [q2])[k]?))], [(q2, iA g 2 (fun j => if j = 0 then bI b else if j = 1 then nI wh else 0))], [(q1, .inr (10, [.int (nI ne), .int (nI nt), .ref aC, .ref aD, .ref aO, .ref aT, .int (0 : Int32), .int (0 : Int32)]))], [(aD, zA g 10 (dbF 0))], [(a, .inr (13, [.ref v9, .int (0 : Int32), .int (0 : Int32), .int (nI (orT (clsT (teT (evT [] ne) nt) cl cl.length) os os.length).length)]))], [(v9, yA g m9 f9)], [(aT, qA g 6 no (oT os))], w9, t] [2, 3, 4, 5, 6, 0, 1, 7, 8] rfl rfl rfl ?_
        refine r_putf (ws2 := ((q1, .inr (10, [.int (nI ne), .int (nI nt), .ref aC, .ref aD, .ref r9, .ref aT, .int (0 : Int32), .int (0 : Int32)])) :: ((aD, zA g 10 (dbF 0)) :: ((a, .inr (13, [.ref v9, .int (0 : Int32), .int (0 : Int32), .int (nI (orT (clsT (teT (evT [] ne) nt) cl cl.length) os os.length).length)])) :: ((v9, yA g m9 f9) :: ((aT, qA g 6 no (oT os)) :: ((r9, qA g 4 (oa ++ [q2]).length (fun k => (oa ++ [q2])[k]?)) :: ((q2, iA g 2 (fun j => if j = 0 then bI b else if j = 1 then nI wh else 0)) :: (w9 ++ t))))))))) 0 dL_told__297 fl_L_140 rfl (Nat.le_of_ble_eq_true rfl) rfl rfl rfl ?_
        refine r_aload_n 3 dL_told__300 rfl ?_
        refine r_getf (v := .ref aT) 0 dL_told__301 fl_L_136 rfl rfl ?_
        refine r_iload 1 dL_told__304 rfl ?_
        refine r_iload 0 dL_told__306 rfl ?_
        refine r_iconst (v := (4 : Int32)) dL_told__308 (by decide) ?_
        refine r_ishr dL_told__309 ?_
        refine r_iconst (v := (5 : Int32)) dL_told__310 (by decide) ?_
        refine r_top (w := .int (nI 5)) (rfl) ?_
        refine k_S (x := (300 * m + 298)) (y := (530000 * m + 529957)) (rest := [.int (nI os.length), .ref aT]) dL_told__311 ks_L_35 ((cl_below (v := (x9 >>> ((4 : Int32) &&& 31))) (n := 5) (by decide) (by decide)).dq) rfl rfl (Nat.le_of_ble_eq_true rfl) (by decide) (by decide) ?_
        rintro ⟨⟩ -
        show R g mL_told_ 14 (300 * m + 298) (530000 * m + 529957) 314 [(7, .int x9), (6, .int (nI os.length)), (5, .int (nI no)), (3, .ref q1), (0, .ref (gb g)), (1, .int (6 : Int32)), (2, .ref a)] [.int (nI (bw (x9 >>> ((4 : Int32) &&& 31)) 5)), .int (nI os.length), .ref aT] ((q1, .inr (10, [.int (nI ne), .int (nI nt), .ref aC, .ref aD, .ref r9, .ref aT, .int (0 : Int32), .int (0 : Int32)])) :: ((aD, zA g 10 (dbF 0)) :: ((a, .inr (13, [.ref v9, .int (0 : Int32), .int (0 : Int32), .int (nI (orT (clsT (teT (evT [] ne) nt) cl cl.length) os os.length).length)])) :: ((v9, yA g m9 f9) :: ((aT, qA g 6 no (oT os)) :: ((r9, qA g 4 (oa ++ [q2]).length (fun k => (oa ++ [q2])[k]?)) :: ((q2, iA g 2 (fun j => if j = 0 then bI b else if j = 1 then nI wh else 0)) :: (w9 ++ t)))))))) (Dq (fun (z : Nat × va_W) => some (.ref z.1)) (fun z => z.2 ++ t) (fun z => ToldP g a z))
        have hb5 := bw_lt (x9 >>> ((4 : Int32) &&& 31)) (n := 5) (by decide)
        generalize bw (x9 >>> ((4 : Int32) &&& 31)) 5 = b5 at hb5 ⊢
        show R g mL_told_ 14 (300 * m + 298) (530000 * m + 529957) 314 [(7, .int x9), (6, .int (nI os.length)), (5, .int (nI no)), (3, .ref q1), (0, .ref (gb g)), (1, .int (6 : Int32)), (2, .ref a)] [.int (nI b5), .int (nI os.length), .ref aT] ((q1, .inr (10, [.int (nI ne), .int (nI nt), .ref aC, .ref aD, .ref r9, .ref aT, .int (0 : Int32), .int (0 : Int32)])) :: ((aD, zA g 10 (dbF 0)) :: ((a, .inr (13, [.ref v9, .int (0 : Int32), .int (0 : Int32), .int (nI (orT (clsT (teT (evT [] ne) nt) cl cl.length) os os.length).length)])) :: ((v9, yA g m9 f9) :: ((aT, qA g 6 no (oT os)) :: ((r9, qA g 4 (oa ++ [q2]).length (fun k => (oa ++ [q2])[k]?)) :: ((q2, iA g 2 (fun j => if j = 0 then bI b else if j = 1 then nI wh else 0)) :: (w9 ++ t)))))))) (Dq (fun (z : Nat × va_W) => some (.ref z.1)) (fun z => z.2 ++ t) (fun z => ToldP g a z))
        obtain ⟨w8, hw8⟩ : ∃ w8 : va_W, w8 = (r9, qA g 4 (oa ++ [q2]).length (fun k => (oa ++ [q2])[k]?)) :: (q2, iA g 2 (fun j => if j = 0 then bI b else if j = 1 then nI wh else 0)) :: w9 := ⟨_, rfl⟩
        have i1 : (r9, qA g 4 (oa ++ [q2]).length (fun k => (oa ++ [q2])[k]?)) ∈ w8 := by rw [hw8]; exact List.mem_cons_self
        have i2 : (q2, iA g 2 (fun j => if j = 0 then bI b else if j = 1 then nI wh else 0)) ∈ w8 := by rw [hw8]; exact List.mem_cons_of_mem _ List.mem_cons_self
        have i3 : ∀ p ∈ w9, p ∈ w8 := fun p hp => by rw [hw8]; exact List.mem_cons_of_mem _ (List.mem_cons_of_mem _ hp)
        refine r_seg (ws2 := ((q1, .inr (10, [.int (nI ne), .int (nI nt), .ref aC, .ref aD, .ref r9, .ref aT, .int (0 : Int32), .int (0 : Int32)])) :: ((aD, zA g 10 (dbF 0)) :: ((a, .inr (13, [.ref v9, .int (0 : Int32), .int (0 : Int32), .int (nI (orT (clsT (teT (evT [] ne) nt) cl cl.length) os os.length).length)])) :: ((v9, yA g m9 f9) :: ((aT, qA g 6 no (oT os)) :: (w8 ++ t))))))) [[(q1, .inr (10, [.int (nI ne), .int (nI nt), .ref aC, .ref aD, .ref r9, .ref aT, .int (0 : Int32), .int (0 : Int32)]))], [(aD, zA g 10 (dbF 0))], [(a, .inr (13, [.ref v9, .int (0 : Int32), .int (0 : Int32), .int (nI (orT (clsT (teT (evT [] ne) nt) cl cl.length) os os.length).length)]))], [(v9, yA g m9 f9)], [(aT, qA g 6 no (oT os))], [(r9, qA g 4 (oa ++ [q2]).length (fun k => (oa ++ [q2])[k]?))], [(q2, iA g 2 (fun j => if j = 0 then bI b else if j = 1 then nI wh else 0))], w9, t] [0, 1, 2, 3, 4, 5, 6, 7, 8] rfl rfl (by rw [hw8]; rfl) ?_
        have J338 : ∀ (ot : Option (TT 4)) (w7 : va_W), (∀ p ∈ w8, p ∈ w7) → (∀ T, ot = some T → TM g w7 4 T ∧ TB ne nt 4 T ∧ tkn 4 T ≤ 43) → R g mL_told_ 14 (300 * m + 260) (530000 * m + 528000) 338 [(7, .int x9), (6, .int (nI os.length)), (5, .int (nI no)), (3, .ref q1), (0, .ref (gb g)), (1, .int (6 : Int32)), (2, .ref a)] [] ((q1, .inr (10, [.int (nI ne), .int (nI nt), .ref aC, .ref aD, .ref r9, .ref aT, .int (0 : Int32), .int (0 : Int32)])) :: ((aD, zA g 10 (dbF 0)) :: ((a, .inr (13, [.ref v9, .int (0 : Int32), .int (0 : Int32), .int (nI (orT (clsT (teT (evT [] ne) nt) cl cl.length) os os.length).length)])) :: ((v9, yA g m9 f9) :: ((aT, qA g 6 no (oT (os ++ [(b, wh, ot)]))) :: (w7 ++ t)))))) (Dq (fun (z : Nat × va_W) => some (.ref z.1)) (fun z => z.2 ++ t) (fun z => ToldP g a z)) := by
          intro ot w7 hm7 hT7
          have hR7 := OMp.push (b := b) (wh := wh) (ot := ot) hO (hm7 _ i2) (hm7 _ i1) (fun p hp => hm7 p (i3 p hp)) hwh hT7
          have hC7 : SimR g w7 aC ca cl := ⟨hm7 _ (i3 _ hC.1), fun k hk => hm7 _ (i3 _ (hC.2 k hk))⟩
          have hot : os.length < no := hk2
          have hwt := whT_len (fun T hT => (hT7 T hT).2.1) (show ne ≤ 10 by omega) (show nt ≤ 10 by omega)
          refine r_seg (ws2 := ((a, .inr (13, [.ref v9, .int (0 : Int32), .int (0 : Int32), .int (nI (orT (clsT (teT (evT [] ne) nt) cl cl.length) os os.length).length)])) :: ((v9, yA g m9 f9) :: ((q1, .inr (10, [.int (nI ne), .int (nI nt), .ref aC, .ref aD, .ref r9, .ref aT, .int (0 : Int32), .int (0 : Int32)])) :: ((aD, zA g 10 (dbF 0)) :: ((aT, qA g 6 no (oT (os ++ [(b, wh, ot)]))) :: (w7 ++ t))))))) [[(q1, .inr (10, [.int (nI ne), .int (nI nt), .ref aC, .ref aD, .ref r9, .ref aT, .int (0 : Int32), .int (0 : Int32)]))], [(aD, zA g 10 (dbF 0))], [(a, .inr (13, [.ref v9, .int (0 : Int32), .int (0 : Int32), .int (nI (orT (clsT (teT (evT [] ne) nt) cl cl.length) os os.length).length)]))], [(v9, yA g m9 f9)], [(aT, qA g 6 no (oT (os ++ [(b, wh, ot)])))], w7, t] [2, 3, 0, 1, 4, 5, 6] rfl rfl rfl ?_
          refine r_aload_n 6 dL_told__338 rfl ?_
          refine r_aload_n 3 dL_told__339 rfl ?_
          refine r_getf (v := .ref r9) 2 dL_told__340 fl_L_140 rfl rfl ?_
          refine r_iload 1 dL_told__343 rfl ?_
          refine r_aaldm (t := 4) (n := (oa ++ [q2]).length) (f := (fun k => (oa ++ [q2])[k]?)) (v := .ref q2) dL_told__345 rfl rfl (List.mem_cons_of_mem _ (List.mem_cons_of_mem _ (List.mem_cons_of_mem _ (List.mem_cons_of_mem _ (List.mem_cons_of_mem _ (List.mem_append_left _ (hm7 _ i1))))))) (ib_nI (by rw [List.length_append, hol]; exact Nat.lt_succ_self _) (by rw [List.length_append, hol]; show os.length + 1 < _; omega)) (by rw [nI_clamp (by omega), ← hol, List.getElem?_append_right (Nat.le_refl _), Nat.sub_self]; rfl) ?_
          refine r_iconst (v := (0 : Int32)) dL_told__346 (by decide) ?_
          refine r_ialdm (n := 2) (f := (fun j => if j = 0 then bI b else if j = 1 then nI wh else 0)) dL_told__347 (List.mem_cons_of_mem _ (List.mem_cons_of_mem _ (List.mem_cons_of_mem _ (List.mem_cons_of_mem _ (List.mem_cons_of_mem _ (List.mem_append_left _ (hm7 _ i2))))))) (by decide) ?_
          refine r_top (w := .int (bI b)) (by rw [cl0]; rfl) ?_
          refine r_iconst (v := (1 : Int32)) dL_told__348 (by decide) ?_
          have J359 : ∀ j5 : Nat, j5 < 61 → kT j5 = daT b → R g mL_told_ 14 (300 * m + 260) (530000 * m + 528000) 359 [(7, .int x9), (6, .int (nI os.length)), (5, .int (nI no)), (3, .ref q1), (0, .ref (gb g)), (1, .int (6 : Int32)), (2, .ref a)] [.ref (gK g j5), .ref a] ((a, .inr (13, [.ref v9, .int (0 : Int32), .int (0 : Int32), .int (nI (orT (clsT (teT (evT [] ne) nt) cl cl.length) os os.length).length)])) :: ((v9, yA g m9 f9) :: ((q1, .inr (10, [.int (nI ne), .int (nI nt), .ref aC, .ref aD, .ref r9, .ref aT, .int (0 : Int32), .int (0 : Int32)])) :: ((aD, zA g 10 (dbF 0)) :: ((aT, qA g 6 no (oT (os ++ [(b, wh, ot)]))) :: (w7 ++ t)))))) (Dq (fun (z : Nat × va_W) => some (.ref z.1)) (fun z => z.2 ++ t) (fun z => ToldP g a z)) := by
            intro j5 hj5 hk5
            have lda := daT_len b
            obtain ⟨L6, eL7⟩ : ∃ L9 : List Int32, L9 = (orT (clsT (teT (evT [] ne) nt) cl cl.length) os os.length) ++ daT b := ⟨_, rfl⟩
            have bn5 : L6.length ≤ 1145 := by rw [eL7]; exact lnA (L := (orT (clsT (teT (evT [] ne) nt) cl cl.length) os os.length)) (L2 := daT b) (n := 1136) (n2 := 9) hln lda
            refine r_room (x2 := (300 * m + 259) + 1) (y2 := (530000 * m + 523998) + 4002) (rq rfl) (rq rfl) ?_
            refine k_V (x := (300 * m + 259)) (y := (530000 * m + 523998)) (rest := []) 0 dL_told__359 kv_L_71 (cj_apK (i := j5) hj5 (by rw [eL7, hk5]) h9 (Nat.le_trans bn5 (by decide))) rfl rfl rfl rfl (Nat.le_of_ble_eq_true rfl) (by decide) (by decide) ?_
            rintro ⟨bv1, bm2, bf3⟩ bh4
            try dsimp only at bh4
            show R g mL_told_ 14 (300 * m + 259) (530000 * m + 523998) 362 [(7, .int x9), (6, .int (nI os.length)), (5, .int (nI no)), (3, .ref q1), (0, .ref (gb g)), (1, .int (6 : Int32)), (2, .ref a)] [.ref a] ((a, .inr (13, [.ref bv1, .int (0 : Int32), .int (0 : Int32), .int (nI L6.length)])) :: ((bv1, yA g bm2 bf3) :: ((q1, .inr (10, [.int (nI ne), .int (nI nt), .ref aC, .ref aD, .ref r9, .ref aT, .int (0 : Int32), .int (0 : Int32)])) :: ((aD, zA g 10 (dbF 0)) :: ((aT, qA g 6 no (oT (os ++ [(b, wh, ot)]))) :: (w7 ++ t)))))) (Dq (fun (z : Nat × va_W) => some (.ref z.1)) (fun z => z.2 ++ t) (fun z => ToldP g a z))
            refine r_aload_n 3 dL_told__362 rfl ?_
            refine r_getf (v := .ref r9) 2 dL_told__363 fl_L_140 rfl rfl ?_
            refine r_iload 1 dL_told__366 rfl ?_
            refine r_aaldm (t := 4) (n := (oa ++ [q2]).length) (f := (fun k => (oa ++ [q2])[k]?)) (v := .ref q2) dL_told__368 rfl rfl (List.mem_cons_of_mem _ (List.mem_cons_of_mem _ (List.mem_cons_of_mem _ (List.mem_cons_of_mem _ (List.mem_cons_of_mem _ (List.mem_append_left _ (hm7 _ i1))))))) (ib_nI (by rw [List.length_append, hol]; exact Nat.lt_succ_self _) (by rw [List.length_append, hol]; show os.length + 1 < _; omega)) (by rw [nI_clamp (by omega), ← hol, List.getElem?_append_right (Nat.le_refl _), Nat.sub_self]; rfl) ?_
            refine r_iconst (v := (1 : Int32)) dL_told__369 (by decide) ?_
            refine r_ialdm (n := 2) (f := (fun j => if j = 0 then bI b else if j = 1 then nI wh else 0)) dL_told__370 (List.mem_cons_of_mem _ (List.mem_cons_of_mem _ (List.mem_cons_of_mem _ (List.mem_cons_of_mem _ (List.mem_cons_of_mem _ (List.mem_append_left _ (hm7 _ i2))))))) (by decide) ?_
            refine r_top (w := .int (nI wh)) (by rw [cl1]; rfl) ?_
            obtain ⟨L13, eL14⟩ : ∃ L9 : List Int32, L9 = L6 ++ dgL wh := ⟨_, rfl⟩
            have bn12 : L13.length ≤ 1146 := by rw [eL14]; exact lnA (L := L6) (L2 := dgL wh) (n := 1145) (n2 := 1) bn5 (dgL_t1 (v := wh) (by omega))
            refine r_room (x2 := (300 * m + 258) + 1) (y2 := (530000 * m + 519996) + 4002) (rq rfl) (rq rfl) ?_
            refine k_V (x := (300 * m + 258)) (y := (530000 * m + 519996)) (rest := []) 0 dL_told__371 kv_L_75 (cj_apI (x9 := wh) (by omega) eL14 bh4 (Nat.le_trans bn12 (by decide))) rfl rfl rfl rfl (Nat.le_of_ble_eq_true rfl) (by decide) (by decide) ?_
            rintro ⟨bv8, bm9, bf10⟩ bh11
            try dsimp only at bh11
            show R g mL_told_ 14 (300 * m + 258) (530000 * m + 519996) 374 [(7, .int x9), (6, .int (nI os.length)), (5, .int (nI no)), (3, .ref q1), (0, .ref (gb g)), (1, .int (6 : Int32)), (2, .ref a)] [.ref a] ((a, .inr (13, [.ref bv8, .int (0 : Int32), .int (0 : Int32), .int (nI L13.length)])) :: ((bv8, yA g bm9 bf10) :: ((q1, .inr (10, [.int (nI ne), .int (nI nt), .ref aC, .ref aD, .ref r9, .ref aT, .int (0 : Int32), .int (0 : Int32)])) :: ((aD, zA g 10 (dbF 0)) :: ((aT, qA g 6 no (oT (os ++ [(b, wh, ot)]))) :: (w7 ++ t)))))) (Dq (fun (z : Nat × va_W) => some (.ref z.1)) (fun z => z.2 ++ t) (fun z => ToldP g a z))
            have J417 : ∀ z9 : SZ, sP (whT ot) z9 → R g mL_told_ 14 (300 * m + 4) (530000 * m + 8100) 417 [(7, .int x9), (6, .int (nI os.length)), (5, .int (nI no)), (3, .ref q1), (0, .ref (gb g)), (1, .int (6 : Int32)), (2, .ref a)] [(sv g z9), .ref a] ((a, .inr (13, [.ref bv8, .int (0 : Int32), .int (0 : Int32), .int (nI L13.length)])) :: ((bv8, yA g bm9 bf10) :: ((q1, .inr (10, [.int (nI ne), .int (nI nt), .ref aC, .ref aD, .ref r9, .ref aT, .int (0 : Int32), .int (0 : Int32)])) :: ((aD, zA g 10 (dbF 0)) :: ((aT, qA g 6 no (oT (os ++ [(b, wh, ot)]))) :: ((sw g (whT ot).length z9) ++ (w7 ++ t))))))) (Dq (fun (z : Nat × va_W) => some (.ref z.1)) (fun z => z.2 ++ t) (fun z => ToldP g a z)) := by
              intro z9 hz9
              have hn8 : (L13 ++ whT ot).length ≤ 1337 := by rw [List.length_append]; have := bn12; omega
              refine r_seg (ws2 := ((a, .inr (13, [.ref bv8, .int (0 : Int32), .int (0 : Int32), .int (nI L13.length)])) :: ((bv8, yA g bm9 bf10) :: ((sw g (whT ot).length z9) ++ ([(q1, .inr (10, [.int (nI ne), .int (nI nt), .ref aC, .ref aD, .ref r9, .ref aT, .int (0 : Int32), .int (0 : Int32)])), (aD, zA g 10 (dbF 0)), (aT, qA g 6 no (oT (os ++ [(b, wh, ot)])))] ++ (w7 ++ t)))))) [[(a, .inr (13, [.ref bv8, .int (0 : Int32), .int (0 : Int32), .int (nI L13.length)]))], [(bv8, yA g bm9 bf10)], [(q1, .inr (10, [.int (nI ne), .int (nI nt), .ref aC, .ref aD, .ref r9, .ref aT, .int (0 : Int32), .int (0 : Int32)]))], [(aD, zA g 10 (dbF 0))], [(aT, qA g 6 no (oT (os ++ [(b, wh, ot)])))], (sw g (whT ot).length z9), w7, t] [0, 1, 5, 2, 3, 4, 6, 7] rfl rfl rfl ?_
              refine r_room (x2 := (300 * m + 3) + 1) (y2 := (530000 * m + 4098) + 4002) (rq rfl) (rq rfl) ?_
              refine k_V (x := (300 * m + 3)) (y := (530000 * m + 4098)) (rest := []) 0 dL_told__417 kv_L_71 (cj_apX (L2 := (whT ot)) (z := z9) hz9 rfl bh11 (Nat.le_trans hn8 (by decide))) rfl rfl rfl rfl (Nat.le_of_ble_eq_true rfl) (by decide) (by decide) ?_
              rintro ⟨v8, m8, f8⟩ h8
              try dsimp only at h8
              show R g mL_told_ 14 (300 * m + 3) (530000 * m + 4098) 420 [(7, .int x9), (6, .int (nI os.length)), (5, .int (nI no)), (3, .ref q1), (0, .ref (gb g)), (1, .int (6 : Int32)), (2, .ref a)] [.ref a] ((a, .inr (13, [.ref v8, .int (0 : Int32), .int (0 : Int32), .int (nI (L13 ++ whT ot).length)])) :: ((v8, yA g m8 f8) :: ((sw g (whT ot).length z9) ++ ([(q1, .inr (10, [.int (nI ne), .int (nI nt), .ref aC, .ref aD, .ref r9, .ref aT, .int (0 : Int32), .int (0 : Int32)])), (aD, zA g 10 (dbF 0)), (aT, qA g 6 no (oT (os ++ [(b, wh, ot)])))] ++ (w7 ++ t))))) (Dq (fun (z : Nat × va_W) => some (.ref z.1)) (fun z => z.2 ++ t) (fun z => ToldP g a z))
              refine r_seg (ws2 := ((a, .inr (13, [.ref v8, .int (0 : Int32), .int (0 : Int32), .int (nI (L13 ++ whT ot).length)])) :: ((v8, yA g m8 f8) :: ((q1, .inr (10, [.int (nI ne), .int (nI nt), .ref aC, .ref aD, .ref r9, .ref aT, .int (0 : Int32), .int (0 : Int32)])) :: ((aD, zA g 10 (dbF 0)) :: ((aT, qA g 6 no (oT (os ++ [(b, wh, ot)]))) :: (w7 ++ t))))))) [[(a, .inr (13, [.ref v8, .int (0 : Int32), .int (0 : Int32), .int (nI (L13 ++ whT ot).length)]))], [(v8, yA g m8 f8)], (sw g (whT ot).length z9), [(q1, .inr (10, [.int (nI ne), .int (nI nt), .ref aC, .ref aD, .ref r9, .ref aT, .int (0 : Int32), .int (0 : Int32)])), (aD, zA g 10 (dbF 0)), (aT, qA g 6 no (oT (os ++ [(b, wh, ot)])))], w7, t] [0, 1, 3, 4, 5] rfl rfl rfl ?_
              refine r_ldcS (i := 14) dL_told__420 rfl ?_
              obtain ⟨L20, eL21⟩ : ∃ L9 : List Int32, L9 = (L13 ++ whT ot) ++ kT 14 := ⟨_, rfl⟩
              have bn19 : L20.length ≤ 1338 := by rw [eL21]; exact lnA (L := (L13 ++ whT ot)) (L2 := kT 14) (n := 1337) (n2 := 1) hn8 (Nat.le_of_eq kl_14)
              refine r_room (x2 := (300 * m + 2) + 1) (y2 := (530000 * m + 96) + 4002) (rq rfl) (rq rfl) ?_
              refine k_V (x := (300 * m + 2)) (y := (530000 * m + 96)) (rest := []) 0 dL_told__422 kv_L_71 (cj_apK (i := 14) (by decide) eL21 h8 (Nat.le_trans bn19 (by decide))) rfl rfl rfl rfl (Nat.le_of_ble_eq_true rfl) (by decide) (by decide) ?_
              rintro ⟨bv15, bm16, bf17⟩ bh18
              try dsimp only at bh18
              show R g mL_told_ 14 (300 * m + 2) (530000 * m + 96) 425 [(7, .int x9), (6, .int (nI os.length)), (5, .int (nI no)), (3, .ref q1), (0, .ref (gb g)), (1, .int (6 : Int32)), (2, .ref a)] [.ref a] ((a, .inr (13, [.ref bv15, .int (0 : Int32), .int (0 : Int32), .int (nI L20.length)])) :: ((bv15, yA g bm16 bf17) :: ((q1, .inr (10, [.int (nI ne), .int (nI nt), .ref aC, .ref aD, .ref r9, .ref aT, .int (0 : Int32), .int (0 : Int32)])) :: ((aD, zA g 10 (dbF 0)) :: ((aT, qA g 6 no (oT (os ++ [(b, wh, ot)]))) :: (w7 ++ t)))))) (Dq (fun (z : Nat × va_W) => some (.ref z.1)) (fun z => z.2 ++ t) (fun z => ToldP g a z))
              refine r_pop dL_told__425 rfl ?_
              refine r_seg (ws2 := ((q1, .inr (10, [.int (nI ne), .int (nI nt), .ref aC, .ref aD, .ref r9, .ref aT, .int (0 : Int32), .int (0 : Int32)])) :: ((aD, zA g 10 (dbF 0)) :: ((a, .inr (13, [.ref bv15, .int (0 : Int32), .int (0 : Int32), .int (nI L20.length)])) :: ((bv15, yA g bm16 bf17) :: ((aT, qA g 6 no (oT (os ++ [(b, wh, ot)]))) :: (w7 ++ t))))))) [[(a, .inr (13, [.ref bv15, .int (0 : Int32), .int (0 : Int32), .int (nI L20.length)]))], [(bv15, yA g bm16 bf17)], [(q1, .inr (10, [.int (nI ne), .int (nI nt), .ref aC, .ref aD, .ref r9, .ref aT, .int (0 : Int32), .int (0 : Int32)]))], [(aD, zA g 10 (dbF 0))], [(aT, qA g 6 no (oT (os ++ [(b, wh, ot)])))], w7, t] [2, 3, 0, 1, 4, 5, 6] rfl rfl rfl ?_
              refine r_iinc (v2 := (nI (os.length + 1))) 1 [(6, .int (nI (os.length + 1))), (7, .int x9), (5, .int (nI no)), (3, .ref q1), (0, .ref (gb g)), (1, .int (6 : Int32)), (2, .ref a)] dL_told__426 rfl (nI_1 _) (by decide) rfl ?_
              refine r_goto (tgt := 230) dL_told__429 (by decide) ?_
              refine r_ls [0, 2, 3, 4, 5, 6] (ls2 := [(6, .int (nI (os.length + 1))), (5, .int (nI no)), (3, .ref q1), (0, .ref (gb g)), (1, .int (6 : Int32)), (2, .ref a)]) rfl ?_
              have e9 : L20 = orT (clsT (teT (evT [] ne) nt) cl cl.length) (os ++ [(b, wh, ot)]) (os.length + 1) := by rw [eL21, eL14, eL7, orT_add]
              have hl9 : (orT (clsT (teT (evT [] ne) nt) cl cl.length) (os ++ [(b, wh, ot)]) (os.length + 1)).length ≤ 530 + 202 * (os.length + 1) := by
                rw [orT_add]
                have q1 := daT_len b
                have q2 := dgL_t1 (v := wh) (by omega)
                have q3 := kl_14
                simp only [List.length_append]
                omega
              rw [e9]
              rw [e9] at bh18
              refine r_room (x2 := 300 * m) (y2 := 530000 * m) (by omega) (by omega) ?_
              exact ih (os.length + 1) (by omega) r9 bv15 bm16 bf17 (oa ++ [q2]) (os ++ [(b, wh, ot)]) w7 hC7 hR7 (by rw [List.length_append]; rfl) bh18 hl9
            refine r_aload_n 3 dL_told__374 rfl ?_
            refine r_getf (v := .ref aT) 2 dL_told__375 fl_L_136 rfl rfl ?_
            refine r_iload 1 dL_told__378 rfl ?_
            cases ot with
            | none =>
              refine r_aaldm (t := 6) (n := no) (f := (oT (os ++ [(b, wh, none)]))) (v := .null) dL_told__380 rfl rfl (List.mem_cons_of_mem _ (List.mem_cons_of_mem _ (List.mem_cons_of_mem _ (List.mem_cons_of_mem _ List.mem_cons_self)))) (ib_nI hot (by omega)) (by rw [nI_clamp (by omega), oT_n (by rw [oG_at])]; rfl) ?_
              refine r_ifnonnullN dL_told__381 ?_
              refine r_ldcS (i := 20) dL_told__384 rfl ?_
              refine r_goto (tgt := 417) dL_told__386 (by decide) ?_
              refine r_room (x2 := 300 * m + 4) (y2 := 530000 * m + 8100) (by omega) (by omega) ?_
              exact J417 (Sum.inl 20) ⟨by decide, rfl⟩
            | some T =>
              obtain ⟨hTM, hTB, -⟩ := hT7 T rfl
              have ltx := txt_len (show ne ≤ 10 by omega) (show nt ≤ 10 by omega) 4 T (Or.inr hTB)
              refine r_aaldm (t := 6) (n := no) (f := (oT (os ++ [(b, wh, some T)]))) (v := .ref (tA 4 T)) dL_told__380 rfl rfl (List.mem_cons_of_mem _ (List.mem_cons_of_mem _ (List.mem_cons_of_mem _ (List.mem_cons_of_mem _ List.mem_cons_self)))) (ib_nI hot (by omega)) (by rw [nI_clamp (by omega), oT_s (by rw [oG_at])]; rfl) ?_
              refine r_ifnonnull (tgt := 389) dL_told__381 (by decide) ?_
              refine r_new (N := 4) (x := (300 * m + 257)) (y := (530000 * m + 519992)) dL_told__389 nl_L_66 (fun q3 => ?_)
              refine r_dup dL_told__392 rfl ?_
              refine r_room (x2 := (300 * m + 256) + 1) (y2 := (530000 * m + 519976) + 16) (rq rfl) (rq rfl) ?_
              refine k_I (x := (300 * m + 256)) (y := (530000 * m + 519976)) (rest := [.ref q3, .ref a]) dL_told__393 ki_L_68 (cj_sb) rfl rfl (Nat.le_of_ble_eq_true rfl) (by decide) (by decide) ?_
              rintro bv22 -
              show R g mL_told_ 14 (300 * m + 256) (530000 * m + 519976) 396 [(7, .int x9), (6, .int (nI os.length)), (5, .int (nI no)), (3, .ref q1), (0, .ref (gb g)), (1, .int (6 : Int32)), (2, .ref a)] [.ref q3, .ref a] ((q3, .inr (13, [.ref bv22, .int (0 : Int32), .int (0 : Int32), .int (nI ([] : List Int32).length)])) :: ((bv22, yA g 16 (fun _ => 0)) :: ((a, .inr (13, [.ref bv8, .int (0 : Int32), .int (0 : Int32), .int (nI L13.length)])) :: ((bv8, yA g bm9 bf10) :: ((q1, .inr (10, [.int (nI ne), .int (nI nt), .ref aC, .ref aD, .ref r9, .ref aT, .int (0 : Int32), .int (0 : Int32)])) :: ((aD, zA g 10 (dbF 0)) :: ((aT, qA g 6 no (oT (os ++ [(b, wh, some T)]))) :: (w7 ++ t)))))))) (Dq (fun (z : Nat × va_W) => some (.ref z.1)) (fun z => z.2 ++ t) (fun z => ToldP g a z))
              refine r_ldcS (i := 26) dL_told__396 rfl ?_
              obtain ⟨L28, eL29⟩ : ∃ L9 : List Int32, L9 = ([] : List Int32) ++ kT 26 := ⟨_, rfl⟩
              have bn27 : L28.length ≤ 6 := by rw [eL29]; exact lnA (L := ([] : List Int32)) (L2 := kT 26) (n := 0) (n2 := 6) (Nat.le_refl 0) (Nat.le_of_eq kl_26)
              refine r_room (x2 := (300 * m + 255) + 1) (y2 := (530000 * m + 515974) + 4002) (rq rfl) (rq rfl) ?_
              refine k_V (x := (300 * m + 255)) (y := (530000 * m + 515974)) (rest := [.ref a]) 0 dL_told__398 kv_L_71 (cj_apK (i := 26) (by decide) eL29 BL.nil (Nat.le_trans bn27 (by decide))) rfl rfl rfl rfl (Nat.le_of_ble_eq_true rfl) (by decide) (by decide) ?_
              rintro ⟨bv23, bm24, bf25⟩ bh26
              try dsimp only at bh26
              show R g mL_told_ 14 (300 * m + 255) (530000 * m + 515974) 401 [(7, .int x9), (6, .int (nI os.length)), (5, .int (nI no)), (3, .ref q1), (0, .ref (gb g)), (1, .int (6 : Int32)), (2, .ref a)] [.ref q3, .ref a] ((q3, .inr (13, [.ref bv23, .int (0 : Int32), .int (0 : Int32), .int (nI L28.length)])) :: ((bv23, yA g bm24 bf25) :: ((a, .inr (13, [.ref bv8, .int (0 : Int32), .int (0 : Int32), .int (nI L13.length)])) :: ((bv8, yA g bm9 bf10) :: ((q1, .inr (10, [.int (nI ne), .int (nI nt), .ref aC, .ref aD, .ref r9, .ref aT, .int (0 : Int32), .int (0 : Int32)])) :: ((aD, zA g 10 (dbF 0)) :: ((aT, qA g 6 no (oT (os ++ [(b, wh, some T)]))) :: (w7 ++ t)))))))) (Dq (fun (z : Nat × va_W) => some (.ref z.1)) (fun z => z.2 ++ t) (fun z => ToldP g a z))
              refine r_aload_n 3 dL_told__401 rfl ?_
              refine r_getf (v := .ref aT) 4 dL_told__402 fl_L_136 rfl rfl ?_
              refine r_iload 1 dL_told__405 rfl ?_
              refine r_aaldm (t := 6) (n := no) (f := (oT (os ++ [(b, wh, some T)]))) (v := .ref (tA 4 T)) dL_told__407 rfl rfl (List.mem_cons_of_mem _ (List.mem_cons_of_mem _ (List.mem_cons_of_mem _ (List.mem_cons_of_mem _ (List.mem_cons_of_mem _ (List.mem_cons_of_mem _ List.mem_cons_self)))))) (ib_nI hot (by omega)) (by rw [nI_clamp (by omega), oT_s (by rw [oG_at])]; rfl) ?_
              obtain ⟨fsT, hfT⟩ := TM.cell 4 T hTM
              refine r_room (x2 := (300 * m + 15) + 240) (y2 := (530000 * m + 20974) + 495000) (by omega) (by omega) ?_
              refine k_Vm (x := (300 * m + 15)) (y := (530000 * m + 20974)) (rest := [.ref q3, .ref a]) dL_told__408 kv_L_149 (cl_text (g := g) (ne := ne) (nt := nt) (by omega) (by omega) 4 (by decide) T _ (TM.mono (fun p hp => (List.mem_cons_of_mem _ (List.mem_cons_of_mem _ (List.mem_cons_of_mem _ (List.mem_cons_of_mem _ (List.mem_cons_of_mem _ (List.mem_cons_of_mem _ (List.mem_cons_of_mem _ (List.mem_append_left _ hp))))))))) 4 T hTM) (Or.inr hTB)) rfl rfl (List.mem_cons_of_mem _ (List.mem_cons_of_mem _ (List.mem_cons_of_mem _ (List.mem_cons_of_mem _ (List.mem_cons_of_mem _ (List.mem_cons_of_mem _ (List.mem_cons_of_mem _ (List.mem_append_left _ hfT)))))))) rfl (Nat.le_of_ble_eq_true rfl) (by decide) (by decide) ?_
              rintro zz hz
              refine r_seg (ws2 := ((q3, .inr (13, [.ref bv23, .int (0 : Int32), .int (0 : Int32), .int (nI L28.length)])) :: ((bv23, yA g bm24 bf25) :: ((a, .inr (13, [.ref bv8, .int (0 : Int32), .int (0 : Int32), .int (nI L13.length)])) :: ((bv8, yA g bm9 bf10) :: ((q1, .inr (10, [.int (nI ne), .int (nI nt), .ref aC, .ref aD, .ref r9, .ref aT, .int (0 : Int32), .int (0 : Int32)])) :: ((aD, zA g 10 (dbF 0)) :: ((aT, qA g 6 no (oT (os ++ [(b, wh, some T)]))) :: ((sw g (txt 4 T).length zz) ++ (w7 ++ t)))))))))) [sw g (txt 4 T).length zz, [(q3, .inr (13, [.ref bv23, .int (0 : Int32), .int (0 : Int32), .int (nI L28.length)]))], [(bv23, yA g bm24 bf25)], [(a, .inr (13, [.ref bv8, .int (0 : Int32), .int (0 : Int32), .int (nI L13.length)]))], [(bv8, yA g bm9 bf10)], [(q1, .inr (10, [.int (nI ne), .int (nI nt), .ref aC, .ref aD, .ref r9, .ref aT, .int (0 : Int32), .int (0 : Int32)]))], [(aD, zA g 10 (dbF 0))], [(aT, qA g 6 no (oT (os ++ [(b, wh, some T)])))], w7, t] [1, 2, 3, 4, 5, 6, 7, 0, 8, 9] rfl rfl rfl ?_
              obtain ⟨L35, eL36⟩ : ∃ L9 : List Int32, L9 = L28 ++ txt 4 T := ⟨_, rfl⟩
              have bn34 : L35.length ≤ 200 := by rw [eL36, List.length_append]; have := bn27; omega
              refine r_seg (ws2 := ((q3, .inr (13, [.ref bv23, .int (0 : Int32), .int (0 : Int32), .int (nI L28.length)])) :: ((bv23, yA g bm24 bf25) :: ((sw g (txt 4 T).length zz) ++ ([(a, .inr (13, [.ref bv8, .int (0 : Int32), .int (0 : Int32), .int (nI L13.length)])), (bv8, yA g bm9 bf10), (q1, .inr (10, [.int (nI ne), .int (nI nt), .ref aC, .ref aD, .ref r9, .ref aT, .int (0 : Int32), .int (0 : Int32)])), (aD, zA g 10 (dbF 0)), (aT, qA g 6 no (oT (os ++ [(b, wh, some T)])))] ++ (w7 ++ t)))))) [[(q3, .inr (13, [.ref bv23, .int (0 : Int32), .int (0 : Int32), .int (nI L28.length)]))], [(bv23, yA g bm24 bf25)], [(a, .inr (13, [.ref bv8, .int (0 : Int32), .int (0 : Int32), .int (nI L13.length)]))], [(bv8, yA g bm9 bf10)], [(q1, .inr (10, [.int (nI ne), .int (nI nt), .ref aC, .ref aD, .ref r9, .ref aT, .int (0 : Int32), .int (0 : Int32)]))], [(aD, zA g 10 (dbF 0))], [(aT, qA g 6 no (oT (os ++ [(b, wh, some T)])))], (sw g (txt 4 T).length zz), w7, t] [0, 1, 7, 2, 3, 4, 5, 6, 8, 9] rfl rfl rfl ?_
              refine r_room (x2 := (300 * m + 14) + 1) (y2 := (530000 * m + 16972) + 4002) (rq rfl) (rq rfl) ?_
              refine k_V (x := (300 * m + 14)) (y := (530000 * m + 16972)) (rest := [.ref a]) 0 dL_told__411 kv_L_71 (cj_apX (L2 := (txt 4 T)) (z := zz) hz eL36 bh26 (Nat.le_trans bn34 (by decide))) rfl rfl rfl rfl (Nat.le_of_ble_eq_true rfl) (by decide) (by decide) ?_
              rintro ⟨bv30, bm31, bf32⟩ bh33
              try dsimp only at bh33
              show R g mL_told_ 14 (300 * m + 14) (530000 * m + 16972) 414 [(7, .int x9), (6, .int (nI os.length)), (5, .int (nI no)), (3, .ref q1), (0, .ref (gb g)), (1, .int (6 : Int32)), (2, .ref a)] [.ref q3, .ref a] ((q3, .inr (13, [.ref bv30, .int (0 : Int32), .int (0 : Int32), .int (nI L35.length)])) :: ((bv30, yA g bm31 bf32) :: ((sw g (txt 4 T).length zz) ++ ([(a, .inr (13, [.ref bv8, .int (0 : Int32), .int (0 : Int32), .int (nI L13.length)])), (bv8, yA g bm9 bf10), (q1, .inr (10, [.int (nI ne), .int (nI nt), .ref aC, .ref aD, .ref r9, .ref aT, .int (0 : Int32), .int (0 : Int32)])), (aD, zA g 10 (dbF 0)), (aT, qA g 6 no (oT (os ++ [(b, wh, some T)])))] ++ (w7 ++ t))))) (Dq (fun (z : Nat × va_W) => some (.ref z.1)) (fun z => z.2 ++ t) (fun z => ToldP g a z))
              refine r_seg (ws2 := ((q3, .inr (13, [.ref bv30, .int (0 : Int32), .int (0 : Int32), .int (nI L35.length)])) :: ((bv30, yA g bm31 bf32) :: ((a, .inr (13, [.ref bv8, .int (0 : Int32), .int (0 : Int32), .int (nI L13.length)])) :: ((bv8, yA g bm9 bf10) :: ((q1, .inr (10, [.int (nI ne), .int (nI nt), .ref aC, .ref aD, .ref r9, .ref aT, .int (0 : Int32), .int (0 : Int32)])) :: ((aD, zA g 10 (dbF 0)) :: ((aT, qA g 6 no (oT (os ++ [(b, wh, some T)]))) :: (w7 ++ t))))))))) [[(q3, .inr (13, [.ref bv30, .int (0 : Int32), .int (0 : Int32), .int (nI L35.length)]))], [(bv30, yA g bm31 bf32)], (sw g (txt 4 T).length zz), [(a, .inr (13, [.ref bv8, .int (0 : Int32), .int (0 : Int32), .int (nI L13.length)])), (bv8, yA g bm9 bf10), (q1, .inr (10, [.int (nI ne), .int (nI nt), .ref aC, .ref aD, .ref r9, .ref aT, .int (0 : Int32), .int (0 : Int32)])), (aD, zA g 10 (dbF 0)), (aT, qA g 6 no (oT (os ++ [(b, wh, some T)])))], w7, t] [0, 1, 3, 4, 5] rfl rfl rfl ?_
              refine r_room (x2 := (300 * m + 12) + 2) (y2 := (530000 * m + 12966) + 4006) (rq rfl) (rq rfl) ?_
              refine k_V (x := (300 * m + 12)) (y := (530000 * m + 12966)) (rest := [.ref a]) 0 dL_told__414 kv_L_84 (cj_strB bh33) rfl rfl rfl rfl (Nat.le_of_ble_eq_true rfl) (by decide) (by decide) ?_
              rintro ⟨ts37, tb38, tf39⟩ th40
              try dsimp only at th40
              show R g mL_told_ 14 (300 * m + 12) (530000 * m + 12966) 417 [(7, .int x9), (6, .int (nI os.length)), (5, .int (nI no)), (3, .ref q1), (0, .ref (gb g)), (1, .int (6 : Int32)), (2, .ref a)] [.ref ts37, .ref a] ((ts37, .inr (12, [.ref tb38, .int (0 : Int32), .int (0 : Int32), .int (0 : Int32)])) :: ((tb38, yA g L35.length tf39) :: ((q3, .inr (13, [.ref bv30, .int (0 : Int32), .int (0 : Int32), .int (nI L35.length)])) :: ((bv30, yA g bm31 bf32) :: ((a, .inr (13, [.ref bv8, .int (0 : Int32), .int (0 : Int32), .int (nI L13.length)])) :: ((bv8, yA g bm9 bf10) :: ((q1, .inr (10, [.int (nI ne), .int (nI nt), .ref aC, .ref aD, .ref r9, .ref aT, .int (0 : Int32), .int (0 : Int32)])) :: ((aD, zA g 10 (dbF 0)) :: ((aT, qA g 6 no (oT (os ++ [(b, wh, some T)]))) :: (w7 ++ t)))))))))) (Dq (fun (z : Nat × va_W) => some (.ref z.1)) (fun z => z.2 ++ t) (fun z => ToldP g a z))
              refine r_seg (ws2 := ((a, .inr (13, [.ref bv8, .int (0 : Int32), .int (0 : Int32), .int (nI L13.length)])) :: ((bv8, yA g bm9 bf10) :: ((q1, .inr (10, [.int (nI ne), .int (nI nt), .ref aC, .ref aD, .ref r9, .ref aT, .int (0 : Int32), .int (0 : Int32)])) :: ((aD, zA g 10 (dbF 0)) :: ((aT, qA g 6 no (oT (os ++ [(b, wh, some T)]))) :: ((ts37, .inr (12, [.ref tb38, .int (0 : Int32), .int (0 : Int32), .int (0 : Int32)])) :: ((tb38, yA g L35.length tf39) :: (w7 ++ t))))))))) [[(ts37, .inr (12, [.ref tb38, .int (0 : Int32), .int (0 : Int32), .int (0 : Int32)]))], [(tb38, yA g L35.length tf39)], [(q3, .inr (13, [.ref bv30, .int (0 : Int32), .int (0 : Int32), .int (nI L35.length)]))], [(bv30, yA g bm31 bf32)], [(a, .inr (13, [.ref bv8, .int (0 : Int32), .int (0 : Int32), .int (nI L13.length)]))], [(bv8, yA g bm9 bf10)], [(q1, .inr (10, [.int (nI ne), .int (nI nt), .ref aC, .ref aD, .ref r9, .ref aT, .int (0 : Int32), .int (0 : Int32)]))], [(aD, zA g 10 (dbF 0))], [(aT, qA g 6 no (oT (os ++ [(b, wh, some T)])))], w7, t] [4, 5, 6, 7, 8, 0, 1, 9, 10] rfl rfl rfl ?_
              refine r_room (x2 := 300 * m + 4) (y2 := 530000 * m + 8100) (by omega) (by omega) ?_
              have ec : whT (some T) = L35 := by rw [eL36, eL29]; rfl
              rw [← ec] at th40 ⊢
              exact J417 (Sum.inr (ts37, tb38, tf39)) th40
          refine r_icmp_ne (tgt := 357) dL_told__349 (by decide) (fun h1 => ?_) (fun h1 => ?_)
          · refine r_ldcS (i := 25) dL_told__357 rfl ?_
            exact J359 25 (by decide) (by cases b with | false => rfl | true => exact absurd rfl h1)
          · refine r_ldcS (i := 24) dL_told__352 rfl ?_
            refine r_goto (tgt := 359) dL_told__354 (by decide) ?_
            exact J359 24 (by decide) (by cases b with | true => rfl | false => exact absurd (show (0 : Int32) = 1 from h1) (by decide))
        refine r_if_ne (tgt := 321) dL_told__314 (by decide) (fun h5 => ?_) (fun h5 => ?_)
        · refine r_iload 0 dL_told__321 rfl ?_
          refine r_iconst (v := (3 : Int32)) dL_told__323 (by decide) ?_
          refine r_ishr dL_told__324 ?_
          refine r_aload_n 3 dL_told__325 rfl ?_
          refine r_getf (v := .int (nI ne)) 0 dL_told__326 fl_L_108 rfl rfl ?_
          refine r_aload_n 3 dL_told__329 rfl ?_
          refine r_getf (v := .int (nI nt)) 0 dL_told__330 fl_L_111 rfl rfl ?_
          refine r_iconst (v := (0 : Int32)) dL_told__333 (by decide) ?_
          refine r_top (w := .int (nI 0)) (rfl) ?_
          refine r_room (x2 := (300 * m + 283) + 15) (y2 := (530000 * m + 529882) + 75) (by omega) (by omega) ?_
          refine k_S (x := (300 * m + 283)) (y := (530000 * m + 529882)) (rest := [.int (nI os.length), .ref aT]) dL_told__334 ks_L_63 (cl_test n1 (by omega) n3 (by omega) 4 (by decide) 0 (x9 >>> ((3 : Int32) &&& 31)) _ (by decide) (by decide)) rfl rfl (Nat.le_of_ble_eq_true rfl) (by decide) (by decide) ?_
          rintro ⟨T, wT⟩ ⟨hTM, hTB⟩
          dsimp only at hTM hTB
          refine r_seg (ws2 := ((q1, .inr (10, [.int (nI ne), .int (nI nt), .ref aC, .ref aD, .ref r9, .ref aT, .int (0 : Int32), .int (0 : Int32)])) :: ((aD, zA g 10 (dbF 0)) :: ((a, .inr (13, [.ref v9, .int (0 : Int32), .int (0 : Int32), .int (nI (orT (clsT (teT (evT [] ne) nt) cl cl.length) os os.length).length)])) :: ((v9, yA g m9 f9) :: ((aT, qA g 6 no (oT os)) :: (wT ++ (w8 ++ t)))))))) [wT, [(q1, .inr (10, [.int (nI ne), .int (nI nt), .ref aC, .ref aD, .ref r9, .ref aT, .int (0 : Int32), .int (0 : Int32)]))], [(aD, zA g 10 (dbF 0))], [(a, .inr (13, [.ref v9, .int (0 : Int32), .int (0 : Int32), .int (nI (orT (clsT (teT (evT [] ne) nt) cl cl.length) os os.length).length)]))], [(v9, yA g m9 f9)], [(aT, qA g 6 no (oT os))], w8, t] [1, 2, 3, 4, 5, 0, 6, 7] rfl rfl rfl ?_
          obtain ⟨fsT, hfT⟩ := TM.cell 4 T hTM
          obtain ⟨jv, hjv⟩ := List.getElem?_of_mem (show (tA 4 T, .inr (11, fsT)) ∈ ((q1, .inr (10, [.int (nI ne), .int (nI nt), .ref aC, .ref aD, .ref r9, .ref aT, .int (0 : Int32), .int (0 : Int32)])) :: ((aD, zA g 10 (dbF 0)) :: ((a, .inr (13, [.ref v9, .int (0 : Int32), .int (0 : Int32), .int (nI (orT (clsT (teT (evT [] ne) nt) cl cl.length) os os.length).length)])) :: ((v9, yA g m9 f9) :: ((aT, qA g 6 no (oT os)) :: (wT ++ (w8 ++ t))))))) from (List.mem_cons_of_mem _ (List.mem_cons_of_mem _ (List.mem_cons_of_mem _ (List.mem_cons_of_mem _ (List.mem_cons_of_mem _ (List.mem_append_left _ hfT)))))))
          refine r_astT (ws2 := ((q1, .inr (10, [.int (nI ne), .int (nI nt), .ref aC, .ref aD, .ref r9, .ref aT, .int (0 : Int32), .int (0 : Int32)])) :: ((aD, zA g 10 (dbF 0)) :: ((a, .inr (13, [.ref v9, .int (0 : Int32), .int (0 : Int32), .int (nI (orT (clsT (teT (evT [] ne) nt) cl cl.length) os os.length).length)])) :: ((v9, yA g m9 f9) :: ((aT, qA g 6 no (oT (os ++ [(b, wh, some T)]))) :: (wT ++ (w8 ++ t)))))))) 4 jv dL_told__337 rfl hjv (ib_nI hk2 (by omega)) (by rw [nI_clamp (by omega), ← oT_add (b := b) (w := wh) (ot := some T)]; rfl) ?_
          refine r_room (x2 := 300 * m + 260) (y2 := 530000 * m + 528000) (by omega) (by omega) ?_
          have K := J338 (some T) (wT ++ w8) (fun p hp => List.mem_append_right _ hp) (fun T2 e => by cases e; exact ⟨TM.mono (fun p hp => List.mem_append_left _ hp) 4 T hTM, hTB⟩)
          rw [List.append_assoc] at K
          exact K
        · refine r_null dL_told__317 ?_
          refine r_goto (tgt := 337) dL_told__318 (by decide) ?_
          refine r_astTN (ws2 := ((q1, .inr (10, [.int (nI ne), .int (nI nt), .ref aC, .ref aD, .ref r9, .ref aT, .int (0 : Int32), .int (0 : Int32)])) :: ((aD, zA g 10 (dbF 0)) :: ((a, .inr (13, [.ref v9, .int (0 : Int32), .int (0 : Int32), .int (nI (orT (clsT (teT (evT [] ne) nt) cl cl.length) os os.length).length)])) :: ((v9, yA g m9 f9) :: ((aT, qA g 6 no (oT (os ++ [(b, wh, none)]))) :: (w8 ++ t))))))) 4 dL_told__337 rfl (ib_nI hk2 (by omega)) (by rw [nI_clamp (by omega), ← oT_add (b := b) (w := wh) (ot := none)]; rfl) ?_
          refine r_room (x2 := 300 * m + 260) (y2 := 530000 * m + 528000) (by omega) (by omega) ?_
          exact J338 none w8 (fun p hp => hp) (fun T2 e => (nomatch e))
      refine r_if_ne (tgt := 278) dL_told__271 (by decide) (fun h3 => ?_) (fun h3 => ?_)
      · refine r_iconst (v := (1 : Int32)) dL_told__278 (by decide) ?_
        refine r_top (w := .int (bI true)) (rfl) ?_
        exact J279 true
      · refine r_iconst (v := (0 : Int32)) dL_told__274 (by decide) ?_
        refine r_goto (tgt := 279) dL_told__275 (by decide) ?_
        refine r_top (w := .int (bI false)) (rfl) ?_
        exact J279 false
  have LC : ∀ nc, nc ≤ 16 → ∀ m k, m + k = nc → ∀ (aC v9 m9 : Nat) (f9 : Nat → Int32) (ca : List Nat) (cl : List (Nat → Int32)) (w9 : va_W), SimR g w9 aC ca cl → (aO, qA g 4 ([] : List Nat).length (fun k => ([] : List Nat)[k]?)) ∈ w9 → CV ne nt ca cl → CD cl → cl.length = k → BL (clsT (teT (evT [] ne) nt) cl k) m9 f9 → R g mL_told_ 14 (50 * m + 1201) (70000 * m + 2120004) 126 [(5, .int (nI k)), (4, .int (nI nc)), (3, .ref q1), (0, .ref (gb g)), (1, .int (6 : Int32)), (2, .ref a)] [] ((q1, .inr (10, [.int (nI ne), .int (nI nt), .ref aC, .ref aD, .ref aO, .ref aT, .int (0 : Int32), .int (0 : Int32)])) :: ((aD, zA g 10 (dbF 0)) :: ((a, .inr (13, [.ref v9, .int (0 : Int32), .int (0 : Int32), .int (nI (clsT (teT (evT [] ne) nt) cl k).length)])) :: ((v9, yA g m9 f9) :: (w9 ++ t))))) (Dq (fun (z : Nat × va_W) => some (.ref z.1)) (fun z => z.2 ++ t) (fun z => ToldP g a z)) := by
    intro nc hnc m
    induction m with
    | zero =>
      intro k hk aC v9 m9 f9 ca cl w9 hC hO9 hV hD hcl h9
      have ek : k = nc := by omega
      subst ek
      have hln := clsT_len (B := (teT (evT [] ne) nt)) hV.2.2 (by omega) (by omega) k (by omega)
      have hl2 := teT_len (evT [] ne) nt (by omega)
      have hl3 := evT_len [] ne (by omega)
      have h00 : ([] : List Int32).length = 0 := rfl
      refine r_room (x2 := 1201) (y2 := 2120004) (by omega) (by omega) ?_
      refine r_iload 0 dL_told__126 rfl ?_
      refine r_iload 1 dL_told__128 rfl ?_
      refine r_icmp_ge (tgt := 205) dL_told__130 (by decide) (fun _ => ?_) (fun hc => absurd (nI_le (Nat.le_refl _) (by omega)) hc)
      refine r_aload_n 3 dL_told__205 rfl ?_
      refine r_iconst (v := (1 : Int32)) dL_told__206 (by decide) ?_
      refine k_S (x := 1201) (y := 2120004) (rest := []) dL_told__207 ks_L_104 (cl_cell (k := 1) (by decide) hL) rfl rfl (Nat.le_of_ble_eq_true rfl) (by decide) (by decide) ?_
      rintro c5 -
      show R g mL_told_ 14 1201 2120004 210 [(5, .int (nI k)), (4, .int (nI k)), (3, .ref q1), (0, .ref (gb g)), (1, .int (6 : Int32)), (2, .ref a)] [.int c5] ((q1, .inr (10, [.int (nI ne), .int (nI nt), .ref aC, .ref aD, .ref aO, .ref aT, .int (0 : Int32), .int (0 : Int32)])) :: ((aD, zA g 10 (dbF 0)) :: ((a, .inr (13, [.ref v9, .int (0 : Int32), .int (0 : Int32), .int (nI (clsT (teT (evT [] ne) nt) cl k).length)])) :: ((v9, yA g m9 f9) :: (w9 ++ t))))) (Dq (fun (z : Nat × va_W) => some (.ref z.1)) (fun z => z.2 ++ t) (fun z => ToldP g a z))
      refine r_iconst (v := (5 : Int32)) dL_told__210 (by decide) ?_
      refine r_ishr dL_told__211 ?_
      refine r_iconst (v := (5 : Int32)) dL_told__212 (by decide) ?_
      refine r_top (w := .int (nI 5)) (rfl) ?_
      refine k_S (x := 1201) (y := 2120004) (rest := []) dL_told__213 ks_L_35 ((cl_below (v := (c5 >>> ((5 : Int32) &&& 31))) (n := 5) (by decide) (by decide)).dq) rfl rfl (Nat.le_of_ble_eq_true rfl) (by decide) (by decide) ?_
      rintro ⟨⟩ -
      show R g mL_told_ 14 1201 2120004 216 [(5, .int (nI k)), (4, .int (nI k)), (3, .ref q1), (0, .ref (gb g)), (1, .int (6 : Int32)), (2, .ref a)] [.int (nI (bw (c5 >>> ((5 : Int32) &&& 31)) 5))] ((q1, .inr (10, [.int (nI ne), .int (nI nt), .ref aC, .ref aD, .ref aO, .ref aT, .int (0 : Int32), .int (0 : Int32)])) :: ((aD, zA g 10 (dbF 0)) :: ((a, .inr (13, [.ref v9, .int (0 : Int32), .int (0 : Int32), .int (nI (clsT (teT (evT [] ne) nt) cl k).length)])) :: ((v9, yA g m9 f9) :: (w9 ++ t))))) (Dq (fun (z : Nat × va_W) => some (.ref z.1)) (fun z => z.2 ++ t) (fun z => ToldP g a z))
      have hno := bw_lt (c5 >>> ((5 : Int32) &&& 31)) (n := 5) (by decide)
      generalize bw (c5 >>> ((5 : Int32) &&& 31)) 5 = no at hno ⊢
      show R g mL_told_ 14 1201 2120004 216 [(5, .int (nI k)), (4, .int (nI k)), (3, .ref q1), (0, .ref (gb g)), (1, .int (6 : Int32)), (2, .ref a)] [.int (nI no)] ((q1, .inr (10, [.int (nI ne), .int (nI nt), .ref aC, .ref aD, .ref aO, .ref aT, .int (0 : Int32), .int (0 : Int32)])) :: ((aD, zA g 10 (dbF 0)) :: ((a, .inr (13, [.ref v9, .int (0 : Int32), .int (0 : Int32), .int (nI (clsT (teT (evT [] ne) nt) cl k).length)])) :: ((v9, yA g m9 f9) :: (w9 ++ t))))) (Dq (fun (z : Nat × va_W) => some (.ref z.1)) (fun z => z.2 ++ t) (fun z => ToldP g a z))
      refine r_istore [(5, .int (nI no)), (4, .int (nI k)), (3, .ref q1), (0, .ref (gb g)), (1, .int (6 : Int32)), (2, .ref a)] dL_told__216 (by decide) rfl ?_
      refine r_aload_n 2 dL_told__218 rfl ?_
      refine r_iload 0 dL_told__219 rfl ?_
      refine r_room (x2 := 1200 + 1) (y2 := (2120000 + (4 - no)) + no) (by omega) (by omega) ?_
      refine r_newT (x := 1200) (y := (2120000 + (4 - no))) (N := no) dL_told__221 kk_1545 (nI_pos (by omega)) (nI_clamp (by omega)) (by omega) (fun q4 => ?_)
      refine r_seg (ws2 := ((q1, .inr (10, [.int (nI ne), .int (nI nt), .ref aC, .ref aD, .ref aO, .ref aT, .int (0 : Int32), .int (0 : Int32)])) :: ((aD, zA g 10 (dbF 0)) :: ((a, .inr (13, [.ref v9, .int (0 : Int32), .int (0 : Int32), .int (nI (clsT (teT (evT [] ne) nt) cl k).length)])) :: ((v9, yA g m9 f9) :: ((q4, qA g 6 no (fun _ => none)) :: (w9 ++ t))))))) [[(q4, qA g 6 no (fun _ => none))], [(q1, .inr (10, [.int (nI ne), .int (nI nt), .ref aC, .ref aD, .ref aO, .ref aT, .int (0 : Int32), .int (0 : Int32)]))], [(aD, zA g 10 (dbF 0))], [(a, .inr (13, [.ref v9, .int (0 : Int32), .int (0 : Int32), .int (nI (clsT (teT (evT [] ne) nt) cl k).length)]))], [(v9, yA g m9 f9)], w9, t] [1, 2, 3, 4, 0, 5, 6] rfl rfl rfl ?_
      refine r_putf (ws2 := ((q1, .inr (10, [.int (nI ne), .int (nI nt), .ref aC, .ref aD, .ref aO, .ref q4, .int (0 : Int32), .int (0 : Int32)])) :: ((aD, zA g 10 (dbF 0)) :: ((a, .inr (13, [.ref v9, .int (0 : Int32), .int (0 : Int32), .int (nI (clsT (teT (evT [] ne) nt) cl k).length)])) :: ((v9, yA g m9 f9) :: ((q4, qA g 6 no (fun _ => none)) :: (w9 ++ t))))))) 0 dL_told__224 fl_L_136 rfl (Nat.le_of_ble_eq_true rfl) rfl rfl rfl ?_
      refine r_iconst (v := (0 : Int32)) dL_told__227 (by decide) ?_
      refine r_top (w := .int (nI 0)) (rfl) ?_
      refine r_istore [(6, .int (nI 0)), (5, .int (nI no)), (4, .int (nI k)), (3, .ref q1), (0, .ref (gb g)), (1, .int (6 : Int32)), (2, .ref a)] dL_told__228 (by decide) rfl ?_
      refine r_ls [0, 1, 3, 4, 5, 6] (ls2 := [(6, .int (nI 0)), (5, .int (nI no)), (3, .ref q1), (0, .ref (gb g)), (1, .int (6 : Int32)), (2, .ref a)]) rfl ?_
      refine r_room (x2 := 300 * no) (y2 := 530000 * no) (by omega) (by omega) ?_
      have eT : (fun _ => (none : Option Nat)) = oT [] := by funext j; unfold oT; rw [oG_out (Nat.zero_le _)]
      rw [eT]
      subst hcl
      exact LO no q4 aC ca cl (by omega) hV hD (by omega) no 0 (by omega) aO v9 m9 f9 [] [] w9 hC ⟨rfl, hO9, fun k hk => absurd hk (Nat.not_lt_zero _)⟩ rfl h9 (by show (clsT (teT (evT [] ne) nt) cl cl.length).length ≤ _; omega)
    | succ m ih =>
      intro k hk aC v9 m9 f9 ca cl w9 hC hO9 hV hD hcl h9
      have hk2 : k < nc := by omega
      have hln0 := clsT_len (B := (teT (evT [] ne) nt)) hV.2.2 (by omega) (by omega) k (by omega)
      have hl2 := teT_len (evT [] ne) nt (by omega)
      have hl3 := evT_len [] ne (by omega)
      have h00 : ([] : List Int32).length = 0 := rfl
      have hln : (clsT (teT (evT [] ne) nt) cl k).length ≤ 504 := by omega
      have hlc := hV.1
      refine r_room (x2 := (50 * m + 1201 + 50)) (y2 := (70000 * m + 2120004 + 70000)) (by omega) (by omega) ?_
      refine r_iload 0 dL_told__126 rfl ?_
      refine r_iload 1 dL_told__128 rfl ?_
      refine r_icmp_ge (tgt := 205) dL_told__130 (by decide) (fun hc => absurd hc (nI_ge (by omega) (by omega))) (fun _ => ?_)
      refine r_aload_n 3 dL_told__133 rfl ?_
      refine r_iload 0 dL_told__134 rfl ?_
      refine r_bipush (v := (16 : Int32)) dL_told__136 (by decide) ?_
      refine r_irem dL_told__138 (by decide) ?_
      refine r_top (w := .int (nI (k % 16))) (congrArg Value.int (pk_rem (a := k) (d := 16) (by omega) (by decide) (by decide))) ?_
      refine k_S (x := (50 * m + 1201 + 50)) (y := (70000 * m + 2120004 + 70000)) (rest := []) dL_told__139 ks_L_104 (cl_cell (k := (k % 16)) (by omega) hL) rfl rfl (Nat.le_of_ble_eq_true rfl) (by decide) (by decide) ?_
      rintro c9 -
      show R g mL_told_ 14 (50 * m + 1201 + 50) (70000 * m + 2120004 + 70000) 142 [(5, .int (nI k)), (4, .int (nI nc)), (3, .ref q1), (0, .ref (gb g)), (1, .int (6 : Int32)), (2, .ref a)] [.int c9] ((q1, .inr (10, [.int (nI ne), .int (nI nt), .ref aC, .ref aD, .ref aO, .ref aT, .int (0 : Int32), .int (0 : Int32)])) :: ((aD, zA g 10 (dbF 0)) :: ((a, .inr (13, [.ref v9, .int (0 : Int32), .int (0 : Int32), .int (nI (clsT (teT (evT [] ne) nt) cl k).length)])) :: ((v9, yA g m9 f9) :: (w9 ++ t))))) (Dq (fun (z : Nat × va_W) => some (.ref z.1)) (fun z => z.2 ++ t) (fun z => ToldP g a z))
      refine r_iconst (v := (2 : Int32)) dL_told__142 (by decide) ?_
      refine r_iload 0 dL_told__143 rfl ?_
      refine r_bipush (v := (16 : Int32)) dL_told__145 (by decide) ?_
      refine r_idiv dL_told__147 (by decide) ?_
      refine r_iconst (v := (3 : Int32)) dL_told__148 (by decide) ?_
      refine r_imul dL_told__149 ?_
      refine r_iadd dL_told__150 ?_
      refine r_ishr dL_told__151 ?_
      refine r_bipush (v := (37 : Int32)) dL_told__152 (by decide) ?_
      refine r_iload 0 dL_told__154 rfl ?_
      refine r_imul dL_told__156 ?_
      refine r_iadd dL_told__157 ?_
      generalize ((c9 >>> (((2 : Int32) + (((nI k) / (16 : Int32)) * (3 : Int32))) &&& 31)) + ((37 : Int32) * (nI k))) = x9
      show R g mL_told_ 14 (50 * m + 1201 + 50) (70000 * m + 2120004 + 70000) 158 [(5, .int (nI k)), (4, .int (nI nc)), (3, .ref q1), (0, .ref (gb g)), (1, .int (6 : Int32)), (2, .ref a)] [.int x9] ((q1, .inr (10, [.int (nI ne), .int (nI nt), .ref aC, .ref aD, .ref aO, .ref aT, .int (0 : Int32), .int (0 : Int32)])) :: ((aD, zA g 10 (dbF 0)) :: ((a, .inr (13, [.ref v9, .int (0 : Int32), .int (0 : Int32), .int (nI (clsT (teT (evT [] ne) nt) cl k).length)])) :: ((v9, yA g m9 f9) :: (w9 ++ t))))) (Dq (fun (z : Nat × va_W) => some (.ref z.1)) (fun z => z.2 ++ t) (fun z => ToldP g a z))
      refine r_aload_n 2 dL_told__158 rfl ?_
      refine r_getf (v := .int (nI ne)) 0 dL_told__159 fl_L_108 rfl rfl ?_
      refine r_aload_n 2 dL_told__162 rfl ?_
      refine r_getf (v := .int (nI nt)) 0 dL_told__163 fl_L_111 rfl rfl ?_
      refine r_room (x2 := (50 * m + 1201 + 49) + 1) (y2 := (70000 * m + 2120004 + 69995) + 5) (rq rfl) (rq rfl) ?_
      refine k_S (x := (50 * m + 1201 + 49)) (y := (70000 * m + 2120004 + 69995)) (rest := []) dL_told__166 ks_L_118 (cl_claim (x := x9) n1 (by omega) n3 (by omega)) rfl rfl (Nat.le_of_ble_eq_true rfl) (by decide) (by decide) ?_
      rintro ⟨q5, f5⟩ ⟨hf5, hd5⟩
      try dsimp only at hf5 hd5
      show R g mL_told_ 14 (50 * m + 1201 + 49) (70000 * m + 2120004 + 69995) 169 [(5, .int (nI k)), (4, .int (nI nc)), (3, .ref q1), (0, .ref (gb g)), (1, .int (6 : Int32)), (2, .ref a)] [.ref q5] ((q5, iA g 5 f5) :: ((q1, .inr (10, [.int (nI ne), .int (nI nt), .ref aC, .ref aD, .ref aO, .ref aT, .int (0 : Int32), .int (0 : Int32)])) :: ((aD, zA g 10 (dbF 0)) :: ((a, .inr (13, [.ref v9, .int (0 : Int32), .int (0 : Int32), .int (nI (clsT (teT (evT [] ne) nt) cl k).length)])) :: ((v9, yA g m9 f9) :: (w9 ++ t)))))) (Dq (fun (z : Nat × va_W) => some (.ref z.1)) (fun z => z.2 ++ t) (fun z => ToldP g a z))
      refine r_astore [(6, .ref q5), (5, .int (nI k)), (4, .int (nI nc)), (3, .ref q1), (0, .ref (gb g)), (1, .int (6 : Int32)), (2, .ref a)] dL_told__169 (by decide) rfl ?_
      refine r_aload_n 3 dL_told__171 rfl ?_
      refine r_aload_n 3 dL_told__172 rfl ?_
      refine r_getf (v := .ref aC) 1 dL_told__173 fl_L_122 rfl rfl ?_
      refine r_aload 0 dL_told__176 rfl ?_
      refine r_room (x2 := (50 * m + 1201 + 48) + 1) (y2 := (70000 * m + 2120004 + 69954) + 41) (rq rfl) (rq rfl) ?_
      refine k_S (x := (50 * m + 1201 + 48)) (y := (70000 * m + 2120004 + 69954)) (rest := [.ref q1]) dL_told__178 ks_L_126 (cl_with (aC := aC) (v := q5) (ca := ca) (z0 := _) ((List.mem_cons_of_mem _ (List.mem_cons_of_mem _ (List.mem_cons_of_mem _ (List.mem_cons_of_mem _ (List.mem_cons_of_mem _ (List.mem_append_left _ hC.1))))))) (fun k hk => ⟨_, (List.mem_cons_of_mem _ (List.mem_cons_of_mem _ (List.mem_cons_of_mem _ (List.mem_cons_of_mem _ (List.mem_cons_of_mem _ (List.mem_append_left _ (hC.2 k hk)))))))⟩) List.mem_cons_self (by omega)) rfl rfl (Nat.le_of_ble_eq_true rfl) (by decide) (by decide) ?_
      rintro r9 -
      show R g mL_told_ 14 (50 * m + 1201 + 48) (70000 * m + 2120004 + 69954) 181 [(6, .ref q5), (5, .int (nI k)), (4, .int (nI nc)), (3, .ref q1), (0, .ref (gb g)), (1, .int (6 : Int32)), (2, .ref a)] [.ref r9, .ref q1] ((r9, qA g 4 (ca ++ [q5]).length (fun k => (ca ++ [q5])[k]?)) :: ((q5, iA g 5 f5) :: ((q1, .inr (10, [.int (nI ne), .int (nI nt), .ref aC, .ref aD, .ref aO, .ref aT, .int (0 : Int32), .int (0 : Int32)])) :: ((aD, zA g 10 (dbF 0)) :: ((a, .inr (13, [.ref v9, .int (0 : Int32), .int (0 : Int32), .int (nI (clsT (teT (evT [] ne) nt) cl k).length)])) :: ((v9, yA g m9 f9) :: (w9 ++ t))))))) (Dq (fun (z : Nat × va_W) => some (.ref z.1)) (fun z => z.2 ++ t) (fun z => ToldP g a z))
      refine r_seg (ws2 := ((q1, .inr (10, [.int (nI ne), .int (nI nt), .ref aC, .ref aD, .ref aO, .ref aT, .int (0 : Int32), .int (0 : Int32)])) :: ((aD, zA g 10 (dbF 0)) :: ((a, .inr (13, [.ref v9, .int (0 : Int32), .int (0 : Int32), .int (nI (clsT (teT (evT [] ne) nt) cl k).length)])) :: ((v9, yA g m9 f9) :: ((r9, qA g 4 (ca ++ [q5]).length (fun k => (ca ++ [q5])[k]?)) :: ((q5, iA g 5 f5) :: (w9 ++ t)))))))) [[(r9, qA g 4 (ca ++ [q5]).length (fun k => (ca ++ [q5])[k]?))], [(q5, iA g 5 f5)], [(q1, .inr (10, [.int (nI ne), .int (nI nt), .ref aC, .ref aD, .ref aO, .ref aT, .int (0 : Int32), .int (0 : Int32)]))], [(aD, zA g 10 (dbF 0))], [(a, .inr (13, [.ref v9, .int (0 : Int32), .int (0 : Int32), .int (nI (clsT (teT (evT [] ne) nt) cl k).length)]))], [(v9, yA g m9 f9)], w9, t] [2, 3, 4, 5, 0, 1, 6, 7] rfl rfl rfl ?_
      refine r_putf (ws2 := ((q1, .inr (10, [.int (nI ne), .int (nI nt), .ref r9, .ref aD, .ref aO, .ref aT, .int (0 : Int32), .int (0 : Int32)])) :: ((aD, zA g 10 (dbF 0)) :: ((a, .inr (13, [.ref v9, .int (0 : Int32), .int (0 : Int32), .int (nI (clsT (teT (evT [] ne) nt) cl k).length)])) :: ((v9, yA g m9 f9) :: ((r9, qA g 4 (ca ++ [q5]).length (fun k => (ca ++ [q5])[k]?)) :: ((q5, iA g 5 f5) :: (w9 ++ t)))))))) 0 dL_told__181 fl_L_122 rfl (Nat.le_of_ble_eq_true rfl) rfl rfl rfl ?_
      refine r_aload_n 6 dL_told__184 rfl ?_
      refine r_aload 0 dL_told__185 rfl ?_
      have ltc := clT_len hf5 (show ne ≤ 10 by omega) (show nt ≤ 10 by omega)
      refine r_room (x2 := (50 * m + 1201 + 8) + 40) (y2 := (70000 * m + 2120004 + 9954) + 60000) (rq rfl) (rq rfl) ?_
      refine k_S (x := (50 * m + 1201 + 8)) (y := (70000 * m + 2120004 + 9954)) (rest := [.ref a]) dL_told__187 ks_L_130 (cl_toldC (a := q5) (ne := ne) (nt := nt) (f := f5) ((List.mem_cons_of_mem _ (List.mem_cons_of_mem _ (List.mem_cons_of_mem _ (List.mem_cons_of_mem _ (List.mem_cons_of_mem _ List.mem_cons_self)))))) hf5 (by omega) (by omega)) rfl rfl (Nat.le_of_ble_eq_true rfl) (by decide) (by decide) ?_
      rintro ⟨s5, b5, g5⟩ h5
      try dsimp only at h5
      show R g mL_told_ 14 (50 * m + 1201 + 8) (70000 * m + 2120004 + 9954) 190 [(6, .ref q5), (5, .int (nI k)), (4, .int (nI nc)), (3, .ref q1), (0, .ref (gb g)), (1, .int (6 : Int32)), (2, .ref a)] [.ref s5, .ref a] ((s5, .inr (12, [.ref b5, .int (0 : Int32), .int (0 : Int32), .int (0 : Int32)])) :: ((b5, yA g (clT f5).length g5) :: ((q1, .inr (10, [.int (nI ne), .int (nI nt), .ref r9, .ref aD, .ref aO, .ref aT, .int (0 : Int32), .int (0 : Int32)])) :: ((aD, zA g 10 (dbF 0)) :: ((a, .inr (13, [.ref v9, .int (0 : Int32), .int (0 : Int32), .int (nI (clsT (teT (evT [] ne) nt) cl k).length)])) :: ((v9, yA g m9 f9) :: ((r9, qA g 4 (ca ++ [q5]).length (fun k => (ca ++ [q5])[k]?)) :: ((q5, iA g 5 f5) :: (w9 ++ t))))))))) (Dq (fun (z : Nat × va_W) => some (.ref z.1)) (fun z => z.2 ++ t) (fun z => ToldP g a z))
      refine r_seg (ws2 := ((a, .inr (13, [.ref v9, .int (0 : Int32), .int (0 : Int32), .int (nI (clsT (teT (evT [] ne) nt) cl k).length)])) :: ((v9, yA g m9 f9) :: ((s5, .inr (12, [.ref b5, .int (0 : Int32), .int (0 : Int32), .int (0 : Int32)])) :: ((b5, yA g (clT f5).length g5) :: ((q1, .inr (10, [.int (nI ne), .int (nI nt), .ref r9, .ref aD, .ref aO, .ref aT, .int (0 : Int32), .int (0 : Int32)])) :: ((aD, zA g 10 (dbF 0)) :: ((r9, qA g 4 (ca ++ [q5]).length (fun k => (ca ++ [q5])[k]?)) :: ((q5, iA g 5 f5) :: (w9 ++ t)))))))))) [[(s5, .inr (12, [.ref b5, .int (0 : Int32), .int (0 : Int32), .int (0 : Int32)]))], [(b5, yA g (clT f5).length g5)], [(q1, .inr (10, [.int (nI ne), .int (nI nt), .ref r9, .ref aD, .ref aO, .ref aT, .int (0 : Int32), .int (0 : Int32)]))], [(aD, zA g 10 (dbF 0))], [(a, .inr (13, [.ref v9, .int (0 : Int32), .int (0 : Int32), .int (nI (clsT (teT (evT [] ne) nt) cl k).length)]))], [(v9, yA g m9 f9)], [(r9, qA g 4 (ca ++ [q5]).length (fun k => (ca ++ [q5])[k]?))], [(q5, iA g 5 f5)], w9, t] [4, 5, 0, 1, 2, 3, 6, 7, 8, 9] rfl rfl rfl ?_
      obtain ⟨L46, eL47⟩ : ∃ L9 : List Int32, L9 = (clsT (teT (evT [] ne) nt) cl k) ++ (clT f5) := ⟨_, rfl⟩
      have bn45 : L46.length ≤ 529 := by rw [eL47]; exact lnA (L := (clsT (teT (evT [] ne) nt) cl k)) (L2 := (clT f5)) (n := 504) (n2 := 25) hln (ltc)
      refine r_room (x2 := (50 * m + 1201 + 7) + 1) (y2 := (70000 * m + 2120004 + 5952) + 4002) (rq rfl) (rq rfl) ?_
      refine k_V (x := (50 * m + 1201 + 7)) (y := (70000 * m + 2120004 + 5952)) (rest := []) 0 dL_told__190 kv_L_71 (cj_apX (L2 := (clT f5)) (z := (Sum.inr (s5, b5, g5))) h5 eL47 h9 (Nat.le_trans bn45 (by decide))) rfl rfl rfl rfl (Nat.le_of_ble_eq_true rfl) (by decide) (by decide) ?_
      rintro ⟨bv41, bm42, bf43⟩ bh44
      try dsimp only at bh44
      show R g mL_told_ 14 (50 * m + 1201 + 7) (70000 * m + 2120004 + 5952) 193 [(6, .ref q5), (5, .int (nI k)), (4, .int (nI nc)), (3, .ref q1), (0, .ref (gb g)), (1, .int (6 : Int32)), (2, .ref a)] [.ref a] ((a, .inr (13, [.ref bv41, .int (0 : Int32), .int (0 : Int32), .int (nI L46.length)])) :: ((bv41, yA g bm42 bf43) :: ((s5, .inr (12, [.ref b5, .int (0 : Int32), .int (0 : Int32), .int (0 : Int32)])) :: ((b5, yA g (clT f5).length g5) :: ((q1, .inr (10, [.int (nI ne), .int (nI nt), .ref r9, .ref aD, .ref aO, .ref aT, .int (0 : Int32), .int (0 : Int32)])) :: ((aD, zA g 10 (dbF 0)) :: ((r9, qA g 4 (ca ++ [q5]).length (fun k => (ca ++ [q5])[k]?)) :: ((q5, iA g 5 f5) :: (w9 ++ t))))))))) (Dq (fun (z : Nat × va_W) => some (.ref z.1)) (fun z => z.2 ++ t) (fun z => ToldP g a z))
      refine r_ldcS (i := 23) dL_told__193 rfl ?_
      obtain ⟨L53, eL54⟩ : ∃ L9 : List Int32, L9 = L46 ++ kT 23 := ⟨_, rfl⟩
      have bn52 : L53.length ≤ 530 := by rw [eL54]; exact lnA (L := L46) (L2 := kT 23) (n := 529) (n2 := 1) bn45 (Nat.le_of_eq kl_23)
      refine r_room (x2 := (50 * m + 1201 + 6) + 1) (y2 := (70000 * m + 2120004 + 1950) + 4002) (rq rfl) (rq rfl) ?_
      refine k_V (x := (50 * m + 1201 + 6)) (y := (70000 * m + 2120004 + 1950)) (rest := []) 0 dL_told__195 kv_L_71 (cj_apK (i := 23) (by decide) eL54 bh44 (Nat.le_trans bn52 (by decide))) rfl rfl rfl rfl (Nat.le_of_ble_eq_true rfl) (by decide) (by decide) ?_
      rintro ⟨bv48, bm49, bf50⟩ bh51
      try dsimp only at bh51
      show R g mL_told_ 14 (50 * m + 1201 + 6) (70000 * m + 2120004 + 1950) 198 [(6, .ref q5), (5, .int (nI k)), (4, .int (nI nc)), (3, .ref q1), (0, .ref (gb g)), (1, .int (6 : Int32)), (2, .ref a)] [.ref a] ((a, .inr (13, [.ref bv48, .int (0 : Int32), .int (0 : Int32), .int (nI L53.length)])) :: ((bv48, yA g bm49 bf50) :: ((s5, .inr (12, [.ref b5, .int (0 : Int32), .int (0 : Int32), .int (0 : Int32)])) :: ((b5, yA g (clT f5).length g5) :: ((q1, .inr (10, [.int (nI ne), .int (nI nt), .ref r9, .ref aD, .ref aO, .ref aT, .int (0 : Int32), .int (0 : Int32)])) :: ((aD, zA g 10 (dbF 0)) :: ((r9, qA g 4 (ca ++ [q5]).length (fun k => (ca ++ [q5])[k]?)) :: ((q5, iA g 5 f5) :: (w9 ++ t))))))))) (Dq (fun (z : Nat × va_W) => some (.ref z.1)) (fun z => z.2 ++ t) (fun z => ToldP g a z))
      refine r_pop dL_told__198 rfl ?_
      refine r_iinc (v2 := (nI (k + 1))) 1 [(5, .int (nI (k + 1))), (6, .ref q5), (4, .int (nI nc)), (3, .ref q1), (0, .ref (gb g)), (1, .int (6 : Int32)), (2, .ref a)] dL_told__199 rfl (nI_1 k) (by decide) rfl ?_
      refine r_goto (tgt := 126) dL_told__202 (by decide) ?_
      refine r_seg (ws2 := ((q1, .inr (10, [.int (nI ne), .int (nI nt), .ref r9, .ref aD, .ref aO, .ref aT, .int (0 : Int32), .int (0 : Int32)])) :: ((aD, zA g 10 (dbF 0)) :: ((a, .inr (13, [.ref bv48, .int (0 : Int32), .int (0 : Int32), .int (nI L53.length)])) :: ((bv48, yA g bm49 bf50) :: ((r9, qA g 4 (ca ++ [q5]).length (fun k => (ca ++ [q5])[k]?)) :: ((q5, iA g 5 f5) :: (w9 ++ t)))))))) [[(a, .inr (13, [.ref bv48, .int (0 : Int32), .int (0 : Int32), .int (nI L53.length)]))], [(bv48, yA g bm49 bf50)], [(s5, .inr (12, [.ref b5, .int (0 : Int32), .int (0 : Int32), .int (0 : Int32)]))], [(b5, yA g (clT f5).length g5)], [(q1, .inr (10, [.int (nI ne), .int (nI nt), .ref r9, .ref aD, .ref aO, .ref aT, .int (0 : Int32), .int (0 : Int32)]))], [(aD, zA g 10 (dbF 0))], [(r9, qA g 4 (ca ++ [q5]).length (fun k => (ca ++ [q5])[k]?))], [(q5, iA g 5 f5)], w9, t] [4, 5, 0, 1, 6, 7, 8, 9] rfl rfl rfl ?_
      refine r_ls [0, 2, 3, 4, 5, 6] (ls2 := [(5, .int (nI (k + 1))), (4, .int (nI nc)), (3, .ref q1), (0, .ref (gb g)), (1, .int (6 : Int32)), (2, .ref a)]) rfl ?_
      obtain ⟨w8, hw8⟩ : ∃ w8 : va_W, w8 = (r9, qA g 4 (ca ++ [q5]).length (fun k => (ca ++ [q5])[k]?)) :: (q5, iA g 5 f5) :: w9 := ⟨_, rfl⟩
      refine r_seg (ws2 := ((q1, .inr (10, [.int (nI ne), .int (nI nt), .ref r9, .ref aD, .ref aO, .ref aT, .int (0 : Int32), .int (0 : Int32)])) :: ((aD, zA g 10 (dbF 0)) :: ((a, .inr (13, [.ref bv48, .int (0 : Int32), .int (0 : Int32), .int (nI L53.length)])) :: ((bv48, yA g bm49 bf50) :: (w8 ++ t)))))) [[(q1, .inr (10, [.int (nI ne), .int (nI nt), .ref r9, .ref aD, .ref aO, .ref aT, .int (0 : Int32), .int (0 : Int32)]))], [(aD, zA g 10 (dbF 0))], [(a, .inr (13, [.ref bv48, .int (0 : Int32), .int (0 : Int32), .int (nI L53.length)]))], [(bv48, yA g bm49 bf50)], [(r9, qA g 4 (ca ++ [q5]).length (fun k => (ca ++ [q5])[k]?))], [(q5, iA g 5 f5)], w9, t] [0, 1, 2, 3, 4, 5, 6, 7] rfl rfl (by rw [hw8]; rfl) ?_
      subst hcl
      have e9 : L53 = clsT (teT (evT [] ne) nt) (cl ++ [f5]) (cl.length + 1) := by rw [eL54, eL47, clsT_add]
      rw [e9]
      rw [e9] at bh51
      refine r_room (x2 := 50 * m + 1201) (y2 := 70000 * m + 2120004) (by omega) (by omega) ?_
      exact ih (cl.length + 1) (by omega) r9 bv48 bm49 bf50 (ca ++ [q5]) (cl ++ [f5]) w8 (SimR.push hC hlc (by rw [hw8]; exact List.mem_cons_of_mem _ List.mem_cons_self) (by rw [hw8]; exact List.mem_cons_self) (fun p hp => by rw [hw8]; exact List.mem_cons_of_mem _ (List.mem_cons_of_mem _ hp))) (by rw [hw8]; exact List.mem_cons_of_mem _ (List.mem_cons_of_mem _ hO9)) (CV.push hV hf5 (by omega)) (CD.push hD hd5) (by rw [List.length_append]; rfl) bh51
  have LteT : ∀ m k, m + k = nt → ∀ (v9 m9 : Nat) (f9 : Nat → Int32), BL (teT (evT [] ne) k) m9 f9 → R g mL_told_ 14 (3 * m + 2001) (12006 * m + 3240004) 79 [(4, .int (nI k)), (3, .ref q1), (0, .ref (gb g)), (1, .int (6 : Int32)), (2, .ref a)] [] ((q1, .inr (10, [.int (nI ne), .int (nI nt), .ref aC, .ref aD, .ref aO, .ref aT, .int (0 : Int32), .int (0 : Int32)])) :: ((aD, zA g 10 (dbF 0)) :: ((a, .inr (13, [.ref v9, .int (0 : Int32), .int (0 : Int32), .int (nI (teT (evT [] ne) k).length)])) :: ((v9, yA g m9 f9) :: (w0 ++ t))))) (Dq (fun (z : Nat × va_W) => some (.ref z.1)) (fun z => z.2 ++ t) (fun z => ToldP g a z)) := by
    intro m
    induction m with
    | zero =>
      intro k hk v9 m9 f9 h9
      have ek : k = nt := by omega
      rw [ek] at h9 ⊢
      refine r_room (x2 := 2001) (y2 := 3240004) (by omega) (by omega) ?_
      refine r_iload 0 dL_told__79 rfl ?_
      refine r_aload_n 1 dL_told__81 rfl ?_
      refine r_getf (v := .int (nI nt)) 0 dL_told__82 fl_L_111 rfl rfl ?_
      refine r_icmp_ge (tgt := 111) dL_told__85 (by decide) (fun _ => ?_) (fun hc => absurd (nI_le (Nat.le_refl _) (by omega)) hc)
      refine r_aload_n 2 dL_told__111 rfl ?_
      refine r_iconst (v := (1 : Int32)) dL_told__112 (by decide) ?_
      refine k_S (x := 2001) (y := 3240004) (rest := []) dL_told__113 ks_L_104 (cl_cell (k := 1) (by decide) hL) rfl rfl (Nat.le_of_ble_eq_true rfl) (by decide) (by decide) ?_
      rintro c4 -
      show R g mL_told_ 14 2001 3240004 116 [(4, .int (nI nt)), (3, .ref q1), (0, .ref (gb g)), (1, .int (6 : Int32)), (2, .ref a)] [.int c4] ((q1, .inr (10, [.int (nI ne), .int (nI nt), .ref aC, .ref aD, .ref aO, .ref aT, .int (0 : Int32), .int (0 : Int32)])) :: ((aD, zA g 10 (dbF 0)) :: ((a, .inr (13, [.ref v9, .int (0 : Int32), .int (0 : Int32), .int (nI (teT (evT [] ne) nt).length)])) :: ((v9, yA g m9 f9) :: (w0 ++ t))))) (Dq (fun (z : Nat × va_W) => some (.ref z.1)) (fun z => z.2 ++ t) (fun z => ToldP g a z))
      refine r_bipush (v := (17 : Int32)) dL_told__116 (by decide) ?_
      refine r_top (w := .int (nI 17)) (rfl) ?_
      refine k_S (x := 2001) (y := 3240004) (rest := []) dL_told__118 ks_L_35 ((cl_below (v := c4) (n := 17) (by decide) (by decide)).dq) rfl rfl (Nat.le_of_ble_eq_true rfl) (by decide) (by decide) ?_
      rintro ⟨⟩ -
      show R g mL_told_ 14 2001 3240004 121 [(4, .int (nI nt)), (3, .ref q1), (0, .ref (gb g)), (1, .int (6 : Int32)), (2, .ref a)] [.int (nI (bw c4 17))] ((q1, .inr (10, [.int (nI ne), .int (nI nt), .ref aC, .ref aD, .ref aO, .ref aT, .int (0 : Int32), .int (0 : Int32)])) :: ((aD, zA g 10 (dbF 0)) :: ((a, .inr (13, [.ref v9, .int (0 : Int32), .int (0 : Int32), .int (nI (teT (evT [] ne) nt).length)])) :: ((v9, yA g m9 f9) :: (w0 ++ t))))) (Dq (fun (z : Nat × va_W) => some (.ref z.1)) (fun z => z.2 ++ t) (fun z => ToldP g a z))
      have hnc := bw_lt c4 (n := 17) (by decide)
      generalize bw c4 17 = nc at hnc ⊢
      show R g mL_told_ 14 2001 3240004 121 [(4, .int (nI nt)), (3, .ref q1), (0, .ref (gb g)), (1, .int (6 : Int32)), (2, .ref a)] [.int (nI nc)] ((q1, .inr (10, [.int (nI ne), .int (nI nt), .ref aC, .ref aD, .ref aO, .ref aT, .int (0 : Int32), .int (0 : Int32)])) :: ((aD, zA g 10 (dbF 0)) :: ((a, .inr (13, [.ref v9, .int (0 : Int32), .int (0 : Int32), .int (nI (teT (evT [] ne) nt).length)])) :: ((v9, yA g m9 f9) :: (w0 ++ t))))) (Dq (fun (z : Nat × va_W) => some (.ref z.1)) (fun z => z.2 ++ t) (fun z => ToldP g a z))
      refine r_istore [(4, .int (nI nc)), (3, .ref q1), (0, .ref (gb g)), (1, .int (6 : Int32)), (2, .ref a)] dL_told__121 (by decide) rfl ?_
      refine r_iconst (v := (0 : Int32)) dL_told__123 (by decide) ?_
      refine r_top (w := .int (nI 0)) (rfl) ?_
      refine r_istore [(5, .int (nI 0)), (4, .int (nI nc)), (3, .ref q1), (0, .ref (gb g)), (1, .int (6 : Int32)), (2, .ref a)] dL_told__124 (by decide) rfl ?_
      refine r_ls [0, 1, 2, 3, 4, 5] (ls2 := [(5, .int (nI 0)), (4, .int (nI nc)), (3, .ref q1), (0, .ref (gb g)), (1, .int (6 : Int32)), (2, .ref a)]) rfl ?_
      refine r_room (x2 := 50 * nc + 1201) (y2 := 70000 * nc + 2120004) (by omega) (by omega) ?_
      exact LC nc (by omega) nc 0 (by omega) aC v9 m9 f9 [] [] w0 hC0 hO0 ⟨rfl, Nat.zero_le _, fun k hk => absurd hk (Nat.not_lt_zero _)⟩ (fun k hk => absurd hk (Nat.not_lt_zero _)) rfl h9
    | succ m ih =>
      intro k hk v9 m9 f9 h9
      have hk2 : k < nt := by omega
      have hln : (teT (evT [] ne) k).length ≤ 104 := by have := teT_len (evT [] ne) k (by omega); have := evT_len [] ne (by omega); have h00 : ([] : List Int32).length = 0 := rfl; omega
      refine r_room (x2 := (3 * m + 2001 + 3)) (y2 := (12006 * m + 3240004 + 12006)) (by omega) (by omega) ?_
      refine r_iload 0 dL_told__79 rfl ?_
      refine r_aload_n 1 dL_told__81 rfl ?_
      refine r_getf (v := .int (nI nt)) 0 dL_told__82 fl_L_111 rfl rfl ?_
      refine r_icmp_ge (tgt := 111) dL_told__85 (by decide) (fun hc => absurd hc (nI_ge (by omega) (by omega))) (fun _ => ?_)
      refine r_seg (ws2 := ((a, .inr (13, [.ref v9, .int (0 : Int32), .int (0 : Int32), .int (nI (teT (evT [] ne) k).length)])) :: ((v9, yA g m9 f9) :: ((q1, .inr (10, [.int (nI ne), .int (nI nt), .ref aC, .ref aD, .ref aO, .ref aT, .int (0 : Int32), .int (0 : Int32)])) :: ((aD, zA g 10 (dbF 0)) :: (w0 ++ t)))))) [[(q1, .inr (10, [.int (nI ne), .int (nI nt), .ref aC, .ref aD, .ref aO, .ref aT, .int (0 : Int32), .int (0 : Int32)]))], [(aD, zA g 10 (dbF 0))], [(a, .inr (13, [.ref v9, .int (0 : Int32), .int (0 : Int32), .int (nI (teT (evT [] ne) k).length)]))], [(v9, yA g m9 f9)], w0, t] [2, 3, 0, 1, 4, 5] rfl rfl rfl ?_
      refine r_aload_n 4 dL_told__88 rfl ?_
      refine r_ldcS (i := 15) dL_told__89 rfl ?_
      obtain ⟨L60, eL61⟩ : ∃ L9 : List Int32, L9 = (teT (evT [] ne) k) ++ kT 15 := ⟨_, rfl⟩
      have bn59 : L60.length ≤ 112 := by rw [eL61]; exact lnA (L := (teT (evT [] ne) k)) (L2 := kT 15) (n := 104) (n2 := 8) hln (Nat.le_of_eq kl_15)
      refine r_room (x2 := (3 * m + 2001 + 2) + 1) (y2 := (12006 * m + 3240004 + 8004) + 4002) (rq rfl) (rq rfl) ?_
      refine k_V (x := (3 * m + 2001 + 2)) (y := (12006 * m + 3240004 + 8004)) (rest := []) 0 dL_told__91 kv_L_71 (cj_apK (i := 15) (by decide) eL61 h9 (Nat.le_trans bn59 (by decide))) rfl rfl rfl rfl (Nat.le_of_ble_eq_true rfl) (by decide) (by decide) ?_
      rintro ⟨bv55, bm56, bf57⟩ bh58
      try dsimp only at bh58
      show R g mL_told_ 14 (3 * m + 2001 + 2) (12006 * m + 3240004 + 8004) 94 [(4, .int (nI k)), (3, .ref q1), (0, .ref (gb g)), (1, .int (6 : Int32)), (2, .ref a)] [.ref a] ((a, .inr (13, [.ref bv55, .int (0 : Int32), .int (0 : Int32), .int (nI L60.length)])) :: ((bv55, yA g bm56 bf57) :: ((q1, .inr (10, [.int (nI ne), .int (nI nt), .ref aC, .ref aD, .ref aO, .ref aT, .int (0 : Int32), .int (0 : Int32)])) :: ((aD, zA g 10 (dbF 0)) :: (w0 ++ t))))) (Dq (fun (z : Nat × va_W) => some (.ref z.1)) (fun z => z.2 ++ t) (fun z => ToldP g a z))
      refine r_iload 0 dL_told__94 rfl ?_
      obtain ⟨L67, eL68⟩ : ∃ L9 : List Int32, L9 = L60 ++ dgL k := ⟨_, rfl⟩
      have bn66 : L67.length ≤ 113 := by rw [eL68]; exact lnA (L := L60) (L2 := dgL k) (n := 112) (n2 := 1) bn59 (dgL_t1 (v := k) (by omega))
      refine r_room (x2 := (3 * m + 2001 + 1) + 1) (y2 := (12006 * m + 3240004 + 4002) + 4002) (rq rfl) (rq rfl) ?_
      refine k_V (x := (3 * m + 2001 + 1)) (y := (12006 * m + 3240004 + 4002)) (rest := []) 0 dL_told__96 kv_L_75 (cj_apI (x9 := k) (by omega) eL68 bh58 (Nat.le_trans bn66 (by decide))) rfl rfl rfl rfl (Nat.le_of_ble_eq_true rfl) (by decide) (by decide) ?_
      rintro ⟨bv62, bm63, bf64⟩ bh65
      try dsimp only at bh65
      show R g mL_told_ 14 (3 * m + 2001 + 1) (12006 * m + 3240004 + 4002) 99 [(4, .int (nI k)), (3, .ref q1), (0, .ref (gb g)), (1, .int (6 : Int32)), (2, .ref a)] [.ref a] ((a, .inr (13, [.ref bv62, .int (0 : Int32), .int (0 : Int32), .int (nI L67.length)])) :: ((bv62, yA g bm63 bf64) :: ((q1, .inr (10, [.int (nI ne), .int (nI nt), .ref aC, .ref aD, .ref aO, .ref aT, .int (0 : Int32), .int (0 : Int32)])) :: ((aD, zA g 10 (dbF 0)) :: (w0 ++ t))))) (Dq (fun (z : Nat × va_W) => some (.ref z.1)) (fun z => z.2 ++ t) (fun z => ToldP g a z))
      refine r_ldcS (i := 14) dL_told__99 rfl ?_
      obtain ⟨L74, eL75⟩ : ∃ L9 : List Int32, L9 = L67 ++ kT 14 := ⟨_, rfl⟩
      have bn73 : L74.length ≤ 114 := by rw [eL75]; exact lnA (L := L67) (L2 := kT 14) (n := 113) (n2 := 1) bn66 (Nat.le_of_eq kl_14)
      refine r_room (x2 := (3 * m + 2001 + 0) + 1) (y2 := (12006 * m + 3240004 + 0) + 4002) (rq rfl) (rq rfl) ?_
      refine k_V (x := (3 * m + 2001 + 0)) (y := (12006 * m + 3240004 + 0)) (rest := []) 0 dL_told__101 kv_L_71 (cj_apK (i := 14) (by decide) eL75 bh65 (Nat.le_trans bn73 (by decide))) rfl rfl rfl rfl (Nat.le_of_ble_eq_true rfl) (by decide) (by decide) ?_
      rintro ⟨bv69, bm70, bf71⟩ bh72
      try dsimp only at bh72
      show R g mL_told_ 14 (3 * m + 2001 + 0) (12006 * m + 3240004 + 0) 104 [(4, .int (nI k)), (3, .ref q1), (0, .ref (gb g)), (1, .int (6 : Int32)), (2, .ref a)] [.ref a] ((a, .inr (13, [.ref bv69, .int (0 : Int32), .int (0 : Int32), .int (nI L74.length)])) :: ((bv69, yA g bm70 bf71) :: ((q1, .inr (10, [.int (nI ne), .int (nI nt), .ref aC, .ref aD, .ref aO, .ref aT, .int (0 : Int32), .int (0 : Int32)])) :: ((aD, zA g 10 (dbF 0)) :: (w0 ++ t))))) (Dq (fun (z : Nat × va_W) => some (.ref z.1)) (fun z => z.2 ++ t) (fun z => ToldP g a z))
      refine r_pop dL_told__104 rfl ?_
      refine r_iinc (v2 := (nI (k + 1))) 0 [(4, .int (nI (k + 1))), (3, .ref q1), (0, .ref (gb g)), (1, .int (6 : Int32)), (2, .ref a)] dL_told__105 rfl (nI_1 k) (by decide) rfl ?_
      refine r_goto (tgt := 79) dL_told__108 (by decide) ?_
      refine r_seg (ws2 := ((q1, .inr (10, [.int (nI ne), .int (nI nt), .ref aC, .ref aD, .ref aO, .ref aT, .int (0 : Int32), .int (0 : Int32)])) :: ((aD, zA g 10 (dbF 0)) :: ((a, .inr (13, [.ref bv69, .int (0 : Int32), .int (0 : Int32), .int (nI L74.length)])) :: ((bv69, yA g bm70 bf71) :: (w0 ++ t)))))) [[(a, .inr (13, [.ref bv69, .int (0 : Int32), .int (0 : Int32), .int (nI L74.length)]))], [(bv69, yA g bm70 bf71)], [(q1, .inr (10, [.int (nI ne), .int (nI nt), .ref aC, .ref aD, .ref aO, .ref aT, .int (0 : Int32), .int (0 : Int32)]))], [(aD, zA g 10 (dbF 0))], w0, t] [2, 3, 0, 1, 4, 5] rfl rfl rfl ?_
      have e9 : L74 = teT (evT [] ne) (k + 1) := by rw [eL75, eL68, eL61]; rfl
      rw [e9]
      rw [e9] at bh72
      exact ih (k + 1) (by omega) bv69 bm70 bf71 bh72
  have LevT : ∀ m k, m + k = ne → ∀ (v9 m9 : Nat) (f9 : Nat → Int32), BL (evT [] k) m9 f9 → R g mL_told_ 14 (3 * m + 2019) (12006 * m + 3312040) 44 [(4, .int (nI k)), (3, .ref q1), (0, .ref (gb g)), (1, .int (6 : Int32)), (2, .ref a)] [] ((q1, .inr (10, [.int (nI ne), .int (nI nt), .ref aC, .ref aD, .ref aO, .ref aT, .int (0 : Int32), .int (0 : Int32)])) :: ((aD, zA g 10 (dbF 0)) :: ((a, .inr (13, [.ref v9, .int (0 : Int32), .int (0 : Int32), .int (nI (evT [] k).length)])) :: ((v9, yA g m9 f9) :: (w0 ++ t))))) (Dq (fun (z : Nat × va_W) => some (.ref z.1)) (fun z => z.2 ++ t) (fun z => ToldP g a z)) := by
    intro m
    induction m with
    | zero =>
      intro k hk v9 m9 f9 h9
      have ek : k = ne := by omega
      rw [ek] at h9 ⊢
      refine r_room (x2 := 2019) (y2 := 3312040) (by omega) (by omega) ?_
      refine r_iload 0 dL_told__44 rfl ?_
      refine r_aload_n 1 dL_told__46 rfl ?_
      refine r_getf (v := .int (nI ne)) 0 dL_told__47 fl_L_108 rfl rfl ?_
      refine r_icmp_ge (tgt := 76) dL_told__50 (by decide) (fun _ => ?_) (fun hc => absurd (nI_le (Nat.le_refl _) (by omega)) hc)
      refine r_iconst (v := (0 : Int32)) dL_told__76 (by decide) ?_
      refine r_top (w := .int (nI 0)) (rfl) ?_
      refine r_istore [(4, .int (nI 0)), (3, .ref q1), (0, .ref (gb g)), (1, .int (6 : Int32)), (2, .ref a)] dL_told__77 (by decide) rfl ?_
      refine r_ls [0, 1, 2, 3, 4] (ls2 := [(4, .int (nI 0)), (3, .ref q1), (0, .ref (gb g)), (1, .int (6 : Int32)), (2, .ref a)]) rfl ?_
      refine r_room (x2 := 3 * nt + 2001) (y2 := 12006 * nt + 3240004) (by omega) (by omega) ?_
      exact LteT nt 0 (by omega) v9 m9 f9 h9
    | succ m ih =>
      intro k hk v9 m9 f9 h9
      have hk2 : k < ne := by omega
      have hln : (evT [] k).length ≤ 45 := by have := evT_len [] k (by omega); have h00 : ([] : List Int32).length = 0 := rfl; omega
      refine r_room (x2 := (3 * m + 2019 + 3)) (y2 := (12006 * m + 3312040 + 12006)) (by omega) (by omega) ?_
      refine r_iload 0 dL_told__44 rfl ?_
      refine r_aload_n 1 dL_told__46 rfl ?_
      refine r_getf (v := .int (nI ne)) 0 dL_told__47 fl_L_108 rfl rfl ?_
      refine r_icmp_ge (tgt := 76) dL_told__50 (by decide) (fun hc => absurd hc (nI_ge (by omega) (by omega))) (fun _ => ?_)
      refine r_seg (ws2 := ((a, .inr (13, [.ref v9, .int (0 : Int32), .int (0 : Int32), .int (nI (evT [] k).length)])) :: ((v9, yA g m9 f9) :: ((q1, .inr (10, [.int (nI ne), .int (nI nt), .ref aC, .ref aD, .ref aO, .ref aT, .int (0 : Int32), .int (0 : Int32)])) :: ((aD, zA g 10 (dbF 0)) :: (w0 ++ t)))))) [[(q1, .inr (10, [.int (nI ne), .int (nI nt), .ref aC, .ref aD, .ref aO, .ref aT, .int (0 : Int32), .int (0 : Int32)]))], [(aD, zA g 10 (dbF 0))], [(a, .inr (13, [.ref v9, .int (0 : Int32), .int (0 : Int32), .int (nI (evT [] k).length)]))], [(v9, yA g m9 f9)], w0, t] [2, 3, 0, 1, 4, 5] rfl rfl rfl ?_
      refine r_aload_n 4 dL_told__53 rfl ?_
      refine r_ldcS (i := 13) dL_told__54 rfl ?_
      obtain ⟨L81, eL82⟩ : ∃ L9 : List Int32, L9 = (evT [] k) ++ kT 13 := ⟨_, rfl⟩
      have bn80 : L81.length ≤ 52 := by rw [eL82]; exact lnA (L := (evT [] k)) (L2 := kT 13) (n := 45) (n2 := 7) hln (Nat.le_of_eq kl_13)
      refine r_room (x2 := (3 * m + 2019 + 2) + 1) (y2 := (12006 * m + 3312040 + 8004) + 4002) (rq rfl) (rq rfl) ?_
      refine k_V (x := (3 * m + 2019 + 2)) (y := (12006 * m + 3312040 + 8004)) (rest := []) 0 dL_told__56 kv_L_71 (cj_apK (i := 13) (by decide) eL82 h9 (Nat.le_trans bn80 (by decide))) rfl rfl rfl rfl (Nat.le_of_ble_eq_true rfl) (by decide) (by decide) ?_
      rintro ⟨bv76, bm77, bf78⟩ bh79
      try dsimp only at bh79
      show R g mL_told_ 14 (3 * m + 2019 + 2) (12006 * m + 3312040 + 8004) 59 [(4, .int (nI k)), (3, .ref q1), (0, .ref (gb g)), (1, .int (6 : Int32)), (2, .ref a)] [.ref a] ((a, .inr (13, [.ref bv76, .int (0 : Int32), .int (0 : Int32), .int (nI L81.length)])) :: ((bv76, yA g bm77 bf78) :: ((q1, .inr (10, [.int (nI ne), .int (nI nt), .ref aC, .ref aD, .ref aO, .ref aT, .int (0 : Int32), .int (0 : Int32)])) :: ((aD, zA g 10 (dbF 0)) :: (w0 ++ t))))) (Dq (fun (z : Nat × va_W) => some (.ref z.1)) (fun z => z.2 ++ t) (fun z => ToldP g a z))
      refine r_iload 0 dL_told__59 rfl ?_
      obtain ⟨L88, eL89⟩ : ∃ L9 : List Int32, L9 = L81 ++ dgL k := ⟨_, rfl⟩
      have bn87 : L88.length ≤ 53 := by rw [eL89]; exact lnA (L := L81) (L2 := dgL k) (n := 52) (n2 := 1) bn80 (dgL_t1 (v := k) (by omega))
      refine r_room (x2 := (3 * m + 2019 + 1) + 1) (y2 := (12006 * m + 3312040 + 4002) + 4002) (rq rfl) (rq rfl) ?_
      refine k_V (x := (3 * m + 2019 + 1)) (y := (12006 * m + 3312040 + 4002)) (rest := []) 0 dL_told__61 kv_L_75 (cj_apI (x9 := k) (by omega) eL89 bh79 (Nat.le_trans bn87 (by decide))) rfl rfl rfl rfl (Nat.le_of_ble_eq_true rfl) (by decide) (by decide) ?_
      rintro ⟨bv83, bm84, bf85⟩ bh86
      try dsimp only at bh86
      show R g mL_told_ 14 (3 * m + 2019 + 1) (12006 * m + 3312040 + 4002) 64 [(4, .int (nI k)), (3, .ref q1), (0, .ref (gb g)), (1, .int (6 : Int32)), (2, .ref a)] [.ref a] ((a, .inr (13, [.ref bv83, .int (0 : Int32), .int (0 : Int32), .int (nI L88.length)])) :: ((bv83, yA g bm84 bf85) :: ((q1, .inr (10, [.int (nI ne), .int (nI nt), .ref aC, .ref aD, .ref aO, .ref aT, .int (0 : Int32), .int (0 : Int32)])) :: ((aD, zA g 10 (dbF 0)) :: (w0 ++ t))))) (Dq (fun (z : Nat × va_W) => some (.ref z.1)) (fun z => z.2 ++ t) (fun z => ToldP g a z))
      refine r_ldcS (i := 14) dL_told__64 rfl ?_
      obtain ⟨L95, eL96⟩ : ∃ L9 : List Int32, L9 = L88 ++ kT 14 := ⟨_, rfl⟩
      have bn94 : L95.length ≤ 54 := by rw [eL96]; exact lnA (L := L88) (L2 := kT 14) (n := 53) (n2 := 1) bn87 (Nat.le_of_eq kl_14)
      refine r_room (x2 := (3 * m + 2019 + 0) + 1) (y2 := (12006 * m + 3312040 + 0) + 4002) (rq rfl) (rq rfl) ?_
      refine k_V (x := (3 * m + 2019 + 0)) (y := (12006 * m + 3312040 + 0)) (rest := []) 0 dL_told__66 kv_L_71 (cj_apK (i := 14) (by decide) eL96 bh86 (Nat.le_trans bn94 (by decide))) rfl rfl rfl rfl (Nat.le_of_ble_eq_true rfl) (by decide) (by decide) ?_
      rintro ⟨bv90, bm91, bf92⟩ bh93
      try dsimp only at bh93
      show R g mL_told_ 14 (3 * m + 2019 + 0) (12006 * m + 3312040 + 0) 69 [(4, .int (nI k)), (3, .ref q1), (0, .ref (gb g)), (1, .int (6 : Int32)), (2, .ref a)] [.ref a] ((a, .inr (13, [.ref bv90, .int (0 : Int32), .int (0 : Int32), .int (nI L95.length)])) :: ((bv90, yA g bm91 bf92) :: ((q1, .inr (10, [.int (nI ne), .int (nI nt), .ref aC, .ref aD, .ref aO, .ref aT, .int (0 : Int32), .int (0 : Int32)])) :: ((aD, zA g 10 (dbF 0)) :: (w0 ++ t))))) (Dq (fun (z : Nat × va_W) => some (.ref z.1)) (fun z => z.2 ++ t) (fun z => ToldP g a z))
      refine r_pop dL_told__69 rfl ?_
      refine r_iinc (v2 := (nI (k + 1))) 0 [(4, .int (nI (k + 1))), (3, .ref q1), (0, .ref (gb g)), (1, .int (6 : Int32)), (2, .ref a)] dL_told__70 rfl (nI_1 k) (by decide) rfl ?_
      refine r_goto (tgt := 44) dL_told__73 (by decide) ?_
      refine r_seg (ws2 := ((q1, .inr (10, [.int (nI ne), .int (nI nt), .ref aC, .ref aD, .ref aO, .ref aT, .int (0 : Int32), .int (0 : Int32)])) :: ((aD, zA g 10 (dbF 0)) :: ((a, .inr (13, [.ref bv90, .int (0 : Int32), .int (0 : Int32), .int (nI L95.length)])) :: ((bv90, yA g bm91 bf92) :: (w0 ++ t)))))) [[(a, .inr (13, [.ref bv90, .int (0 : Int32), .int (0 : Int32), .int (nI L95.length)]))], [(bv90, yA g bm91 bf92)], [(q1, .inr (10, [.int (nI ne), .int (nI nt), .ref aC, .ref aD, .ref aO, .ref aT, .int (0 : Int32), .int (0 : Int32)]))], [(aD, zA g 10 (dbF 0))], w0, t] [2, 3, 0, 1, 4, 5] rfl rfl rfl ?_
      have e9 : L95 = evT [] (k + 1) := by rw [eL96, eL89, eL82]; rfl
      rw [e9]
      rw [e9] at bh93
      exact ih (k + 1) (by omega) bv90 bm91 bf92 bh93
  refine r_room (x2 := 3 * ne + 2019) (y2 := 12006 * ne + 3312040) (by omega) (by omega) ?_
  exact LevT ne 0 (by omega) v 16 (fun _ => 0) BL.nil
