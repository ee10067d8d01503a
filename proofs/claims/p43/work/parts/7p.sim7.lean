set_option maxRecDepth 20000 in
set_option maxHeartbeats 4000000 in
theorem cl_takeBack {g : GG} {t : va_W} {s aC aD aO aT ne nt c : Nat} {ev cr : Int32} {ca : List Nat} (hC : (aC, qA g 4 ca.length (fun k => ca[k]?)) ∈ t) (hR : ∀ k, k < ca.length → ∃ z : vp_A, (ca.getD k 0, .inl (gC g 0, z)) ∈ t) (hl : ca.length ≤ 40) (hc : c < ca.length) : Ct g mX10_takeBack 2 42 1700 [.ref s, .int (nI c)] ((s, .inr (10, [.int (nI ne), .int (nI nt), .ref aC, .ref aD, .ref aO, .ref aT, .int ev, .int cr])) :: t) (Dq (fun (z : Nat) => none) (fun z => (s, .inr (10, [.int (nI ne), .int (nI nt), .ref z, .ref aD, .ref aO, .ref aT, .int ev, .int cr])) :: (z, qA g 4 (ca.eraseIdx c).length (fun k => (ca.eraseIdx c)[k]?)) :: t) (fun z => True)) := by
  refine Ct.ofR (by decide +kernel) rfl (Nat.le_of_ble_eq_true rfl) ?_
  show R g mX10_takeBack 2 42 1700 0 [(0, .ref s), (1, .int (nI c))] [] ((s, .inr (10, [.int (nI ne), .int (nI nt), .ref aC, .ref aD, .ref aO, .ref aT, .int ev, .int cr])) :: t) _
  refine r_iconst (v := (0 : Int32)) dX10_takeBack_0 (by decide) ?_
  refine r_newA (x := 41) (y := 1700) (N := 0) dX10_takeBack_1 kk_924 (by decide) (by decide) (by decide) (fun q1 => ?_)
  refine r_astore_n [(2, .ref q1), (0, .ref s), (1, .int (nI c))] dX10_takeBack_4 (by decide) rfl ?_
  refine r_iconst (v := (0 : Int32)) dX10_takeBack_5 (by decide) ?_
  refine r_top (w := .int (nI 0)) (rfl) ?_
  refine r_istore_n [(3, .int (nI 0)), (2, .ref q1), (0, .ref s), (1, .int (nI c))] dX10_takeBack_6 (by decide) rfl ?_
  refine r_seg (ws2 := ((s, .inr (10, [.int (nI ne), .int (nI nt), .ref aC, .ref aD, .ref aO, .ref aT, .int ev, .int cr])) :: ((q1, qA g 4 0 (fun _ => none)) :: t))) [[(q1, qA g 4 0 (fun _ => none))], [(s, .inr (10, [.int (nI ne), .int (nI nt), .ref aC, .ref aD, .ref aO, .ref aT, .int ev, .int cr]))], t] [1, 0, 2] rfl rfl rfl ?_
  refine r_room (x2 := ca.length) (y2 := 41 * ca.length) (by omega) (by omega) ?_
  have L : ∀ m k, m + k = ca.length → ∀ q, R g mX10_takeBack 2 m (41 * m) 7 [(3, .int (nI k)), (2, .ref q), (0, .ref s), (1, .int (nI c))] [] ((s, .inr (10, [.int (nI ne), .int (nI nt), .ref aC, .ref aD, .ref aO, .ref aT, .int ev, .int cr])) :: ((q, qA g 4 (erC ca c k).length (fun j => (erC ca c k)[j]?)) :: t)) (Dq (fun (z : Nat) => none) (fun z => (s, .inr (10, [.int (nI ne), .int (nI nt), .ref z, .ref aD, .ref aO, .ref aT, .int ev, .int cr])) :: (z, qA g 4 (ca.eraseIdx c).length (fun k => (ca.eraseIdx c)[k]?)) :: t) (fun z => True)) := by
    intro m
    induction m with
    | zero =>
      intro k hk q
      have ek : k = ca.length := by omega
      rw [ek]
      refine r_iload_n 0 dX10_takeBack_7 rfl ?_
      refine r_aload_n 2 dX10_takeBack_8 rfl ?_
      refine r_getf (v := .ref aC) 0 dX10_takeBack_9 fl_X10_9 rfl rfl ?_
      refine r_alenm (t := 4) (v := (nI ca.length)) dX10_takeBack_12 rfl (List.mem_cons_of_mem _ (List.mem_cons_of_mem _ hC)) (by rfl) ?_
      refine r_icmp_ge (tgt := 38) dX10_takeBack_13 (by decide) (fun _ => ?_) (fun hc => absurd (nI_le (Nat.le_refl _) (by omega)) hc)
      refine r_aload_n 2 dX10_takeBack_38 rfl ?_
      refine r_aload_n 1 dX10_takeBack_39 rfl ?_
      refine r_putf (ws2 := ((s, .inr (10, [.int (nI ne), .int (nI nt), .ref q, .ref aD, .ref aO, .ref aT, .int ev, .int cr])) :: ((q, qA g 4 (erC ca c ca.length).length (fun j => (erC ca c ca.length)[j]?)) :: t))) 0 dX10_takeBack_40 fl_X10_9 rfl (Nat.le_of_ble_eq_true rfl) rfl rfl rfl ?_
      refine r_vret dX10_takeBack_43 rfl ?_
      exact Dq.mk q rfl (by rw [erC_all]) trivial
    | succ m ih =>
      intro k hk q
      have hk2 : k < ca.length := by omega
      have hl2 := erC_len ca c k
      obtain ⟨zk, hzk⟩ := hR k hk2
      refine r_room (x2 := (m + 1)) (y2 := (41 * m + 41)) (by omega) (by omega) ?_
      refine r_iload_n 0 dX10_takeBack_7 rfl ?_
      refine r_aload_n 2 dX10_takeBack_8 rfl ?_
      refine r_getf (v := .ref aC) 0 dX10_takeBack_9 fl_X10_9 rfl rfl ?_
      refine r_alenm (t := 4) (v := (nI ca.length)) dX10_takeBack_12 rfl (List.mem_cons_of_mem _ (List.mem_cons_of_mem _ hC)) (by rfl) ?_
      refine r_icmp_ge (tgt := 38) dX10_takeBack_13 (by decide) (fun hc => absurd hc (nI_ge (by omega) (by omega))) (fun _ => ?_)
      refine r_iload_n 0 dX10_takeBack_16 rfl ?_
      refine r_iload_n 3 dX10_takeBack_17 rfl ?_
      refine r_icmp_eq (tgt := 32) dX10_takeBack_18 (by decide) (fun h1 => ?_) (fun h1 => ?_)
      · have e1 : k = c := (nI_eq (by omega) (by omega)).mp h1
        have e2 : erC ca c k = erC ca c (k + 1) := by rw [e1, erC_skip hc]
        rw [e2]
        refine r_iinc (v2 := (nI (k + 1))) 0 [(3, .int (nI (k + 1))), (2, .ref q), (0, .ref s), (1, .int (nI c))] dX10_takeBack_32 rfl (nI_1 k) (by decide) rfl ?_
        refine r_goto (tgt := 7) dX10_takeBack_35 (by decide) ?_
        refine r_ls [0, 1, 2, 3] (ls2 := [(3, .int (nI (k + 1))), (2, .ref q), (0, .ref s), (1, .int (nI c))]) rfl ?_
        refine r_room (x2 := m) (y2 := 41 * m) (by omega) (by omega) ?_
        exact ih (k + 1) (by omega) q
      · have e1 : ¬ k = c := fun e => h1 (congrArg nI e)
        have e2 := erC_more hk2 e1
        refine r_aload_n 1 dX10_takeBack_21 rfl ?_
        refine r_aload_n 2 dX10_takeBack_22 rfl ?_
        refine r_getf (v := .ref aC) 0 dX10_takeBack_23 fl_X10_9 rfl rfl ?_
        refine r_iload_n 0 dX10_takeBack_26 rfl ?_
        refine r_aaldm (t := 4) (n := ca.length) (f := (fun k => ca[k]?)) (v := .ref (ca.getD k 0)) dX10_takeBack_27 rfl rfl (List.mem_cons_of_mem _ (List.mem_cons_of_mem _ hC)) (ib_nI hk2 (by omega)) (by rw [nI_clamp (by omega), List.getD_eq_getElem?_getD, List.getElem?_eq_getElem hk2]; rfl) ?_
        have K := cl_with (g := g) (t := ((s, .inr (10, [.int (nI ne), .int (nI nt), .ref aC, .ref aD, .ref aO, .ref aT, .int ev, .int cr])) :: ((q, qA g 4 (erC ca c k).length (fun j => (erC ca c k)[j]?)) :: t))) (aC := q) (v := ca.getD k 0) (ca := erC ca c k) (z0 := zk) (List.mem_cons_of_mem _ List.mem_cons_self) (rows_of (t := t) (fun a h => erC_mem h) hR (fun p hp => List.mem_cons_of_mem _ (List.mem_cons_of_mem _ hp))) (List.mem_cons_of_mem _ (List.mem_cons_of_mem _ hzk)) (by omega)
        rw [← e2] at K
        refine r_room (x2 := (m + 0) + 1) (y2 := (41 * m + 0) + 41) (rq rfl) (rq rfl) ?_
        refine k_S (x := (m + 0)) (y := (41 * m + 0)) (rest := []) dX10_takeBack_28 ks_X10_42 (K) rfl rfl (Nat.le_of_ble_eq_true rfl) (by decide) (by decide) ?_
        rintro q2 -
        show R g mX10_takeBack 2 (m + 0) (41 * m + 0) 31 [(3, .int (nI k)), (2, .ref q), (0, .ref s), (1, .int (nI c))] [.ref q2] ((q2, qA g 4 (erC ca c (k + 1)).length (fun j => (erC ca c (k + 1))[j]?)) :: ((s, .inr (10, [.int (nI ne), .int (nI nt), .ref aC, .ref aD, .ref aO, .ref aT, .int ev, .int cr])) :: ((q, qA g 4 (erC ca c k).length (fun j => (erC ca c k)[j]?)) :: t))) _
        refine r_astore_n [(2, .ref q2), (3, .int (nI k)), (0, .ref s), (1, .int (nI c))] dX10_takeBack_31 (by decide) rfl ?_
        refine r_seg (ws2 := ((s, .inr (10, [.int (nI ne), .int (nI nt), .ref aC, .ref aD, .ref aO, .ref aT, .int ev, .int cr])) :: ((q2, qA g 4 (erC ca c (k + 1)).length (fun j => (erC ca c (k + 1))[j]?)) :: t))) [[(q2, qA g 4 (erC ca c (k + 1)).length (fun j => (erC ca c (k + 1))[j]?))], [(s, .inr (10, [.int (nI ne), .int (nI nt), .ref aC, .ref aD, .ref aO, .ref aT, .int ev, .int cr]))], [(q, qA g 4 (erC ca c k).length (fun j => (erC ca c k)[j]?))], t] [1, 0, 3] rfl rfl rfl ?_
        refine r_iinc (v2 := (nI (k + 1))) 1 [(3, .int (nI (k + 1))), (2, .ref q2), (0, .ref s), (1, .int (nI c))] dX10_takeBack_32 rfl (nI_1 k) (by decide) rfl ?_
        refine r_goto (tgt := 7) dX10_takeBack_35 (by decide) ?_
        refine r_ls [0, 1, 2, 3] (ls2 := [(3, .int (nI (k + 1))), (2, .ref q2), (0, .ref s), (1, .int (nI c))]) rfl ?_
        exact ih (k + 1) (by omega) q2
  have K := L ca.length 0 (by omega) q1
  rw [erC_0] at K
  exact K
set_option maxRecDepth 20000 in
set_option maxHeartbeats 4000000 in
theorem cl_claim {g : GG} {t : va_W} {x : Int32} {ne nt : Nat} (h0 : 0 < ne) (hne : ne ≤ 8) (h1 : 0 < nt) (hnt : nt ≤ 10) : Ct g mL_claim 2 1 5 [.int x, .int (nI ne), .int (nI nt)] t (Dq (fun (z : Nat × (Nat → Int32)) => some (.ref z.1)) (fun z => (z.1, iA g 5 z.2) :: t) (fun z => CV1 ne nt z.2 ∧ (¬ z.2 0 = 0 → ¬ z.2 2 = z.2 3 ∧ z.2 4 = 0))) := by
  refine Ct.ofR (by decide +kernel) rfl (Nat.le_of_ble_eq_true rfl) ?_
  show R g mL_claim 2 1 5 0 [(0, .int x), (1, .int (nI ne)), (2, .int (nI nt))] [] t _
  have J : ∀ v : Nat, v ≤ 2 → (¬ v = 0 → 1 < ne) → R g mL_claim 2 1 5 39 [(0, .int x), (1, .int (nI ne)), (2, .int (nI nt))] [.int (nI v)] t (Dq (fun (z : Nat × (Nat → Int32)) => some (.ref z.1)) (fun z => (z.1, iA g 5 z.2) :: t) (fun z => CV1 ne nt z.2 ∧ (¬ z.2 0 = 0 → ¬ z.2 2 = z.2 3 ∧ z.2 4 = 0))) := by
    intro v hv hv1
    refine r_istore_n [(3, .int (nI v)), (0, .int x), (1, .int (nI ne)), (2, .int (nI nt))] dL_claim_39 (by decide) rfl ?_
    refine r_iload_n 1 dL_claim_40 rfl ?_
    refine r_iconst (v := (3 : Int32)) dL_claim_41 (by decide) ?_
    refine r_ishr dL_claim_42 ?_
    refine r_iload_n 3 dL_claim_43 rfl ?_
    refine k_S (x := 1) (y := 5) (rest := []) dL_claim_44 ks_L_35 ((cl_below (v := (x >>> ((3 : Int32) &&& 31))) (n := nt) (h1) (by omega)).dq) rfl rfl (Nat.le_of_ble_eq_true rfl) (by decide) (by decide) ?_
    rintro ⟨⟩ -
    show R g mL_claim 2 1 5 47 [(3, .int (nI v)), (0, .int x), (1, .int (nI ne)), (2, .int (nI nt))] [.int (nI (bw (x >>> ((3 : Int32) &&& 31)) nt))] t _
    have ht := bw_lt (x >>> ((3 : Int32) &&& 31)) (n := nt) (h1)
    generalize bw (x >>> ((3 : Int32) &&& 31)) nt = tt at ht ⊢
    show R g mL_claim 2 1 5 47 [(3, .int (nI v)), (0, .int x), (1, .int (nI ne)), (2, .int (nI nt))] [.int (nI tt)] t _
    refine r_istore [(4, .int (nI tt)), (3, .int (nI v)), (0, .int x), (1, .int (nI ne)), (2, .int (nI nt))] dL_claim_47 (by decide) rfl ?_
    refine r_iload_n 2 dL_claim_49 rfl ?_
    refine r_iconst (v := (5 : Int32)) dL_claim_50 (by decide) ?_
    refine r_ishr dL_claim_51 ?_
    refine r_iload_n 3 dL_claim_52 rfl ?_
    refine k_S (x := 1) (y := 5) (rest := []) dL_claim_53 ks_L_35 ((cl_below (v := (x >>> ((5 : Int32) &&& 31))) (n := ne) (h0) (by omega)).dq) rfl rfl (Nat.le_of_ble_eq_true rfl) (by decide) (by decide) ?_
    rintro ⟨⟩ -
    show R g mL_claim 2 1 5 56 [(4, .int (nI tt)), (3, .int (nI v)), (0, .int x), (1, .int (nI ne)), (2, .int (nI nt))] [.int (nI (bw (x >>> ((5 : Int32) &&& 31)) ne))] t _
    have he := bw_lt (x >>> ((5 : Int32) &&& 31)) (n := ne) (h0)
    generalize bw (x >>> ((5 : Int32) &&& 31)) ne = ee at he ⊢
    show R g mL_claim 2 1 5 56 [(4, .int (nI tt)), (3, .int (nI v)), (0, .int x), (1, .int (nI ne)), (2, .int (nI nt))] [.int (nI ee)] t _
    refine r_istore [(5, .int (nI ee)), (4, .int (nI tt)), (3, .int (nI v)), (0, .int x), (1, .int (nI ne)), (2, .int (nI nt))] dL_claim_56 (by decide) rfl ?_
    refine r_iload_n 2 dL_claim_58 rfl ?_
    refine r_if_ne (tgt := 146) dL_claim_59 (by decide) (fun h2 => ?_) (fun h2 => ?_)
    · have hv2 : ¬ v = 0 := fun e => h2 (by rw [e]; rfl)
      obtain ⟨n1, rfl⟩ : ∃ n1, ne = n1 + 1 := ⟨ne - 1, by omega⟩
      have hn1 : 0 < n1 := by have := hv1 hv2; omega
      refine r_iconst (v := (5 : Int32)) dL_claim_146 (by decide) ?_
      refine r_newIv (x := 0) (y := 0) (N := 5) dL_claim_147 kk_105 (by decide) (by decide) (by decide) (fun q2 => ?_)
      refine r_dup dL_claim_149 rfl ?_
      refine r_iconst (v := (0 : Int32)) dL_claim_150 (by decide) ?_
      refine r_iload_n 2 dL_claim_151 rfl ?_
      refine r_iast (ws2 := ((q2, iA g 5 (upd (fun _ => 0) 0 (nI v))) :: t)) 0 dL_claim_152 rfl (by decide) (by rfl) ?_
      refine r_dup dL_claim_153 rfl ?_
      refine r_iconst (v := (1 : Int32)) dL_claim_154 (by decide) ?_
      refine r_iload 1 dL_claim_155 rfl ?_
      refine r_iast (ws2 := ((q2, iA g 5 (upd (upd (fun _ => 0) 0 (nI v)) 1 (nI tt))) :: t)) 0 dL_claim_157 rfl (by decide) (by rfl) ?_
      refine r_dup dL_claim_158 rfl ?_
      refine r_iconst (v := (2 : Int32)) dL_claim_159 (by decide) ?_
      refine r_iload 0 dL_claim_160 rfl ?_
      refine r_iast (ws2 := ((q2, iA g 5 (upd (upd (upd (fun _ => 0) 0 (nI v)) 1 (nI tt)) 2 (nI ee))) :: t)) 0 dL_claim_162 rfl (by decide) (by rfl) ?_
      refine r_dup dL_claim_163 rfl ?_
      refine r_iconst (v := (3 : Int32)) dL_claim_164 (by decide) ?_
      refine r_iload 0 dL_claim_165 rfl ?_
      refine r_iconst (v := (1 : Int32)) dL_claim_167 (by decide) ?_
      refine r_iadd dL_claim_168 ?_
      refine r_top (w := .int (nI (ee + 1))) (by rw [nI_1]) ?_
      refine r_iload_n 3 dL_claim_169 rfl ?_
      refine r_bipush (v := (8 : Int32)) dL_claim_170 (by decide) ?_
      refine r_ishr dL_claim_172 ?_
      refine r_iload_n 4 dL_claim_173 rfl ?_
      refine r_iconst (v := (1 : Int32)) dL_claim_174 (by decide) ?_
      refine r_isub dL_claim_175 ?_
      refine r_top (w := .int (nI n1)) (by rw [nI_pred]) ?_
      refine k_S (x := 0) (y := 0) (rest := [.int (nI (ee + 1)), .int (3 : Int32), .ref q2, .ref q2]) dL_claim_176 ks_L_35 ((cl_below (v := (x >>> ((8 : Int32) &&& 31))) (n := n1) (hn1) (by omega)).dq) rfl rfl (Nat.le_of_ble_eq_true rfl) (by decide) (by decide) ?_
      rintro ⟨⟩ -
      show R g mL_claim 2 0 0 179 [(5, .int (nI ee)), (4, .int (nI tt)), (3, .int (nI v)), (0, .int x), (1, .int (nI (n1 + 1))), (2, .int (nI nt))] [.int (nI (bw (x >>> ((8 : Int32) &&& 31)) n1)), .int (nI (ee + 1)), .int (3 : Int32), .ref q2, .ref q2] ((q2, iA g 5 (upd (upd (upd (fun _ => 0) 0 (nI v)) 1 (nI tt)) 2 (nI ee))) :: t) _
      have hb := bw_lt (x >>> ((8 : Int32) &&& 31)) (n := n1) (hn1)
      generalize bw (x >>> ((8 : Int32) &&& 31)) n1 = bb at hb ⊢
      show R g mL_claim 2 0 0 179 [(5, .int (nI ee)), (4, .int (nI tt)), (3, .int (nI v)), (0, .int x), (1, .int (nI (n1 + 1))), (2, .int (nI nt))] [.int (nI bb), .int (nI (ee + 1)), .int (3 : Int32), .ref q2, .ref q2] ((q2, iA g 5 (upd (upd (upd (fun _ => 0) 0 (nI v)) 1 (nI tt)) 2 (nI ee))) :: t) _
      refine r_iadd dL_claim_179 ?_
      refine r_top (w := .int (nI (ee + 1 + bb))) (by rw [nI_add]) ?_
      refine r_iload_n 4 dL_claim_180 rfl ?_
      refine r_irem dL_claim_181 (nI_ne0 (by omega) (by omega)) ?_
      refine r_top (w := .int (nI ((ee + 1 + bb) % (n1 + 1)))) (by rw [pk_rem (by omega) (by omega) (by omega)]) ?_
      refine r_iast (ws2 := ((q2, iA g 5 (upd (upd (upd (upd (fun _ => 0) 0 (nI v)) 1 (nI tt)) 2 (nI ee)) 3 (nI ((ee + 1 + bb) % (n1 + 1))))) :: t)) 0 dL_claim_182 rfl (by decide) (by rfl) ?_
      refine r_dup dL_claim_183 rfl ?_
      refine r_iconst (v := (4 : Int32)) dL_claim_184 (by decide) ?_
      refine r_iconst (v := (0 : Int32)) dL_claim_185 (by decide) ?_
      refine r_iast (ws2 := ((q2, iA g 5 (upd (upd (upd (upd (upd (fun _ => 0) 0 (nI v)) 1 (nI tt)) 2 (nI ee)) 3 (nI ((ee + 1 + bb) % (n1 + 1)))) 4 0)) :: t)) 0 dL_claim_186 rfl (by decide) (by rfl) ?_
      have hm : (ee + 1 + bb) % (n1 + 1) < n1 + 1 := Nat.mod_lt _ (by omega)
      have hd : ¬ ee = (ee + 1 + bb) % (n1 + 1) := by
        by_cases c : ee + 1 + bb < n1 + 1
        · rw [Nat.mod_eq_of_lt c]; omega
        · rw [Nat.mod_eq_sub_mod (by omega), Nat.mod_eq_of_lt (by omega)]; omega
      refine r_aret dL_claim_187 rfl rfl (Or.inr ⟨_, rfl⟩) ?_
      refine Dq.mk (q2, (upd (upd (upd (upd (upd (fun _ => 0) 0 (nI v)) 1 (nI tt)) 2 (nI ee)) 3 (nI ((ee + 1 + bb) % (n1 + 1)))) 4 0)) rfl rfl ⟨⟨?_, ⟨tt, ht, rfl⟩, ⟨ee, he, rfl⟩, fun _ => ⟨_, hm, rfl⟩, fun h => ?_⟩, fun _ => ⟨fun h => hd ((nI_eq (by omega) (by omega)).mp h), rfl⟩⟩
      · show k3 (nI v)
        have hv3 : v = 1 ∨ v = 2 := by omega
        rcases hv3 with rfl | rfl
        · exact Or.inr (Or.inl rfl)
        · exact Or.inr (Or.inr rfl)
      · exact absurd (h : nI v = 0) h2
    · refine r_iload_n 3 dL_claim_62 rfl ?_
      refine r_bipush (v := (7 : Int32)) dL_claim_63 (by decide) ?_
      refine r_ishr dL_claim_65 ?_
      have J83 : ∀ n : Nat, 0 < n → n ≤ 100 → R g mL_claim 2 1 5 83 [(5, .int (nI ee)), (4, .int (nI tt)), (3, .int (nI v)), (0, .int x), (1, .int (nI ne)), (2, .int (nI nt))] [.int (nI n), .int (x >>> ((7 : Int32) &&& 31))] t (Dq (fun (z : Nat × (Nat → Int32)) => some (.ref z.1)) (fun z => (z.1, iA g 5 z.2) :: t) (fun z => CV1 ne nt z.2 ∧ (¬ z.2 0 = 0 → ¬ z.2 2 = z.2 3 ∧ z.2 4 = 0))) := by
        intro n hn0 hn1
        refine k_S (x := 1) (y := 5) (rest := []) dL_claim_83 ks_L_35 ((cl_below (v := (x >>> ((7 : Int32) &&& 31))) (n := n) (hn0) (by omega)).dq) rfl rfl (Nat.le_of_ble_eq_true rfl) (by decide) (by decide) ?_
        rintro ⟨⟩ -
        show R g mL_claim 2 1 5 86 [(5, .int (nI ee)), (4, .int (nI tt)), (3, .int (nI v)), (0, .int x), (1, .int (nI ne)), (2, .int (nI nt))] [.int (nI (bw (x >>> ((7 : Int32) &&& 31)) n))] t _
        have hh1 := bw_lt (x >>> ((7 : Int32) &&& 31)) (n := n) (hn0)
        generalize bw (x >>> ((7 : Int32) &&& 31)) n = hh at hh1 ⊢
        show R g mL_claim 2 1 5 86 [(5, .int (nI ee)), (4, .int (nI tt)), (3, .int (nI v)), (0, .int x), (1, .int (nI ne)), (2, .int (nI nt))] [.int (nI hh)] t _
        refine r_istore [(6, .int (nI hh)), (5, .int (nI ee)), (4, .int (nI tt)), (3, .int (nI v)), (0, .int x), (1, .int (nI ne)), (2, .int (nI nt))] dL_claim_86 (by decide) rfl ?_
        refine r_iconst (v := (5 : Int32)) dL_claim_88 (by decide) ?_
        refine r_newIv (x := 0) (y := 0) (N := 5) dL_claim_89 kk_105 (by decide) (by decide) (by decide) (fun q3 => ?_)
        refine r_dup dL_claim_91 rfl ?_
        refine r_iconst (v := (0 : Int32)) dL_claim_92 (by decide) ?_
        refine r_iconst (v := (0 : Int32)) dL_claim_93 (by decide) ?_
        refine r_iast (ws2 := ((q3, iA g 5 (upd (fun _ => 0) 0 (nI 0))) :: t)) 0 dL_claim_94 rfl (by decide) (by rfl) ?_
        refine r_dup dL_claim_95 rfl ?_
        refine r_iconst (v := (1 : Int32)) dL_claim_96 (by decide) ?_
        refine r_iload 2 dL_claim_97 rfl ?_
        refine r_iast (ws2 := ((q3, iA g 5 (upd (upd (fun _ => 0) 0 (nI 0)) 1 (nI tt))) :: t)) 0 dL_claim_99 rfl (by decide) (by rfl) ?_
        refine r_dup dL_claim_100 rfl ?_
        refine r_iconst (v := (2 : Int32)) dL_claim_101 (by decide) ?_
        refine r_iload 1 dL_claim_102 rfl ?_
        refine r_iast (ws2 := ((q3, iA g 5 (upd (upd (upd (fun _ => 0) 0 (nI 0)) 1 (nI tt)) 2 (nI ee))) :: t)) 0 dL_claim_104 rfl (by decide) (by rfl) ?_
        refine r_dup dL_claim_105 rfl ?_
        refine r_iconst (v := (3 : Int32)) dL_claim_106 (by decide) ?_
        refine r_iload 0 dL_claim_107 rfl ?_
        refine r_iast (ws2 := ((q3, iA g 5 (upd (upd (upd (upd (fun _ => 0) 0 (nI 0)) 1 (nI tt)) 2 (nI ee)) 3 (nI hh))) :: t)) 0 dL_claim_109 rfl (by decide) (by rfl) ?_
        refine r_dup dL_claim_110 rfl ?_
        refine r_iconst (v := (4 : Int32)) dL_claim_111 (by decide) ?_
        refine r_bipush (v := (99 : Int32)) dL_claim_112 (by decide) ?_
        refine r_iload 0 dL_claim_114 rfl ?_
        refine r_iload_n 4 dL_claim_116 rfl ?_
        refine r_bipush (v := (6 : Int32)) dL_claim_117 (by decide) ?_
        refine r_ishr dL_claim_119 ?_
        have J137 : ∀ n2 : Nat, 0 < n2 → n2 ≤ 60 → R g mL_claim 2 0 0 137 [(6, .int (nI hh)), (5, .int (nI ee)), (4, .int (nI tt)), (3, .int (nI v)), (0, .int x), (1, .int (nI ne)), (2, .int (nI nt))] [.int (nI n2), .int (x >>> ((6 : Int32) &&& 31)), .int (nI hh), .int (99 : Int32), .int (4 : Int32), .ref q3, .ref q3] ((q3, iA g 5 (upd (upd (upd (upd (fun _ => 0) 0 (nI 0)) 1 (nI tt)) 2 (nI ee)) 3 (nI hh))) :: t) (Dq (fun (z : Nat × (Nat → Int32)) => some (.ref z.1)) (fun z => (z.1, iA g 5 z.2) :: t) (fun z => CV1 ne nt z.2 ∧ (¬ z.2 0 = 0 → ¬ z.2 2 = z.2 3 ∧ z.2 4 = 0))) := by
          intro n2 hn2 hn3
          refine k_S (x := 0) (y := 0) (rest := [.int (nI hh), .int (99 : Int32), .int (4 : Int32), .ref q3, .ref q3]) dL_claim_137 ks_L_35 ((cl_below (v := (x >>> ((6 : Int32) &&& 31))) (n := n2) (hn2) (by omega)).dq) rfl rfl (Nat.le_of_ble_eq_true rfl) (by decide) (by decide) ?_
          rintro ⟨⟩ -
          show R g mL_claim 2 0 0 140 [(6, .int (nI hh)), (5, .int (nI ee)), (4, .int (nI tt)), (3, .int (nI v)), (0, .int x), (1, .int (nI ne)), (2, .int (nI nt))] [.int (nI (bw (x >>> ((6 : Int32) &&& 31)) n2)), .int (nI hh), .int (99 : Int32), .int (4 : Int32), .ref q3, .ref q3] ((q3, iA g 5 (upd (upd (upd (upd (fun _ => 0) 0 (nI 0)) 1 (nI tt)) 2 (nI ee)) 3 (nI hh))) :: t) _
          have hb := bw_lt (x >>> ((6 : Int32) &&& 31)) (n := n2) (hn2)
          generalize bw (x >>> ((6 : Int32) &&& 31)) n2 = bb at hb ⊢
          show R g mL_claim 2 0 0 140 [(6, .int (nI hh)), (5, .int (nI ee)), (4, .int (nI tt)), (3, .int (nI v)), (0, .int x), (1, .int (nI ne)), (2, .int (nI nt))] [.int (nI bb), .int (nI hh), .int (99 : Int32), .int (4 : Int32), .ref q3, .ref q3] ((q3, iA g 5 (upd (upd (upd (upd (fun _ => 0) 0 (nI 0)) 1 (nI tt)) 2 (nI ee)) 3 (nI hh))) :: t) _
          refine r_iadd dL_claim_140 ?_
          refine r_top (w := .int (nI (hh + bb))) (by rw [nI_add]) ?_
          refine c_mmin (rest := [.int (4 : Int32), .ref q3, .ref q3]) dL_claim_141 ks_L_96 (Nat.le_of_ble_eq_true rfl) (by decide) ?_
          refine r_top (w := .int (nI (min 99 (hh + bb)))) (by rw [show (99 : Int32) = nI 99 from rfl, mn_nI (by decide) (by omega)]) ?_
          refine r_iast (ws2 := ((q3, iA g 5 (upd (upd (upd (upd (upd (fun _ => 0) 0 (nI 0)) 1 (nI tt)) 2 (nI ee)) 3 (nI hh)) 4 (nI (min 99 (hh + bb))))) :: t)) 0 dL_claim_144 rfl (by decide) (by rfl) ?_
          refine r_aret dL_claim_145 rfl rfl (Or.inr ⟨_, rfl⟩) ?_
          exact Dq.mk (q3, (upd (upd (upd (upd (upd (fun _ => 0) 0 (nI 0)) 1 (nI tt)) 2 (nI ee)) 3 (nI hh)) 4 (nI (min 99 (hh + bb))))) rfl rfl ⟨⟨Or.inl rfl, ⟨tt, ht, rfl⟩, ⟨ee, he, rfl⟩, fun h => absurd rfl h, fun _ => ⟨hh, min 99 (hh + bb), by omega, by omega, rfl, rfl⟩⟩, fun h => absurd rfl h⟩
        refine r_iload_n 4 dL_claim_120 rfl ?_
        refine r_bipush (v := (8 : Int32)) dL_claim_121 (by decide) ?_
        refine r_ishr dL_claim_123 ?_
        refine r_iconst (v := (4 : Int32)) dL_claim_124 (by decide) ?_
        refine r_top (w := .int (nI 4)) (rfl) ?_
        refine k_S (x := 0) (y := 0) (rest := [.int (x >>> ((6 : Int32) &&& 31)), .int (nI hh), .int (99 : Int32), .int (4 : Int32), .ref q3, .ref q3]) dL_claim_125 ks_L_35 ((cl_below (v := (x >>> ((8 : Int32) &&& 31))) (n := 4) (by decide) (by decide)).dq) rfl rfl (Nat.le_of_ble_eq_true rfl) (by decide) (by decide) ?_
        rintro ⟨⟩ -
        show R g mL_claim 2 0 0 128 [(6, .int (nI hh)), (5, .int (nI ee)), (4, .int (nI tt)), (3, .int (nI v)), (0, .int x), (1, .int (nI ne)), (2, .int (nI nt))] [.int (nI (bw (x >>> ((8 : Int32) &&& 31)) 4)), .int (x >>> ((6 : Int32) &&& 31)), .int (nI hh), .int (99 : Int32), .int (4 : Int32), .ref q3, .ref q3] ((q3, iA g 5 (upd (upd (upd (upd (fun _ => 0) 0 (nI 0)) 1 (nI tt)) 2 (nI ee)) 3 (nI hh))) :: t) _
        have hb4 := bw_lt (x >>> ((8 : Int32) &&& 31)) (n := 4) (by decide)
        generalize bw (x >>> ((8 : Int32) &&& 31)) 4 = b4 at hb4 ⊢
        show R g mL_claim 2 0 0 128 [(6, .int (nI hh)), (5, .int (nI ee)), (4, .int (nI tt)), (3, .int (nI v)), (0, .int x), (1, .int (nI ne)), (2, .int (nI nt))] [.int (nI b4), .int (x >>> ((6 : Int32) &&& 31)), .int (nI hh), .int (99 : Int32), .int (4 : Int32), .ref q3, .ref q3] ((q3, iA g 5 (upd (upd (upd (upd (fun _ => 0) 0 (nI 0)) 1 (nI tt)) 2 (nI ee)) 3 (nI hh))) :: t) _
        refine r_if_ne (tgt := 136) dL_claim_128 (by decide) (fun h4 => ?_) (fun h4 => ?_)
        · refine r_iconst (v := (5 : Int32)) dL_claim_136 (by decide) ?_
          refine r_top (w := .int (nI 5)) (rfl) ?_
          exact J137 5 (by decide) (by decide)
        · refine r_bipush (v := (60 : Int32)) dL_claim_131 (by decide) ?_
          refine r_goto (tgt := 137) dL_claim_133 (by decide) ?_
          refine r_top (w := .int (nI 60)) (rfl) ?_
          exact J137 60 (by decide) (by decide)
      refine r_iload_n 3 dL_claim_66 rfl ?_
      refine r_iconst (v := (4 : Int32)) dL_claim_67 (by decide) ?_
      refine r_ishr dL_claim_68 ?_
      refine r_iconst (v := (3 : Int32)) dL_claim_69 (by decide) ?_
      refine r_top (w := .int (nI 3)) (rfl) ?_
      refine k_S (x := 1) (y := 5) (rest := [.int (x >>> ((7 : Int32) &&& 31))]) dL_claim_70 ks_L_35 ((cl_below (v := (x >>> ((4 : Int32) &&& 31))) (n := 3) (by decide) (by decide)).dq) rfl rfl (Nat.le_of_ble_eq_true rfl) (by decide) (by decide) ?_
      rintro ⟨⟩ -
      show R g mL_claim 2 1 5 73 [(5, .int (nI ee)), (4, .int (nI tt)), (3, .int (nI v)), (0, .int x), (1, .int (nI ne)), (2, .int (nI nt))] [.int (nI (bw (x >>> ((4 : Int32) &&& 31)) 3)), .int (x >>> ((7 : Int32) &&& 31))] t _
      have hb3 := bw_lt (x >>> ((4 : Int32) &&& 31)) (n := 3) (by decide)
      generalize bw (x >>> ((4 : Int32) &&& 31)) 3 = b3 at hb3 ⊢
      show R g mL_claim 2 1 5 73 [(5, .int (nI ee)), (4, .int (nI tt)), (3, .int (nI v)), (0, .int x), (1, .int (nI ne)), (2, .int (nI nt))] [.int (nI b3), .int (x >>> ((7 : Int32) &&& 31))] t _
      refine r_if_ne (tgt := 81) dL_claim_73 (by decide) (fun h3 => ?_) (fun h3 => ?_)
      · refine r_bipush (v := (12 : Int32)) dL_claim_81 (by decide) ?_
        refine r_top (w := .int (nI 12)) (rfl) ?_
        exact J83 12 (by decide) (by decide)
      · refine r_bipush (v := (100 : Int32)) dL_claim_76 (by decide) ?_
        refine r_goto (tgt := 83) dL_claim_78 (by decide) ?_
        refine r_top (w := .int (nI 100)) (rfl) ?_
        exact J83 100 (by decide) (by decide)
  refine r_iload_n 1 dL_claim_0 rfl ?_
  refine r_iconst (v := (1 : Int32)) dL_claim_1 (by decide) ?_
  refine r_icmp_ne (tgt := 9) dL_claim_2 (by decide) (fun c0 => ?_) (fun c0 => ?_)
  · have hne1 : 1 < ne := by
      have : ¬ ne = 1 := fun e => c0 (by rw [e]; rfl)
      omega
    refine r_iload_n 0 dL_claim_9 rfl ?_
    refine r_bipush (v := (7 : Int32)) dL_claim_10 (by decide) ?_
    refine r_top (w := .int (nI 7)) (rfl) ?_
    refine k_S (x := 1) (y := 5) (rest := []) dL_claim_12 ks_L_35 ((cl_below (v := x) (n := 7) (by decide) (by decide)).dq) rfl rfl (Nat.le_of_ble_eq_true rfl) (by decide) (by decide) ?_
    rintro ⟨⟩ -
    show R g mL_claim 2 1 5 15 [(0, .int x), (1, .int (nI ne)), (2, .int (nI nt))] [.int (nI (bw x 7))] t _
    have hb7 := bw_lt x (n := 7) (by decide)
    generalize bw x 7 = b7 at hb7 ⊢
    show R g mL_claim 2 1 5 15 [(0, .int x), (1, .int (nI ne)), (2, .int (nI nt))] [.int (nI b7)] t _
    refine r_iconst (v := (3 : Int32)) dL_claim_15 (by decide) ?_
    refine r_icmp_ge (tgt := 23) dL_claim_16 (by decide) (fun h5 => ?_) (fun h5 => ?_)
    · refine r_iload_n 0 dL_claim_23 rfl ?_
      refine r_bipush (v := (7 : Int32)) dL_claim_24 (by decide) ?_
      refine r_top (w := .int (nI 7)) (rfl) ?_
      refine k_S (x := 1) (y := 5) (rest := []) dL_claim_26 ks_L_35 ((cl_below (v := x) (n := 7) (by decide) (by decide)).dq) rfl rfl (Nat.le_of_ble_eq_true rfl) (by decide) (by decide) ?_
      rintro ⟨⟩ -
      show R g mL_claim 2 1 5 29 [(0, .int x), (1, .int (nI ne)), (2, .int (nI nt))] [.int (nI (bw x 7))] t _
      have hb8 := bw_lt x (n := 7) (by decide)
      generalize bw x 7 = b8 at hb8 ⊢
      show R g mL_claim 2 1 5 29 [(0, .int x), (1, .int (nI ne)), (2, .int (nI nt))] [.int (nI b8)] t _
      refine r_bipush (v := (6 : Int32)) dL_claim_29 (by decide) ?_
      refine r_icmp_ge (tgt := 38) dL_claim_31 (by decide) (fun h6 => ?_) (fun h6 => ?_)
      · refine r_iconst (v := (2 : Int32)) dL_claim_38 (by decide) ?_
        refine r_top (w := .int (nI 2)) (rfl) ?_
        exact J 2 (by decide) (by intro _; exact hne1)
      · refine r_iconst (v := (1 : Int32)) dL_claim_34 (by decide) ?_
        refine r_goto (tgt := 39) dL_claim_35 (by decide) ?_
        refine r_top (w := .int (nI 1)) (rfl) ?_
        exact J 1 (by decide) (by intro _; exact hne1)
    · refine r_iconst (v := (0 : Int32)) dL_claim_19 (by decide) ?_
      refine r_goto (tgt := 39) dL_claim_20 (by decide) ?_
      refine r_top (w := .int (nI 0)) (rfl) ?_
      exact J 0 (by decide) (by exact fun h => absurd rfl h)
  · refine r_iconst (v := (0 : Int32)) dL_claim_5 (by decide) ?_
    refine r_goto (tgt := 39) dL_claim_6 (by decide) ?_
    refine r_top (w := .int (nI 0)) (rfl) ?_
    exact J 0 (by decide) (by exact fun h => absurd rfl h)
