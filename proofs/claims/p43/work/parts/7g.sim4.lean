set_option maxRecDepth 20000 in
set_option maxHeartbeats 4000000 in
theorem cl_order {g : GG} {t : va_W} {s aC aD aO aT ne nt : Nat} {ev cr : Int32} {ca : List Nat} {cl : List (Nat → Int32)} {d : Nat} {tr : Nat} (hS : SimM g t s aC aD aO aT ne nt ev cr ca cl d) (hV : CV ne nt ca cl) (hn : nt ≤ 6) (hne : ne ≤ 8) (htr : TrS nt d (dcd cl d nt nt 0 (0, 0, 99)).1 tr) : Ct g mX10_order 9 22 220 [.ref s] t (Dq (fun (z : Option Nat) => some (match z with | none => Value.null | some q => .ref q)) (fun z => match z with | none => t | some q => (q, iA g ne (mkF (match ogS cl ne tr ne with | none => fun _ => 0 | some q => q.2) ne)) :: t) (fun z => (z = none ↔ ogS cl ne tr ne = none))) := by
  refine Ct.ofR (by decide +kernel) rfl (Nat.le_of_ble_eq_true rfl) ?_
  show R g mX10_order 9 22 220 0 [(0, .ref s)] [] t _
  obtain ⟨hlen, h40, hV1⟩ := id hV
  refine r_aload_n 0 dX10_order_0 rfl ?_
  refine k_Vm (x := 2) (y := 20) (rest := []) dX10_order_1 kv_X10_64 (cl_liars hS hV hn) rfl rfl hS.1 rfl (Nat.le_of_ble_eq_true rfl) (by decide) (by decide) ?_
  rintro ⟨lb, l0, l1, l2⟩ -
  show R g mX10_order 9 2 20 4 [(0, .ref s)] [.ref lb] ((lb, qA g 4 3 (bestF l0 l1 l2)) :: ((l0, iA g nt (dbF (dcd cl d nt nt 0 (0, 0, 99)).1)) :: ((l1, iA g 1 (o1 (nI (dcd cl d nt nt 0 (0, 0, 99)).2.1))) :: ((l2, iA g 1 (o1 (nI (dcd cl d nt nt 0 (0, 0, 99)).2.2))) :: t)))) _
  refine r_iconst (v := (0 : Int32)) dX10_order_4 (by decide) ?_
  refine r_aaldm (t := 4) (n := 3) (f := (bestF l0 l1 l2)) (v := .ref l0) dX10_order_5 rfl rfl List.mem_cons_self (by decide) (by rw [cl0]; rfl) ?_
  refine r_astore_n [(1, .ref l0), (0, .ref s)] dX10_order_6 (by decide) rfl ?_
  refine r_aload_n 1 dX10_order_7 rfl ?_
  refine r_getm (v := .int (nI ne)) (ci := 10) (fs := [.int (nI ne), .int (nI nt), .ref aC, .ref aD, .ref aO, .ref aT, .int ev, .int cr]) dX10_order_8 fl_X10_29 (List.mem_cons_of_mem _ (List.mem_cons_of_mem _ (List.mem_cons_of_mem _ (List.mem_cons_of_mem _ hS.1)))) rfl ?_
  refine r_room (x2 := 1 + 1) (y2 := (8 + (8 - ne)) + ne) (by omega) (by omega) ?_
  refine r_newIv (x := 1) (y := (8 + (8 - ne))) (N := ne) dX10_order_11 kk_105 (nI_pos (by omega)) (nI_clamp (by omega)) (by omega) (fun q1 => ?_)
  refine r_astore_n [(2, .ref q1), (1, .ref l0), (0, .ref s)] dX10_order_13 (by decide) rfl ?_
  refine r_aload_n 2 dX10_order_14 rfl ?_
  refine r_getm (v := .int (nI ne)) (ci := 10) (fs := [.int (nI ne), .int (nI nt), .ref aC, .ref aD, .ref aO, .ref aT, .int ev, .int cr]) dX10_order_15 fl_X10_29 (List.mem_cons_of_mem _ (List.mem_cons_of_mem _ (List.mem_cons_of_mem _ (List.mem_cons_of_mem _ (List.mem_cons_of_mem _ hS.1))))) rfl ?_
  refine r_room (x2 := 0 + 1) (y2 := 0 + ne) (by omega) (by omega) ?_
  refine r_newZ (x := 0) (y := 0) (N := ne) dX10_order_18 kk_954 (nI_pos (by omega)) (nI_clamp (by omega)) (by omega) (fun q2 => ?_)
  refine r_astore_n [(3, .ref q2), (2, .ref q1), (1, .ref l0), (0, .ref s)] dX10_order_20 (by decide) rfl ?_
  refine r_iconst (v := (0 : Int32)) dX10_order_21 (by decide) ?_
  refine r_top (w := .int (nI 0)) (rfl) ?_
  refine r_istore [(4, .int (nI 0)), (3, .ref q2), (2, .ref q1), (1, .ref l0), (0, .ref s)] dX10_order_22 (by decide) rfl ?_
  have L : ∀ m k, m + k = ne → ∀ q, ogS cl ne tr k = some q → R g mX10_order 9 0 0 24 [(4, .int (nI k)), (3, .ref q2), (2, .ref q1), (1, .ref l0), (0, .ref s)] [] ((q2, zA g ne (dbF q.1)) :: ((q1, iA g ne (mkF q.2 k)) :: ((lb, qA g 4 3 (bestF l0 l1 l2)) :: ((l0, iA g nt (dbF (dcd cl d nt nt 0 (0, 0, 99)).1)) :: ((l1, iA g 1 (o1 (nI (dcd cl d nt nt 0 (0, 0, 99)).2.1))) :: ((l2, iA g 1 (o1 (nI (dcd cl d nt nt 0 (0, 0, 99)).2.2))) :: t)))))) (Dq (fun (z : Option Nat) => some (match z with | none => Value.null | some q => .ref q)) (fun z => match z with | none => t | some q => (q, iA g ne (mkF (match ogS cl ne tr ne with | none => fun _ => 0 | some q => q.2) ne)) :: t) (fun z => (z = none ↔ ogS cl ne tr ne = none))) := by
    intro m
    induction m with
    | zero =>
      intro k hk q hq
      have ek : k = ne := by omega
      rw [ek] at hq ⊢
      refine r_iload 0 dX10_order_24 rfl ?_
      refine r_aload_n 4 dX10_order_26 rfl ?_
      refine r_getm (v := .int (nI ne)) (ci := 10) (fs := [.int (nI ne), .int (nI nt), .ref aC, .ref aD, .ref aO, .ref aT, .int ev, .int cr]) dX10_order_27 fl_X10_29 (List.mem_cons_of_mem _ (List.mem_cons_of_mem _ (List.mem_cons_of_mem _ (List.mem_cons_of_mem _ (List.mem_cons_of_mem _ (List.mem_cons_of_mem _ hS.1)))))) rfl ?_
      refine r_icmp_ge (tgt := 194) dX10_order_30 (by decide) (fun _ => ?_) (fun hc => absurd (nI_le (Nat.le_refl _) (by omega)) hc)
      refine r_aload_n 2 dX10_order_194 rfl ?_
      refine r_seg (ws2 := ((q1, iA g ne (mkF q.2 ne)) :: t)) [[(q2, zA g ne (dbF q.1))], [(q1, iA g ne (mkF q.2 ne))], [(lb, qA g 4 3 (bestF l0 l1 l2))], [(l0, iA g nt (dbF (dcd cl d nt nt 0 (0, 0, 99)).1))], [(l1, iA g 1 (o1 (nI (dcd cl d nt nt 0 (0, 0, 99)).2.1)))], [(l2, iA g 1 (o1 (nI (dcd cl d nt nt 0 (0, 0, 99)).2.2)))], t] [1, 6] rfl rfl rfl ?_
      refine r_aret dX10_order_195 rfl rfl (Or.inr ⟨_, rfl⟩) ?_
      exact Dq.mk (some q1) rfl (by rw [hq]) (by rw [hq]; exact ⟨fun h => (nomatch h), fun h => (nomatch h)⟩)
    | succ m ih =>
      intro k hk q hq
      have hk2 : k < ne := by omega
      have hq1 := og_lt k q hq
      refine r_iload 0 dX10_order_24 rfl ?_
      refine r_aload_n 4 dX10_order_26 rfl ?_
      refine r_getm (v := .int (nI ne)) (ci := 10) (fs := [.int (nI ne), .int (nI nt), .ref aC, .ref aD, .ref aO, .ref aT, .int ev, .int cr]) dX10_order_27 fl_X10_29 (List.mem_cons_of_mem _ (List.mem_cons_of_mem _ (List.mem_cons_of_mem _ (List.mem_cons_of_mem _ (List.mem_cons_of_mem _ (List.mem_cons_of_mem _ hS.1)))))) rfl ?_
      refine r_icmp_ge (tgt := 194) dX10_order_30 (by decide) (fun hc => absurd hc (nI_ge (by omega) (by omega))) (fun _ => ?_)
      refine r_iconst (v := (-1 : Int32)) dX10_order_33 (by decide) ?_
      refine r_top (w := .int (nxV (ff (okB (rwK cl 0) (rwK cl 1) (rwK cl 2) (rwK cl 3) cl.length tr q.1) (ne - ne) ne))) (by rw [Nat.sub_self]; rfl) ?_
      refine r_istore [(5, .int (nxV (ff (okB (rwK cl 0) (rwK cl 1) (rwK cl 2) (rwK cl 3) cl.length tr q.1) (ne - ne) ne))), (4, .int (nI k)), (3, .ref q2), (2, .ref q1), (1, .ref l0), (0, .ref s)] dX10_order_34 (by decide) rfl ?_
      refine r_aload_n 5 dX10_order_36 rfl ?_
      refine r_getm (v := .int (nI ne)) (ci := 10) (fs := [.int (nI ne), .int (nI nt), .ref aC, .ref aD, .ref aO, .ref aT, .int ev, .int cr]) dX10_order_37 fl_X10_29 (List.mem_cons_of_mem _ (List.mem_cons_of_mem _ (List.mem_cons_of_mem _ (List.mem_cons_of_mem _ (List.mem_cons_of_mem _ (List.mem_cons_of_mem _ hS.1)))))) rfl ?_
      refine r_iconst (v := (1 : Int32)) dX10_order_40 (by decide) ?_
      refine r_isub dX10_order_41 ?_
      refine r_top (w := .int (nI ne + (-1 : Int32))) (by rw [nI_m]) ?_
      refine r_istore [(6, .int (nI ne + (-1 : Int32))), (5, .int (nxV (ff (okB (rwK cl 0) (rwK cl 1) (rwK cl 2) (rwK cl 3) cl.length tr q.1) (ne - ne) ne))), (4, .int (nI k)), (3, .ref q2), (2, .ref q1), (1, .ref l0), (0, .ref s)] dX10_order_42 (by decide) rfl ?_
      have L2 : ∀ e, e ≤ ne → R g mX10_order 9 0 0 44 [(6, .int (nI e + (-1 : Int32))), (5, .int (nxV (ff (okB (rwK cl 0) (rwK cl 1) (rwK cl 2) (rwK cl 3) cl.length tr q.1) (ne - e) e))), (4, .int (nI k)), (3, .ref q2), (2, .ref q1), (1, .ref l0), (0, .ref s)] [] ((q2, zA g ne (dbF q.1)) :: ((q1, iA g ne (mkF q.2 k)) :: ((lb, qA g 4 3 (bestF l0 l1 l2)) :: ((l0, iA g nt (dbF (dcd cl d nt nt 0 (0, 0, 99)).1)) :: ((l1, iA g 1 (o1 (nI (dcd cl d nt nt 0 (0, 0, 99)).2.1))) :: ((l2, iA g 1 (o1 (nI (dcd cl d nt nt 0 (0, 0, 99)).2.2))) :: t)))))) (Dq (fun (z : Option Nat) => some (match z with | none => Value.null | some q => .ref q)) (fun z => match z with | none => t | some q => (q, iA g ne (mkF (match ogS cl ne tr ne with | none => fun _ => 0 | some q => q.2) ne)) :: t) (fun z => (z = none ↔ ogS cl ne tr ne = none))) := by
        intro e
        induction e with
        | zero =>
          intro he
          rw [Nat.sub_zero]
          refine r_iload 0 dX10_order_44 rfl ?_
          refine r_if_lt (tgt := 170) dX10_order_46 (by decide) (fun _ => ?_) (fun hc => absurd (by decide) hc)
          refine r_iload 1 dX10_order_170 rfl ?_
          have hs : ogS cl ne tr (k + 1) = (match ff (okB (rwK cl 0) (rwK cl 1) (rwK cl 2) (rwK cl 3) cl.length tr q.1) ne 0 with | none => none | some e => some (q.1 ||| 2 ^ e, fun j => if j = k then e else q.2 j)) := by
            show (match ogS cl ne tr k with | none => none | some q => _) = _
            rw [hq]
            rfl
          cases hff : ff (okB (rwK cl 0) (rwK cl 1) (rwK cl 2) (rwK cl 3) cl.length tr q.1) ne 0 with
          | none =>
            rw [hff] at hs
            show R g mX10_order 9 0 0 172 [(6, .int (nI 0 + (-1 : Int32))), (5, .int (-1 : Int32)), (4, .int (nI k)), (3, .ref q2), (2, .ref q1), (1, .ref l0), (0, .ref s)] [.int (-1 : Int32)] ((q2, zA g ne (dbF q.1)) :: ((q1, iA g ne (mkF q.2 k)) :: ((lb, qA g 4 3 (bestF l0 l1 l2)) :: ((l0, iA g nt (dbF (dcd cl d nt nt 0 (0, 0, 99)).1)) :: ((l1, iA g 1 (o1 (nI (dcd cl d nt nt 0 (0, 0, 99)).2.1))) :: ((l2, iA g 1 (o1 (nI (dcd cl d nt nt 0 (0, 0, 99)).2.2))) :: t)))))) _
            refine r_if_ge (tgt := 177) dX10_order_172 (by decide) (fun hc => absurd hc (by decide)) (fun _ => ?_)
            refine r_null dX10_order_175 ?_
            refine r_seg (ws2 := t) [[(q2, zA g ne (dbF q.1))], [(q1, iA g ne (mkF q.2 k))], [(lb, qA g 4 3 (bestF l0 l1 l2))], [(l0, iA g nt (dbF (dcd cl d nt nt 0 (0, 0, 99)).1))], [(l1, iA g 1 (o1 (nI (dcd cl d nt nt 0 (0, 0, 99)).2.1)))], [(l2, iA g 1 (o1 (nI (dcd cl d nt nt 0 (0, 0, 99)).2.2)))], t] [6] rfl rfl rfl ?_
            refine r_aret dX10_order_176 rfl rfl (Or.inl rfl) ?_
            exact Dq.mk none rfl rfl ⟨fun _ => og_none hs ne (by omega), fun _ => rfl⟩
          | some e =>
            rw [hff] at hs
            have he2 := ff_in _ _ _ hff
            show R g mX10_order 9 0 0 172 [(6, .int (nI 0 + (-1 : Int32))), (5, .int (nI e)), (4, .int (nI k)), (3, .ref q2), (2, .ref q1), (1, .ref l0), (0, .ref s)] [.int (nI e)] ((q2, zA g ne (dbF q.1)) :: ((q1, iA g ne (mkF q.2 k)) :: ((lb, qA g 4 3 (bestF l0 l1 l2)) :: ((l0, iA g nt (dbF (dcd cl d nt nt 0 (0, 0, 99)).1)) :: ((l1, iA g 1 (o1 (nI (dcd cl d nt nt 0 (0, 0, 99)).2.1))) :: ((l2, iA g 1 (o1 (nI (dcd cl d nt nt 0 (0, 0, 99)).2.2))) :: t)))))) _
            refine r_if_ge (tgt := 177) dX10_order_172 (by decide) (fun _ => ?_) (fun hc => absurd (nI_leI0 e (by omega)) hc)
            refine r_aload_n 4 dX10_order_177 rfl ?_
            refine r_iload 2 dX10_order_178 rfl ?_
            refine r_iload 1 dX10_order_180 rfl ?_
            refine r_iast (ws2 := ((q2, zA g ne (dbF q.1)) :: ((q1, iA g ne (mkF (fun j => if j = k then e else q.2 j) (k + 1))) :: ((lb, qA g 4 3 (bestF l0 l1 l2)) :: ((l0, iA g nt (dbF (dcd cl d nt nt 0 (0, 0, 99)).1)) :: ((l1, iA g 1 (o1 (nI (dcd cl d nt nt 0 (0, 0, 99)).2.1))) :: ((l2, iA g 1 (o1 (nI (dcd cl d nt nt 0 (0, 0, 99)).2.2))) :: t))))))) 1 dX10_order_182 rfl (ib_nI hk2 (by omega)) (by rw [nI_clamp (by omega), mkF_s] <;> rfl) ?_
            refine r_aload_n 3 dX10_order_183 rfl ?_
            refine r_iload 1 dX10_order_184 rfl ?_
            refine r_iconst (v := (1 : Int32)) dX10_order_186 (by decide) ?_
            refine r_zast (w := (1 : Int32)) (ws2 := ((q2, zA g ne (dbF (q.1 ||| 2 ^ e))) :: ((q1, iA g ne (mkF (fun j => if j = k then e else q.2 j) (k + 1))) :: ((lb, qA g 4 3 (bestF l0 l1 l2)) :: ((l0, iA g nt (dbF (dcd cl d nt nt 0 (0, 0, 99)).1)) :: ((l1, iA g 1 (o1 (nI (dcd cl d nt nt 0 (0, 0, 99)).2.1))) :: ((l2, iA g 1 (o1 (nI (dcd cl d nt nt 0 (0, 0, 99)).2.2))) :: t))))))) 0 dX10_order_187 rfl (ib_nI (by omega) (by omega)) (rfl) (by rw [nI_clamp (by omega), dbF_on] <;> rfl) ?_
            refine r_iinc (v2 := (nI (k + 1))) 2 [(4, .int (nI (k + 1))), (6, .int (nI 0 + (-1 : Int32))), (5, .int (nI e)), (3, .ref q2), (2, .ref q1), (1, .ref l0), (0, .ref s)] dX10_order_188 rfl (nI_1 k) (by decide) rfl ?_
            refine r_goto (tgt := 24) dX10_order_191 (by decide) ?_
            refine r_ls [0, 3, 4, 5, 6] (ls2 := [(4, .int (nI (k + 1))), (3, .ref q2), (2, .ref q1), (1, .ref l0), (0, .ref s)]) rfl ?_
            exact ih (k + 1) (by omega) _ hs
        | succ e ihe =>
          intro he
          rw [nI_p e]
          refine r_iload 0 dX10_order_44 rfl ?_
          refine r_if_lt (tgt := 170) dX10_order_46 (by decide) (fun hc => absurd hc (nI_nlt0 e (by omega))) (fun _ => ?_)
          refine r_aload_n 3 dX10_order_49 rfl ?_
          refine r_iload 0 dX10_order_50 rfl ?_
          refine r_zaldm (n := ne) (f := (dbF q.1)) dX10_order_52 List.mem_cons_self (ib_nI (by omega) (by omega)) ?_
          refine r_top (w := .int (dbF q.1 e)) (by rw [nI_clamp (by omega)]) ?_
          have L3 : ∀ m3 c, m3 + c = ca.length → R g mX10_order 9 0 0 77 [(10, .int (nI c)), (9, .int (nI ca.length)), (8, .ref aC), (7, .int (bI (okA cl tr q.1 e c))), (6, .int (nI e)), (5, .int (nxV (ff (okB (rwK cl 0) (rwK cl 1) (rwK cl 2) (rwK cl 3) cl.length tr q.1) (ne - (e + 1)) (e + 1)))), (4, .int (nI k)), (3, .ref q2), (2, .ref q1), (1, .ref l0), (0, .ref s)] [] ((q2, zA g ne (dbF q.1)) :: ((q1, iA g ne (mkF q.2 k)) :: ((lb, qA g 4 3 (bestF l0 l1 l2)) :: ((l0, iA g nt (dbF (dcd cl d nt nt 0 (0, 0, 99)).1)) :: ((l1, iA g 1 (o1 (nI (dcd cl d nt nt 0 (0, 0, 99)).2.1))) :: ((l2, iA g 1 (o1 (nI (dcd cl d nt nt 0 (0, 0, 99)).2.2))) :: t)))))) (Dq (fun (z : Option Nat) => some (match z with | none => Value.null | some q => .ref q)) (fun z => match z with | none => t | some q => (q, iA g ne (mkF (match ogS cl ne tr ne with | none => fun _ => 0 | some q => q.2) ne)) :: t) (fun z => (z = none ↔ ogS cl ne tr ne = none))) := by
            intro m3
            induction m3 with
            | zero =>
              intro c hc
              have ec : c = cl.length := by omega
              subst ec
              refine r_iload 0 dX10_order_77 rfl ?_
              refine r_iload 1 dX10_order_79 rfl ?_
              refine r_icmp_ge (tgt := 155) dX10_order_81 (by decide) (fun _ => ?_) (fun hc => absurd (nI_le (by omega) (by omega)) hc)
              refine r_iload 3 dX10_order_155 rfl ?_
              refine r_if_eq (tgt := 164) dX10_order_157 (by decide) (fun h1 => ?_) (fun h1 => ?_)
              · have e1 : ff (okB (rwK cl 0) (rwK cl 1) (rwK cl 2) (rwK cl 3) cl.length tr q.1) (ne - e) e = ff (okB (rwK cl 0) (rwK cl 1) (rwK cl 2) (rwK cl 3) cl.length tr q.1) (ne - (e + 1)) (e + 1) := by
                  rw [show ne - e = (ne - (e + 1)) + 1 by omega]
                  show (if _ then _ else _) = _
                  rw [if_neg (by rw [← okA_iff, bI_0.mp h1]; decide)]
                refine r_iinc (v2 := (nI e + (-1 : Int32))) 4 [(6, .int (nI e + (-1 : Int32))), (10, .int (nI cl.length)), (9, .int (nI ca.length)), (8, .ref aC), (7, .int (bI (okA cl tr q.1 e cl.length))), (5, .int (nxV (ff (okB (rwK cl 0) (rwK cl 1) (rwK cl 2) (rwK cl 3) cl.length tr q.1) (ne - (e + 1)) (e + 1)))), (4, .int (nI k)), (3, .ref q2), (2, .ref q1), (1, .ref l0), (0, .ref s)] dX10_order_164 rfl (rfl) (by decide) rfl ?_
                refine r_goto (tgt := 44) dX10_order_167 (by decide) ?_
                refine r_ls [0, 5, 6, 7, 8, 9, 10] (ls2 := [(6, .int (nI e + (-1 : Int32))), (5, .int (nxV (ff (okB (rwK cl 0) (rwK cl 1) (rwK cl 2) (rwK cl 3) cl.length tr q.1) (ne - (e + 1)) (e + 1)))), (4, .int (nI k)), (3, .ref q2), (2, .ref q1), (1, .ref l0), (0, .ref s)]) rfl ?_
                have K := ihe (by omega)
                rw [e1] at K
                exact K
              · have e0 : okA cl tr q.1 e cl.length = true := by cases h9 : okA cl tr q.1 e cl.length with | false => rw [h9] at h1; exact absurd rfl h1 | true => rfl
                have e1 : ff (okB (rwK cl 0) (rwK cl 1) (rwK cl 2) (rwK cl 3) cl.length tr q.1) (ne - e) e = some e := by
                  rw [show ne - e = (ne - (e + 1)) + 1 by omega]
                  show (if _ then _ else _) = _
                  rw [if_pos (by rw [← okA_iff]; exact e0)]
                refine r_iload 4 dX10_order_160 rfl ?_
                refine r_istore [(5, .int (nI e)), (10, .int (nI cl.length)), (9, .int (nI ca.length)), (8, .ref aC), (7, .int (bI (okA cl tr q.1 e cl.length))), (6, .int (nI e)), (4, .int (nI k)), (3, .ref q2), (2, .ref q1), (1, .ref l0), (0, .ref s)] dX10_order_162 (by decide) rfl ?_
                refine r_iinc (v2 := (nI e + (-1 : Int32))) 5 [(6, .int (nI e + (-1 : Int32))), (5, .int (nI e)), (10, .int (nI cl.length)), (9, .int (nI ca.length)), (8, .ref aC), (7, .int (bI (okA cl tr q.1 e cl.length))), (4, .int (nI k)), (3, .ref q2), (2, .ref q1), (1, .ref l0), (0, .ref s)] dX10_order_164 rfl (rfl) (by decide) rfl ?_
                refine r_goto (tgt := 44) dX10_order_167 (by decide) ?_
                refine r_ls [0, 1, 6, 7, 8, 9, 10] (ls2 := [(6, .int (nI e + (-1 : Int32))), (5, .int (nI e)), (4, .int (nI k)), (3, .ref q2), (2, .ref q1), (1, .ref l0), (0, .ref s)]) rfl ?_
                have K := ihe (by omega)
                rw [e1] at K
                exact K
            | succ m3 ih3 =>
              intro c hc
              have hc2 : c < ca.length := by omega
              obtain ⟨et, ht⟩ := cv_t hV (by omega) (c := c) (by omega)
              obtain ⟨ee, hee⟩ := cv_e hV (by omega) (c := c) (by omega)
              have hli := htr _ ht
              refine r_iload 0 dX10_order_77 rfl ?_
              refine r_iload 1 dX10_order_79 rfl ?_
              refine r_icmp_ge (tgt := 155) dX10_order_81 (by decide) (fun hc => absurd hc (nI_ge (by omega) (by omega))) (fun _ => ?_)
              refine r_aload 2 dX10_order_84 rfl ?_
              refine r_iload 0 dX10_order_86 rfl ?_
              refine r_aaldm (t := 4) (n := ca.length) (f := (fun k => ca[k]?)) (v := .ref (ca.getD c 0)) dX10_order_88 rfl rfl (List.mem_cons_of_mem _ (List.mem_cons_of_mem _ (List.mem_cons_of_mem _ (List.mem_cons_of_mem _ (List.mem_cons_of_mem _ (List.mem_cons_of_mem _ hS.2.1)))))) (ib_nI (hc2) (by omega)) (by rw [nI_clamp (by omega), List.getD_eq_getElem?_getD, List.getElem?_eq_getElem (hc2)]; rfl) ?_
              refine r_astore [(11, .ref (ca.getD c 0)), (10, .int (nI c)), (9, .int (nI ca.length)), (8, .ref aC), (7, .int (bI (okA cl tr q.1 e c))), (6, .int (nI e)), (5, .int (nxV (ff (okB (rwK cl 0) (rwK cl 1) (rwK cl 2) (rwK cl 3) cl.length tr q.1) (ne - (e + 1)) (e + 1)))), (4, .int (nI k)), (3, .ref q2), (2, .ref q1), (1, .ref l0), (0, .ref s)] dX10_order_89 (by decide) rfl ?_
              refine r_iload 4 dX10_order_91 rfl ?_
              refine r_aload 0 dX10_order_93 rfl ?_
              refine r_iconst (v := (0 : Int32)) dX10_order_95 (by decide) ?_
              have J : ∀ b : Bool, b = (!decide (rw5 cl c 0 = 1) || !decide (rw5 cl c 3 = nI e) || q.1.testBit (tN (rwK cl 2) c) || !tr.testBit (tN (rwK cl 1) c)) → R g mX10_order 9 0 0 146 [(11, .ref (ca.getD c 0)), (10, .int (nI c)), (9, .int (nI ca.length)), (8, .ref aC), (7, .int (bI (okA cl tr q.1 e c))), (6, .int (nI e)), (5, .int (nxV (ff (okB (rwK cl 0) (rwK cl 1) (rwK cl 2) (rwK cl 3) cl.length tr q.1) (ne - (e + 1)) (e + 1)))), (4, .int (nI k)), (3, .ref q2), (2, .ref q1), (1, .ref l0), (0, .ref s)] [.int (bI b), .int (bI (okA cl tr q.1 e c))] ((q2, zA g ne (dbF q.1)) :: ((q1, iA g ne (mkF q.2 k)) :: ((lb, qA g 4 3 (bestF l0 l1 l2)) :: ((l0, iA g nt (dbF (dcd cl d nt nt 0 (0, 0, 99)).1)) :: ((l1, iA g 1 (o1 (nI (dcd cl d nt nt 0 (0, 0, 99)).2.1))) :: ((l2, iA g 1 (o1 (nI (dcd cl d nt nt 0 (0, 0, 99)).2.2))) :: t)))))) (Dq (fun (z : Option Nat) => some (match z with | none => Value.null | some q => .ref q)) (fun z => match z with | none => t | some q => (q, iA g ne (mkF (match ogS cl ne tr ne with | none => fun _ => 0 | some q => q.2) ne)) :: t) (fun z => (z = none ↔ ogS cl ne tr ne = none))) := by
                intro b hb
                refine r_iand dX10_order_146 ?_
                refine r_top (w := .int (bI (okA cl tr q.1 e (c + 1)))) (by show _ = Value.int (bI ((okA cl tr q.1 e c) && (!decide (rw5 cl c 0 = 1) || !decide (rw5 cl c 3 = nI e) || q.1.testBit (tN (rwK cl 2) c) || !tr.testBit (tN (rwK cl 1) c)))); rw [← hb]; cases okA cl tr q.1 e c <;> cases b <;> rfl) ?_
                refine r_istore [(7, .int (bI (okA cl tr q.1 e (c + 1)))), (11, .ref (ca.getD c 0)), (10, .int (nI c)), (9, .int (nI ca.length)), (8, .ref aC), (6, .int (nI e)), (5, .int (nxV (ff (okB (rwK cl 0) (rwK cl 1) (rwK cl 2) (rwK cl 3) cl.length tr q.1) (ne - (e + 1)) (e + 1)))), (4, .int (nI k)), (3, .ref q2), (2, .ref q1), (1, .ref l0), (0, .ref s)] dX10_order_147 (by decide) rfl ?_
                refine r_iinc (v2 := (nI (c + 1))) 2 [(10, .int (nI (c + 1))), (7, .int (bI (okA cl tr q.1 e (c + 1)))), (11, .ref (ca.getD c 0)), (9, .int (nI ca.length)), (8, .ref aC), (6, .int (nI e)), (5, .int (nxV (ff (okB (rwK cl 0) (rwK cl 1) (rwK cl 2) (rwK cl 3) cl.length tr q.1) (ne - (e + 1)) (e + 1)))), (4, .int (nI k)), (3, .ref q2), (2, .ref q1), (1, .ref l0), (0, .ref s)] dX10_order_149 rfl (nI_1 c) (by decide) rfl ?_
                refine r_goto (tgt := 77) dX10_order_152 (by decide) ?_
                refine r_ls [0, 3, 4, 1, 5, 6, 7, 8, 9, 10, 11] (ls2 := [(10, .int (nI (c + 1))), (9, .int (nI ca.length)), (8, .ref aC), (7, .int (bI (okA cl tr q.1 e (c + 1)))), (6, .int (nI e)), (5, .int (nxV (ff (okB (rwK cl 0) (rwK cl 1) (rwK cl 2) (rwK cl 3) cl.length tr q.1) (ne - (e + 1)) (e + 1)))), (4, .int (nI k)), (3, .ref q2), (2, .ref q1), (1, .ref l0), (0, .ref s)]) rfl ?_
                exact ih3 (c + 1) (by omega)
              refine r_ialdm (n := 5) (f := (rw5 cl c)) dX10_order_96 (List.mem_cons_of_mem _ (List.mem_cons_of_mem _ (List.mem_cons_of_mem _ (List.mem_cons_of_mem _ (List.mem_cons_of_mem _ (List.mem_cons_of_mem _ (hS.2.2.1 c (hc2)))))))) (by decide) ?_
              refine r_top (w := .int (rw5 cl c 0)) (by rw [cl0]) ?_
              refine r_iconst (v := (1 : Int32)) dX10_order_97 (by decide) ?_
              refine r_icmp_ne (tgt := 141) dX10_order_98 (by decide) (fun c0 => ?_) (fun c0 => ?_)
              · refine r_iconst (v := (1 : Int32)) dX10_order_141 (by decide) ?_
                refine r_goto (tgt := 146) dX10_order_142 (by decide) ?_
                refine r_top (w := .int (bI true)) (rfl) ?_
                exact J _ (by simp only [eq_false c0, decide_true, decide_false, Bool.and_true, Bool.true_and, Bool.and_false, Bool.false_and, Bool.or_true, Bool.true_or, Bool.or_false, Bool.false_or, Bool.not_true, Bool.not_false])
              · refine r_aload 0 dX10_order_101 rfl ?_
                refine r_iconst (v := (3 : Int32)) dX10_order_103 (by decide) ?_
                refine r_ialdm (n := 5) (f := (rw5 cl c)) dX10_order_104 (List.mem_cons_of_mem _ (List.mem_cons_of_mem _ (List.mem_cons_of_mem _ (List.mem_cons_of_mem _ (List.mem_cons_of_mem _ (List.mem_cons_of_mem _ (hS.2.2.1 c (hc2)))))))) (by decide) ?_
                refine r_top (w := .int (rw5 cl c 3)) (by rw [cl3]) ?_
                refine r_iload 5 dX10_order_105 rfl ?_
                refine r_icmp_ne (tgt := 141) dX10_order_107 (by decide) (fun c1 => ?_) (fun c1 => ?_)
                · refine r_iconst (v := (1 : Int32)) dX10_order_141 (by decide) ?_
                  refine r_goto (tgt := 146) dX10_order_142 (by decide) ?_
                  refine r_top (w := .int (bI true)) (rfl) ?_
                  exact J _ (by simp only [eq_true c0, eq_false c1, decide_true, decide_false, Bool.and_true, Bool.true_and, Bool.and_false, Bool.false_and, Bool.or_true, Bool.true_or, Bool.or_false, Bool.false_or, Bool.not_true, Bool.not_false])
                · refine r_aload_n 8 dX10_order_110 rfl ?_
                  refine r_aload 0 dX10_order_111 rfl ?_
                  refine r_iconst (v := (2 : Int32)) dX10_order_113 (by decide) ?_
                  refine r_ialdm (n := 5) (f := (rw5 cl c)) dX10_order_114 (List.mem_cons_of_mem _ (List.mem_cons_of_mem _ (List.mem_cons_of_mem _ (List.mem_cons_of_mem _ (List.mem_cons_of_mem _ (List.mem_cons_of_mem _ (hS.2.2.1 c (hc2)))))))) (by decide) ?_
                  refine r_top (w := .int (nI (tN (rwK cl 2) c))) (by rw [cl2, ee]) ?_
                  refine r_zaldm (n := ne) (f := (dbF q.1)) dX10_order_115 List.mem_cons_self (ib_nI hee (by omega)) ?_
                  refine r_top (w := .int (dbF q.1 (tN (rwK cl 2) c))) (by rw [nI_clamp (by omega)]) ?_
                  refine r_if_ne (tgt := 141) dX10_order_116 (by decide) (fun c2 => ?_) (fun c2 => ?_)
                  · have e2 : q.1.testBit (tN (rwK cl 2) c) = true := by cases h9 : q.1.testBit (tN (rwK cl 2) c) with | false => exact absurd (dbF_0.mpr h9) c2 | true => rfl
                    refine r_iconst (v := (1 : Int32)) dX10_order_141 (by decide) ?_
                    refine r_goto (tgt := 146) dX10_order_142 (by decide) ?_
                    refine r_top (w := .int (bI true)) (rfl) ?_
                    exact J _ (by simp only [e2, decide_true, decide_false, Bool.and_true, Bool.true_and, Bool.and_false, Bool.false_and, Bool.or_true, Bool.true_or, Bool.or_false, Bool.false_or, Bool.not_true, Bool.not_false])
                  · have e2 : q.1.testBit (tN (rwK cl 2) c) = false := dbF_0.mp c2
                    refine r_aload_n 11 dX10_order_119 rfl ?_
                    refine r_getm (v := .ref aD) (ci := 10) (fs := [.int (nI ne), .int (nI nt), .ref aC, .ref aD, .ref aO, .ref aT, .int ev, .int cr]) dX10_order_120 fl_X10_15 (List.mem_cons_of_mem _ (List.mem_cons_of_mem _ (List.mem_cons_of_mem _ (List.mem_cons_of_mem _ (List.mem_cons_of_mem _ (List.mem_cons_of_mem _ hS.1)))))) rfl ?_
                    refine r_aload 0 dX10_order_123 rfl ?_
                    refine r_iconst (v := (1 : Int32)) dX10_order_125 (by decide) ?_
                    refine r_ialdm (n := 5) (f := (rw5 cl c)) dX10_order_126 (List.mem_cons_of_mem _ (List.mem_cons_of_mem _ (List.mem_cons_of_mem _ (List.mem_cons_of_mem _ (List.mem_cons_of_mem _ (List.mem_cons_of_mem _ (hS.2.2.1 c (hc2)))))))) (by decide) ?_
                    refine r_top (w := .int (nI (tN (rwK cl 1) c))) (by rw [cl1, et]) ?_
                    refine r_zaldm (n := 10) (f := (dbF d)) dX10_order_127 (List.mem_cons_of_mem _ (List.mem_cons_of_mem _ (List.mem_cons_of_mem _ (List.mem_cons_of_mem _ (List.mem_cons_of_mem _ (List.mem_cons_of_mem _ hS.2.2.2)))))) (ib_nI (by omega) (by decide)) ?_
                    refine r_top (w := .int (dbF d (tN (rwK cl 1) c))) (by rw [nI_clamp (by omega)]) ?_
                    refine r_if_ne (tgt := 141) dX10_order_128 (by decide) (fun c3 => ?_) (fun c3 => ?_)
                    · have e3 : d.testBit (tN (rwK cl 1) c) = true := by cases h9 : d.testBit (tN (rwK cl 1) c) with | false => exact absurd (dbF_0.mpr h9) c3 | true => rfl
                      rw [e3] at hli
                      refine r_iconst (v := (1 : Int32)) dX10_order_141 (by decide) ?_
                      refine r_goto (tgt := 146) dX10_order_142 (by decide) ?_
                      refine r_top (w := .int (bI true)) (rfl) ?_
                      exact J _ (by simp only [hli, decide_true, decide_false, Bool.and_true, Bool.true_and, Bool.and_false, Bool.false_and, Bool.or_true, Bool.true_or, Bool.or_false, Bool.false_or, Bool.not_true, Bool.not_false])
                    · have e3 : d.testBit (tN (rwK cl 1) c) = false := dbF_0.mp c3
                      refine r_aload_n 10 dX10_order_131 rfl ?_
                      refine r_aload 0 dX10_order_132 rfl ?_
                      refine r_iconst (v := (1 : Int32)) dX10_order_134 (by decide) ?_
                      refine r_ialdm (n := 5) (f := (rw5 cl c)) dX10_order_135 (List.mem_cons_of_mem _ (List.mem_cons_of_mem _ (List.mem_cons_of_mem _ (List.mem_cons_of_mem _ (List.mem_cons_of_mem _ (List.mem_cons_of_mem _ (hS.2.2.1 c (hc2)))))))) (by decide) ?_
                      refine r_top (w := .int (nI (tN (rwK cl 1) c))) (by rw [cl1, et]) ?_
                      refine r_ialdm (n := nt) (f := (dbF (dcd cl d nt nt 0 (0, 0, 99)).1)) dX10_order_136 (List.mem_cons_of_mem _ (List.mem_cons_of_mem _ (List.mem_cons_of_mem _ List.mem_cons_self))) (ib_nI (by omega) (by omega)) ?_
                      refine r_top (w := .int (dbF (dcd cl d nt nt 0 (0, 0, 99)).1 (tN (rwK cl 1) c))) (by rw [nI_clamp (by omega)]) ?_
                      refine r_iconst (v := (1 : Int32)) dX10_order_137 (by decide) ?_
                      refine r_icmp_ne (tgt := 145) dX10_order_138 (by decide) (fun c4 => ?_) (fun c4 => ?_)
                      · have e4 : (dcd cl d nt nt 0 (0, 0, 99)).1.testBit (tN (rwK cl 1) c) = false := by cases h9 : (dcd cl d nt nt 0 (0, 0, 99)).1.testBit (tN (rwK cl 1) c) with | false => rfl | true => exact absurd (dbF_t h9) c4
                        rw [e3, e4] at hli
                        refine r_iconst (v := (0 : Int32)) dX10_order_145 (by decide) ?_
                        refine r_top (w := .int (bI false)) (rfl) ?_
                        exact J _ (by simp only [hli, eq_true c0, eq_true c1, e2, decide_true, decide_false, Bool.and_true, Bool.true_and, Bool.and_false, Bool.false_and, Bool.or_true, Bool.true_or, Bool.or_false, Bool.false_or, Bool.not_true, Bool.not_false])
                      · have e4 : (dcd cl d nt nt 0 (0, 0, 99)).1.testBit (tN (rwK cl 1) c) = true := by cases h9 : (dcd cl d nt nt 0 (0, 0, 99)).1.testBit (tN (rwK cl 1) c) with | false => rw [dbF_f h9] at c4; exact absurd c4 (by decide) | true => rfl
                        rw [e3, e4] at hli
                        refine r_iconst (v := (1 : Int32)) dX10_order_141 (by decide) ?_
                        refine r_goto (tgt := 146) dX10_order_142 (by decide) ?_
                        refine r_top (w := .int (bI true)) (rfl) ?_
                        exact J _ (by simp only [hli, decide_true, decide_false, Bool.and_true, Bool.true_and, Bool.and_false, Bool.false_and, Bool.or_true, Bool.true_or, Bool.or_false, Bool.false_or, Bool.not_true, Bool.not_false])
          refine r_if_ne (tgt := 60) dX10_order_53 (by decide) (fun h0 => ?_) (fun h0 => ?_)
          · have e2 : q.1.testBit e = true := by cases h9 : q.1.testBit e with | false => exact absurd (dbF_0.mpr h9) h0 | true => rfl
            refine r_iconst (v := (0 : Int32)) dX10_order_60 (by decide) ?_
            refine r_top (w := .int (bI (okA cl tr q.1 e 0))) (by rw [okA, e2]; rfl) ?_
            refine r_istore [(7, .int (bI (okA cl tr q.1 e 0))), (6, .int (nI e)), (5, .int (nxV (ff (okB (rwK cl 0) (rwK cl 1) (rwK cl 2) (rwK cl 3) cl.length tr q.1) (ne - (e + 1)) (e + 1)))), (4, .int (nI k)), (3, .ref q2), (2, .ref q1), (1, .ref l0), (0, .ref s)] dX10_order_61 (by decide) rfl ?_
            refine r_aload_n 7 dX10_order_63 rfl ?_
            refine r_getm (v := .ref aC) (ci := 10) (fs := [.int (nI ne), .int (nI nt), .ref aC, .ref aD, .ref aO, .ref aT, .int ev, .int cr]) dX10_order_64 fl_X10_9 (List.mem_cons_of_mem _ (List.mem_cons_of_mem _ (List.mem_cons_of_mem _ (List.mem_cons_of_mem _ (List.mem_cons_of_mem _ (List.mem_cons_of_mem _ hS.1)))))) rfl ?_
            refine r_astore [(8, .ref aC), (7, .int (bI (okA cl tr q.1 e 0))), (6, .int (nI e)), (5, .int (nxV (ff (okB (rwK cl 0) (rwK cl 1) (rwK cl 2) (rwK cl 3) cl.length tr q.1) (ne - (e + 1)) (e + 1)))), (4, .int (nI k)), (3, .ref q2), (2, .ref q1), (1, .ref l0), (0, .ref s)] dX10_order_67 (by decide) rfl ?_
            refine r_aload 0 dX10_order_69 rfl ?_
            refine r_alenm (t := 4) (v := (nI ca.length)) dX10_order_71 rfl (List.mem_cons_of_mem _ (List.mem_cons_of_mem _ (List.mem_cons_of_mem _ (List.mem_cons_of_mem _ (List.mem_cons_of_mem _ (List.mem_cons_of_mem _ hS.2.1)))))) (by rfl) ?_
            refine r_istore [(9, .int (nI ca.length)), (8, .ref aC), (7, .int (bI (okA cl tr q.1 e 0))), (6, .int (nI e)), (5, .int (nxV (ff (okB (rwK cl 0) (rwK cl 1) (rwK cl 2) (rwK cl 3) cl.length tr q.1) (ne - (e + 1)) (e + 1)))), (4, .int (nI k)), (3, .ref q2), (2, .ref q1), (1, .ref l0), (0, .ref s)] dX10_order_72 (by decide) rfl ?_
            refine r_iconst (v := (0 : Int32)) dX10_order_74 (by decide) ?_
            refine r_top (w := .int (nI 0)) (rfl) ?_
            refine r_istore [(10, .int (nI 0)), (9, .int (nI ca.length)), (8, .ref aC), (7, .int (bI (okA cl tr q.1 e 0))), (6, .int (nI e)), (5, .int (nxV (ff (okB (rwK cl 0) (rwK cl 1) (rwK cl 2) (rwK cl 3) cl.length tr q.1) (ne - (e + 1)) (e + 1)))), (4, .int (nI k)), (3, .ref q2), (2, .ref q1), (1, .ref l0), (0, .ref s)] dX10_order_75 (by decide) rfl ?_
            exact L3 ca.length 0 (by omega)
          · have e2 : q.1.testBit e = false := dbF_0.mp h0
            refine r_iconst (v := (1 : Int32)) dX10_order_56 (by decide) ?_
            refine r_goto (tgt := 61) dX10_order_57 (by decide) ?_
            refine r_top (w := .int (bI (okA cl tr q.1 e 0))) (by rw [okA, e2]; rfl) ?_
            refine r_istore [(7, .int (bI (okA cl tr q.1 e 0))), (6, .int (nI e)), (5, .int (nxV (ff (okB (rwK cl 0) (rwK cl 1) (rwK cl 2) (rwK cl 3) cl.length tr q.1) (ne - (e + 1)) (e + 1)))), (4, .int (nI k)), (3, .ref q2), (2, .ref q1), (1, .ref l0), (0, .ref s)] dX10_order_61 (by decide) rfl ?_
            refine r_aload_n 7 dX10_order_63 rfl ?_
            refine r_getm (v := .ref aC) (ci := 10) (fs := [.int (nI ne), .int (nI nt), .ref aC, .ref aD, .ref aO, .ref aT, .int ev, .int cr]) dX10_order_64 fl_X10_9 (List.mem_cons_of_mem _ (List.mem_cons_of_mem _ (List.mem_cons_of_mem _ (List.mem_cons_of_mem _ (List.mem_cons_of_mem _ (List.mem_cons_of_mem _ hS.1)))))) rfl ?_
            refine r_astore [(8, .ref aC), (7, .int (bI (okA cl tr q.1 e 0))), (6, .int (nI e)), (5, .int (nxV (ff (okB (rwK cl 0) (rwK cl 1) (rwK cl 2) (rwK cl 3) cl.length tr q.1) (ne - (e + 1)) (e + 1)))), (4, .int (nI k)), (3, .ref q2), (2, .ref q1), (1, .ref l0), (0, .ref s)] dX10_order_67 (by decide) rfl ?_
            refine r_aload 0 dX10_order_69 rfl ?_
            refine r_alenm (t := 4) (v := (nI ca.length)) dX10_order_71 rfl (List.mem_cons_of_mem _ (List.mem_cons_of_mem _ (List.mem_cons_of_mem _ (List.mem_cons_of_mem _ (List.mem_cons_of_mem _ (List.mem_cons_of_mem _ hS.2.1)))))) (by rfl) ?_
            refine r_istore [(9, .int (nI ca.length)), (8, .ref aC), (7, .int (bI (okA cl tr q.1 e 0))), (6, .int (nI e)), (5, .int (nxV (ff (okB (rwK cl 0) (rwK cl 1) (rwK cl 2) (rwK cl 3) cl.length tr q.1) (ne - (e + 1)) (e + 1)))), (4, .int (nI k)), (3, .ref q2), (2, .ref q1), (1, .ref l0), (0, .ref s)] dX10_order_72 (by decide) rfl ?_
            refine r_iconst (v := (0 : Int32)) dX10_order_74 (by decide) ?_
            refine r_top (w := .int (nI 0)) (rfl) ?_
            refine r_istore [(10, .int (nI 0)), (9, .int (nI ca.length)), (8, .ref aC), (7, .int (bI (okA cl tr q.1 e 0))), (6, .int (nI e)), (5, .int (nxV (ff (okB (rwK cl 0) (rwK cl 1) (rwK cl 2) (rwK cl 3) cl.length tr q.1) (ne - (e + 1)) (e + 1)))), (4, .int (nI k)), (3, .ref q2), (2, .ref q1), (1, .ref l0), (0, .ref s)] dX10_order_75 (by decide) rfl ?_
            exact L3 ca.length 0 (by omega)
      exact L2 ne (Nat.le_refl _)
  have K := L ne 0 (by omega) (0, fun _ => 0) rfl
  rw [← mkF_0, ← dbF_zero] at K
  exact K
set_option maxRecDepth 20000 in
set_option maxHeartbeats 4000000 in
theorem cl_with {g : GG} {t : va_W} {aC v : Nat} {ca : List Nat} {z0 : vp_A} (hC : (aC, qA g 4 ca.length (fun k => ca[k]?)) ∈ t) (hR : ∀ k, k < ca.length → ∃ z : vp_A, (ca.getD k 0, .inl (gC g 0, z)) ∈ t) (hv : (v, .inl (gC g 0, z0)) ∈ t) (hl : ca.length ≤ 40) : Ct g mX10_with 1 1 41 [.ref aC, .ref v] t (Dq (fun (z : Nat) => some (.ref z)) (fun z => (z, qA g 4 (ca ++ [v]).length (fun k => (ca ++ [v])[k]?)) :: t) (fun z => True)) := by
  refine Ct.ofR (by decide +kernel) rfl (Nat.le_of_ble_eq_true rfl) ?_
  show R g mX10_with 1 1 41 0 [(0, .ref aC), (1, .ref v)] [] t _
  refine r_aload_n 0 dX10_with_0 rfl ?_
  refine r_alenm (t := 4) (v := (nI ca.length)) dX10_with_1 rfl hC (by rfl) ?_
  refine r_iconst (v := (1 : Int32)) dX10_with_2 (by decide) ?_
  refine r_iadd dX10_with_3 ?_
  refine r_room (x2 := 0 + 1) (y2 := (40 - ca.length) + (ca.length + 1)) (by omega) (by omega) ?_
  refine r_top (w := .int (nI (ca.length + 1))) (by rw [← nI_1]) ?_
  refine r_newA (x := 0) (y := (40 - ca.length)) (N := ca.length + 1) dX10_with_4 kk_924 (nI_pos (by omega)) (nI_clamp (by omega)) (by omega) (fun q3 => ?_)
  refine r_astore_n [(2, .ref q3), (0, .ref aC), (1, .ref v)] dX10_with_7 (by decide) rfl ?_
  refine r_iconst (v := (0 : Int32)) dX10_with_8 (by decide) ?_
  refine r_top (w := .int (nI 0)) (rfl) ?_
  refine r_istore_n [(3, .int (nI 0)), (2, .ref q3), (0, .ref aC), (1, .ref v)] dX10_with_9 (by decide) rfl ?_
  have L : ∀ m k, m + k = ca.length → R g mX10_with 1 0 (40 - ca.length) 10 [(3, .int (nI k)), (2, .ref q3), (0, .ref aC), (1, .ref v)] [] ((q3, qA g 4 (ca.length + 1) (fun j => if j < k then ca[j]? else none)) :: t) (Dq (fun (z : Nat) => some (.ref z)) (fun z => (z, qA g 4 (ca ++ [v]).length (fun k => (ca ++ [v])[k]?)) :: t) (fun z => True)) := by
    intro m
    induction m with
    | zero =>
      intro k hk
      have ek : k = ca.length := by omega
      subst ek
      refine r_iload_n 0 dX10_with_10 rfl ?_
      refine r_aload_n 2 dX10_with_11 rfl ?_
      refine r_alenm (t := 4) (v := (nI ca.length)) dX10_with_12 rfl (List.mem_cons_of_mem _ hC) (by rfl) ?_
      refine r_icmp_ge (tgt := 28) dX10_with_13 (by decide) (fun _ => ?_) (fun hc => absurd (nI_le (Nat.le_refl _) (by omega)) hc)
      refine r_aload_n 1 dX10_with_28 rfl ?_
      refine r_aload_n 2 dX10_with_29 rfl ?_
      refine r_alenm (t := 4) (v := (nI ca.length)) dX10_with_30 rfl (List.mem_cons_of_mem _ hC) (by rfl) ?_
      refine r_aload_n 3 dX10_with_31 rfl ?_
      obtain ⟨jv, hjv⟩ := List.getElem?_of_mem (hv)
      refine r_astA (z := _) (ws2 := ((q3, qA g 4 (ca.length + 1) (fun k => (ca ++ [v])[k]?)) :: t)) 0 (jv + 1) 0 dX10_with_32 rfl rfl (fun C h => by cases h) (fun U H h => h.2.2.2.2.1.2.2.2.2.2.1) rfl (by rw [List.getElem?_cons_succ]; exact hjv) (ib_nI (by omega) (by omega)) (by rw [nI_clamp (by omega), raF_app]; rfl) ?_
      refine r_aload_n 1 dX10_with_33 rfl ?_
      refine r_aret dX10_with_34 rfl rfl (Or.inr ⟨_, rfl⟩) ?_
      exact Dq.mk q3 rfl (by rw [List.length_append]; rfl) trivial
    | succ m ih =>
      intro k hk
      have hk2 : k < ca.length := by omega
      obtain ⟨zk, hzk⟩ := hR k hk2
      refine r_iload_n 0 dX10_with_10 rfl ?_
      refine r_aload_n 2 dX10_with_11 rfl ?_
      refine r_alenm (t := 4) (v := (nI ca.length)) dX10_with_12 rfl (List.mem_cons_of_mem _ hC) (by rfl) ?_
      refine r_icmp_ge (tgt := 28) dX10_with_13 (by decide) (fun hc => absurd hc (nI_ge (by omega) (by omega))) (fun _ => ?_)
      refine r_aload_n 1 dX10_with_16 rfl ?_
      refine r_iload_n 0 dX10_with_17 rfl ?_
      refine r_aload_n 2 dX10_with_18 rfl ?_
      refine r_iload_n 0 dX10_with_19 rfl ?_
      refine r_aaldm (t := 4) (n := ca.length) (f := (fun k => ca[k]?)) (v := .ref (ca.getD k 0)) dX10_with_20 rfl rfl (List.mem_cons_of_mem _ hC) (ib_nI hk2 (by omega)) (by rw [nI_clamp (by omega), List.getD_eq_getElem?_getD, List.getElem?_eq_getElem hk2]; rfl) ?_
      obtain ⟨jv, hjv⟩ := List.getElem?_of_mem (hzk)
      refine r_astA (z := _) (ws2 := ((q3, qA g 4 (ca.length + 1) (fun j => if j < (k + 1) then ca[j]? else none)) :: t)) 0 (jv + 1) 0 dX10_with_21 rfl rfl (fun C h => by cases h) (fun U H h => h.2.2.2.2.1.2.2.2.2.2.1) rfl (by rw [List.getElem?_cons_succ]; exact hjv) (ib_nI (by omega) (by omega)) (by rw [nI_clamp (by omega), raF_up hk2] <;> rfl) ?_
      refine r_iinc (v2 := (nI (k + 1))) 0 [(3, .int (nI (k + 1))), (2, .ref q3), (0, .ref aC), (1, .ref v)] dX10_with_22 rfl (nI_1 k) (by decide) rfl ?_
      refine r_goto (tgt := 10) dX10_with_25 (by decide) ?_
      refine r_ls [0, 1, 2, 3] (ls2 := [(3, .int (nI (k + 1))), (2, .ref q3), (0, .ref aC), (1, .ref v)]) rfl ?_
      exact ih (k + 1) (by omega)
  rw [raF_0 ca]
  exact L ca.length 0 (by omega)
set_option maxRecDepth 20000 in
set_option maxHeartbeats 4000000 in
theorem cl_newSim {g : GG} {t : va_W} {s : Nat}  : Ct g mX10_init 2 5 20 [.ref s] ((s, .inr (10, [.int (0 : Int32), .int (0 : Int32), .null, .null, .null, .null, .int (0 : Int32), .int (0 : Int32)])) :: t) (Dq (fun (z : Nat × Nat × Nat × Nat) => none) (fun z => (z.1, qA g 4 ([] : List Nat).length (fun k => ([] : List Nat)[k]?)) :: (z.2.1, zA g 10 (dbF 0)) :: (z.2.2.1, qA g 4 ([] : List Nat).length (fun k => ([] : List Nat)[k]?)) :: (z.2.2.2, qA g 6 0 (fun _ => none)) :: (s, .inr (10, [.int (0 : Int32), .int (0 : Int32), .ref z.1, .ref z.2.1, .ref z.2.2.1, .ref z.2.2.2, .int (0 : Int32), .int (0 : Int32)])) :: t) (fun z => True)) := by
  refine Ct.ofR (by decide +kernel) rfl (Nat.le_of_ble_eq_true rfl) ?_
  show R g mX10_init 2 5 20 0 [(0, .ref s)] [] ((s, .inr (10, [.int (0 : Int32), .int (0 : Int32), .null, .null, .null, .null, .int (0 : Int32), .int (0 : Int32)])) :: t) _
  refine r_aload_n 0 dX10_init_0 rfl ?_
  refine r_objInit dX10_init_1 ko_X10_1 (Nat.le_of_ble_eq_true rfl) (by decide) ?_
  refine r_aload_n 0 dX10_init_4 rfl ?_
  refine r_iconst (v := (0 : Int32)) dX10_init_5 (by decide) ?_
  refine r_newA (x := 4) (y := 20) (N := 0) dX10_init_6 kk_924 (by decide) (by decide) (by decide) (fun q4 => ?_)
  refine r_putf (ws2 := ((q4, qA g 4 0 (fun _ => none)) :: ((s, .inr (10, [.int (0 : Int32), .int (0 : Int32), .ref q4, .null, .null, .null, .int (0 : Int32), .int (0 : Int32)])) :: t))) 1 dX10_init_9 fl_X10_9 rfl (Nat.le_of_ble_eq_true rfl) rfl rfl rfl ?_
  refine r_aload_n 0 dX10_init_12 rfl ?_
  refine r_bipush (v := (10 : Int32)) dX10_init_13 (by decide) ?_
  refine r_newZ (x := 3) (y := 10) (N := 10) dX10_init_15 kk_954 (by decide) (by decide) (by decide) (fun q5 => ?_)
  refine r_putf (ws2 := ((q5, zA g 10 (fun _ => 0)) :: ((q4, qA g 4 0 (fun _ => none)) :: ((s, .inr (10, [.int (0 : Int32), .int (0 : Int32), .ref q4, .ref q5, .null, .null, .int (0 : Int32), .int (0 : Int32)])) :: t)))) 2 dX10_init_17 fl_X10_15 rfl (Nat.le_of_ble_eq_true rfl) rfl rfl rfl ?_
  refine r_aload_n 0 dX10_init_20 rfl ?_
  refine r_iconst (v := (0 : Int32)) dX10_init_21 (by decide) ?_
  refine r_newA (x := 2) (y := 10) (N := 0) dX10_init_22 kk_924 (by decide) (by decide) (by decide) (fun q6 => ?_)
  refine r_putf (ws2 := ((q6, qA g 4 0 (fun _ => none)) :: ((q5, zA g 10 (fun _ => 0)) :: ((q4, qA g 4 0 (fun _ => none)) :: ((s, .inr (10, [.int (0 : Int32), .int (0 : Int32), .ref q4, .ref q5, .ref q6, .null, .int (0 : Int32), .int (0 : Int32)])) :: t))))) 3 dX10_init_25 fl_X10_19 rfl (Nat.le_of_ble_eq_true rfl) rfl rfl rfl ?_
  refine r_aload_n 0 dX10_init_28 rfl ?_
  refine r_iconst (v := (0 : Int32)) dX10_init_29 (by decide) ?_
  refine r_newT (x := 1) (y := 10) (N := 0) dX10_init_30 kk_1288 (by decide) (by decide) (by decide) (fun q7 => ?_)
  refine r_putf (ws2 := ((q7, qA g 6 0 (fun _ => none)) :: ((q6, qA g 4 0 (fun _ => none)) :: ((q5, zA g 10 (fun _ => 0)) :: ((q4, qA g 4 0 (fun _ => none)) :: ((s, .inr (10, [.int (0 : Int32), .int (0 : Int32), .ref q4, .ref q5, .ref q6, .ref q7, .int (0 : Int32), .int (0 : Int32)])) :: t)))))) 4 dX10_init_33 fl_X10_24 rfl (Nat.le_of_ble_eq_true rfl) rfl rfl rfl ?_
  refine r_seg (ws2 := ((q4, qA g 4 0 (fun _ => none)) :: ((q5, zA g 10 (fun _ => 0)) :: ((q6, qA g 4 0 (fun _ => none)) :: ((q7, qA g 6 0 (fun _ => none)) :: ((s, .inr (10, [.int (0 : Int32), .int (0 : Int32), .ref q4, .ref q5, .ref q6, .ref q7, .int (0 : Int32), .int (0 : Int32)])) :: t)))))) [[(q7, qA g 6 0 (fun _ => none))], [(q6, qA g 4 0 (fun _ => none))], [(q5, zA g 10 (fun _ => 0))], [(q4, qA g 4 0 (fun _ => none))], [(s, .inr (10, [.int (0 : Int32), .int (0 : Int32), .ref q4, .ref q5, .ref q6, .ref q7, .int (0 : Int32), .int (0 : Int32)]))], t] [3, 2, 1, 0, 4, 5] rfl rfl rfl ?_
  refine r_vret dX10_init_36 rfl ?_
  refine Dq.mk (q4, q5, q6, q7) rfl ?_ trivial
  rw [← dbF_zero]
  rfl
