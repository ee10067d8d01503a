set_option maxRecDepth 20000 in
set_option maxHeartbeats 4000000 in
theorem cl_newTree {g : GG} {t : va_W} {a : Nat}  : Ct g mX11_init 1 0 0 [.ref a] ((a, .inr (11, [.int (0 : Int32), .int (0 : Int32), .int (0 : Int32), .null, .null])) :: t) (Dv none ((a, .inr (11, [.int (0 : Int32), .int (0 : Int32), .int (0 : Int32), .null, .null])) :: t)) := by
  refine Ct.ofR (by decide +kernel) rfl (Nat.le_of_ble_eq_true rfl) ?_
  show R g mX11_init 1 0 0 0 [(0, .ref a)] [] ((a, .inr (11, [.int (0 : Int32), .int (0 : Int32), .int (0 : Int32), .null, .null])) :: t) _
  refine r_aload_n 0 dX11_init_0 rfl ?_
  refine r_objInit dX11_init_1 ko_X11_1 (Nat.le_of_ble_eq_true rfl) (by decide) ?_
  refine r_vret dX11_init_4 rfl ?_
  exact ⟨rfl, rfl⟩
set_option maxRecDepth 20000 in
set_option maxHeartbeats 8000000 in
theorem cl_sum {g : GG} {ne nt : Nat} (h0 : 0 < ne) (hne : ne ≤ 8) (h1 : 0 < nt) (hnt : nt ≤ 10) : ∀ k, 1 ≤ k → ∀ (deep : Nat) (x : Int32) (t : va_W), 3 ≤ k + deep → deep + k ≤ 10 → Ct g mL_sum (k + 3) (2 ^ k - 1) (5 * 2 ^ k - 5) [.int x, .int (nI ne), .int (nI nt), .int (nI deep)] t (Dq (fun (z : TT k × va_W) => some (.ref (tA k z.1))) (fun z => z.2 ++ t) (fun z => TM g z.2 k z.1 ∧ TE ne nt k z.1 ∧ tkn k z.1 ≤ sB deep))
  | 0, h => absurd h (by decide)
  | k + 1, hk1 => fun deep x t hkd hdp => by
    refine Ct.ofR (by decide +kernel) rfl (Nat.le_of_ble_eq_true rfl) ?_
    have hp : 2 ^ (k + 1) = 2 ^ k + 2 ^ k := by rw [Nat.pow_succ]; omega
    have hp1 : 0 < 2 ^ k := Nat.two_pow_pos k
    show R g mL_sum (k + 1 + 3) (2 ^ (k + 1) - 1) (5 * 2 ^ (k + 1) - 5) 0 [(0, .int x), (1, .int (nI ne)), (2, .int (nI nt)), (3, .int (nI deep))] [] t (Dq (fun (z : TT (k + 1) × va_W) => some (.ref (tA (k + 1) z.1))) (fun z => z.2 ++ t) (fun z => TM g z.2 (k + 1) z.1 ∧ TE ne nt (k + 1) z.1 ∧ tkn (k + 1) z.1 ≤ sB deep))
    refine r_room (x2 := ((2 ^ k - 1 + (2 ^ k - 1)) + 1)) (y2 := ((5 * 2 ^ k - 5 + (5 * 2 ^ k - 5)) + 5)) (by omega) (by omega) ?_
    refine r_new (N := 5) (x := ((2 ^ k - 1 + (2 ^ k - 1)) + 0)) (y := ((5 * 2 ^ k - 5 + (5 * 2 ^ k - 5)) + 0)) dL_sum_0 nl_L_32 (fun q1 => ?_)
    refine r_dup dL_sum_3 rfl ?_
    refine k_J (x := ((2 ^ k - 1 + (2 ^ k - 1)) + 0)) (y := ((5 * 2 ^ k - 5 + (5 * 2 ^ k - 5)) + 0)) (rest := [.ref q1]) dL_sum_4 kj_L_34 ((cl_newTree (a := q1)).dq) rfl rfl (Nat.le_of_ble_eq_true rfl) (by omega) (by decide) ?_
    rintro ⟨⟩ -
    show R g mL_sum (k + 1 + 3) ((2 ^ k - 1 + (2 ^ k - 1)) + 0) ((5 * 2 ^ k - 5 + (5 * 2 ^ k - 5)) + 0) 7 [(0, .int x), (1, .int (nI ne)), (2, .int (nI nt)), (3, .int (nI deep))] [.ref q1] ((q1, .inr (11, [.int (0 : Int32), .int (0 : Int32), .int (0 : Int32), .null, .null])) :: t) (Dq (fun (z : TT (k + 1) × va_W) => some (.ref (tA (k + 1) z.1))) (fun z => z.2 ++ t) (fun z => TM g z.2 (k + 1) z.1 ∧ TE ne nt (k + 1) z.1 ∧ tkn (k + 1) z.1 ≤ sB deep))
    show R g mL_sum (k + 1 + 3) (2 ^ k - 1 + (2 ^ k - 1)) (5 * 2 ^ k - 5 + (5 * 2 ^ k - 5)) 7 [(0, .int x), (1, .int (nI ne)), (2, .int (nI nt)), (3, .int (nI deep))] [.ref q1] ((q1, .inr (11, [.int (0 : Int32), .int (0 : Int32), .int (0 : Int32), .null, .null])) :: t) (Dq (fun (z : TT (k + 1) × va_W) => some (.ref (tA (k + 1) z.1))) (fun z => z.2 ++ t) (fun z => TM g z.2 (k + 1) z.1 ∧ TE ne nt (k + 1) z.1 ∧ tkn (k + 1) z.1 ≤ sB deep))
    refine r_astore [(4, .ref q1), (0, .int x), (1, .int (nI ne)), (2, .int (nI nt)), (3, .int (nI deep))] dL_sum_7 (by decide) rfl ?_
    refine r_iload_n 1 dL_sum_9 rfl ?_
    refine r_bipush (v := (19 : Int32)) dL_sum_10 (by decide) ?_
    refine r_top (w := .int (nI 19)) (rfl) ?_
    refine k_S (x := (2 ^ k - 1 + (2 ^ k - 1))) (y := (5 * 2 ^ k - 5 + (5 * 2 ^ k - 5))) (rest := []) dL_sum_12 ks_L_35 ((cl_below (v := x) (n := 19) (by decide) (by decide)).dq) rfl rfl (Nat.le_of_ble_eq_true rfl) (by omega) (by decide) ?_
    rintro ⟨⟩ -
    show R g mL_sum (k + 1 + 3) (2 ^ k - 1 + (2 ^ k - 1)) (5 * 2 ^ k - 5 + (5 * 2 ^ k - 5)) 15 [(4, .ref q1), (0, .int x), (1, .int (nI ne)), (2, .int (nI nt)), (3, .int (nI deep))] [.int (nI (bw x 19))] ((q1, .inr (11, [.int (0 : Int32), .int (0 : Int32), .int (0 : Int32), .null, .null])) :: t) (Dq (fun (z : TT (k + 1) × va_W) => some (.ref (tA (k + 1) z.1))) (fun z => z.2 ++ t) (fun z => TM g z.2 (k + 1) z.1 ∧ TE ne nt (k + 1) z.1 ∧ tkn (k + 1) z.1 ≤ sB deep))
    have hv := bw_lt x (n := 19) (by decide)
    generalize bw x 19 = vv at hv ⊢
    show R g mL_sum (k + 1 + 3) (2 ^ k - 1 + (2 ^ k - 1)) (5 * 2 ^ k - 5 + (5 * 2 ^ k - 5)) 15 [(4, .ref q1), (0, .int x), (1, .int (nI ne)), (2, .int (nI nt)), (3, .int (nI deep))] [.int (nI vv)] ((q1, .inr (11, [.int (0 : Int32), .int (0 : Int32), .int (0 : Int32), .null, .null])) :: t) (Dq (fun (z : TT (k + 1) × va_W) => some (.ref (tA (k + 1) z.1))) (fun z => z.2 ++ t) (fun z => TM g z.2 (k + 1) z.1 ∧ TE ne nt (k + 1) z.1 ∧ tkn (k + 1) z.1 ≤ sB deep))
    refine r_istore [(5, .int (nI vv)), (4, .ref q1), (0, .int x), (1, .int (nI ne)), (2, .int (nI nt)), (3, .int (nI deep))] dL_sum_15 (by decide) rfl ?_
    refine r_aload 1 dL_sum_17 rfl ?_
    have J65 : ∀ kd : Nat, kd ≤ 5 ∨ (6 ≤ kd ∧ kd ≤ 12 ∧ deep ≤ 1) → R g mL_sum (k + 1 + 3) (2 ^ k - 1 + (2 ^ k - 1)) (5 * 2 ^ k - 5 + (5 * 2 ^ k - 5)) 65 [(5, .int (nI vv)), (4, .ref q1), (0, .int x), (1, .int (nI ne)), (2, .int (nI nt)), (3, .int (nI deep))] [.int (nI kd), .ref q1] ((q1, .inr (11, [.int (0 : Int32), .int (0 : Int32), .int (0 : Int32), .null, .null])) :: t) (Dq (fun (z : TT (k + 1) × va_W) => some (.ref (tA (k + 1) z.1))) (fun z => z.2 ++ t) (fun z => TM g z.2 (k + 1) z.1 ∧ TE ne nt (k + 1) z.1 ∧ tkn (k + 1) z.1 ≤ sB deep)) := by
      intro kd hkd
      refine r_putf (ws2 := ((q1, .inr (11, [.int (nI kd), .int (0 : Int32), .int (0 : Int32), .null, .null])) :: t)) 0 dL_sum_65 fl_L_41 rfl (Nat.le_of_ble_eq_true rfl) rfl rfl rfl ?_
      refine r_aload 1 dL_sum_68 rfl ?_
      refine r_aload 1 dL_sum_70 rfl ?_
      refine r_getf (v := .int (nI kd)) 0 dL_sum_72 fl_L_41 rfl rfl ?_
      have J126 : ∀ m : Nat, (kd = 0 ∧ m < 1000000) ∨ (kd = 5 ∧ m < ne) ∨ (¬ kd = 0 ∧ ¬ kd = 5 ∧ m < nt) → R g mL_sum (k + 1 + 3) (2 ^ k - 1 + (2 ^ k - 1)) (5 * 2 ^ k - 5 + (5 * 2 ^ k - 5)) 126 [(5, .int (nI vv)), (4, .ref q1), (0, .int x), (1, .int (nI ne)), (2, .int (nI nt)), (3, .int (nI deep))] [.int (nI m), .ref q1] ((q1, .inr (11, [.int (nI kd), .int (0 : Int32), .int (0 : Int32), .null, .null])) :: t) (Dq (fun (z : TT (k + 1) × va_W) => some (.ref (tA (k + 1) z.1))) (fun z => z.2 ++ t) (fun z => TM g z.2 (k + 1) z.1 ∧ TE ne nt (k + 1) z.1 ∧ tkn (k + 1) z.1 ≤ sB deep)) := by
        intro m hm
        obtain ⟨o9, ho9⟩ : ∃ o9 : Nat, o9 = 0 := ⟨0, rfl⟩
        refine r_putf (ws2 := ((q1, .inr (11, [.int (nI kd), .int (nI m), .int (0 : Int32), .null, .null])) :: t)) 0 dL_sum_126 fl_L_46 rfl (Nat.le_of_ble_eq_true rfl) rfl rfl rfl ?_
        have e9 : (.int (0 : Int32) : Value) = .int (nI o9) := by rw [ho9]; rfl
        rw [e9]
        show R g mL_sum (k + 1 + 3) (2 ^ k - 1 + (2 ^ k - 1)) (5 * 2 ^ k - 5 + (5 * 2 ^ k - 5)) 129 [(5, .int (nI vv)), (4, .ref q1), (0, .int x), (1, .int (nI ne)), (2, .int (nI nt)), (3, .int (nI deep))] [] ((q1, .inr (11, [.int (nI kd), .int (nI m), .int (nI o9), .null, .null])) :: t) (Dq (fun (z : TT (k + 1) × va_W) => some (.ref (tA (k + 1) z.1))) (fun z => z.2 ++ t) (fun z => TM g z.2 (k + 1) z.1 ∧ TE ne nt (k + 1) z.1 ∧ tkn (k + 1) z.1 ≤ sB deep))
        refine r_aload 1 dL_sum_129 rfl ?_
        refine r_getf (v := .int (nI kd)) 0 dL_sum_131 fl_L_41 rfl rfl ?_
        refine r_bipush (v := (6 : Int32)) dL_sum_134 (by decide) ?_
        refine r_icmp_lt (tgt := 157) dL_sum_136 (by decide) (fun c1 => ?_) (fun c1 => ?_)
        · have k6 : kd < 6 := (nI_ltI (a := kd) (b := 6) (by omega) (by decide)).mp c1
          refine r_aload 1 dL_sum_157 rfl ?_
          refine r_getf (v := .int (nI kd)) 0 dL_sum_159 fl_L_41 rfl rfl ?_
          refine r_bipush (v := (7 : Int32)) dL_sum_162 (by decide) ?_
          refine r_icmp_lt (tgt := 185) dL_sum_164 (by decide) (fun _ => ?_) (fun hc => absurd ((nI_ltI (a := kd) (b := 7) (by omega) (by decide)).mpr (by omega)) hc)
          refine r_aload 1 dL_sum_185 rfl ?_
          refine r_aret dL_sum_187 rfl rfl (Or.inr ⟨_, rfl⟩) ?_
          exact Dq.mk (((q1, kd, m, o9), none, none), ((q1, .inr (11, [.int (nI kd), .int (nI m), .int (nI o9), .null, .null])) :: [])) rfl rfl ⟨TM.leaf List.mem_cons_self, TE.leaf k6 hm, sB_lo deep⟩
        · have k6 : 6 ≤ kd := by have : ¬ _ := fun h => c1 ((nI_ltI (a := kd) (b := 6) (by omega) (by decide)).mpr h); omega
          refine r_aload 1 dL_sum_139 rfl ?_
          refine r_iload_n 2 dL_sum_141 rfl ?_
          refine r_iconst (v := (3 : Int32)) dL_sum_142 (by decide) ?_
          refine r_imul dL_sum_143 ?_
          refine r_iconst (v := (1 : Int32)) dL_sum_144 (by decide) ?_
          refine r_iadd dL_sum_145 ?_
          refine r_iload_n 3 dL_sum_146 rfl ?_
          refine r_iload_n 4 dL_sum_147 rfl ?_
          refine r_iload_n 5 dL_sum_148 rfl ?_
          refine r_iconst (v := (1 : Int32)) dL_sum_149 (by decide) ?_
          refine r_iadd dL_sum_150 ?_
          refine r_top (w := .int (nI (deep + 1))) (by rw [nI_1]) ?_
          refine r_room (x2 := (2 ^ k - 1) + (2 ^ k - 1)) (y2 := (5 * 2 ^ k - 5) + (5 * 2 ^ k - 5)) (by omega) (by omega) ?_
          refine k_S (x := (2 ^ k - 1)) (y := (5 * 2 ^ k - 5)) (rest := [.ref q1]) dL_sum_151 ks_L_49 (cl_sum h0 hne h1 hnt k (by omega) (deep + 1) ((x * (3 : Int32)) + (1 : Int32)) _ (by omega) (by omega)) rfl rfl (Nat.le_of_ble_eq_true rfl) (by omega) (by decide) ?_
          rintro za hza
          refine r_seg (ws2 := ((q1, .inr (11, [.int (nI kd), .int (nI m), .int (nI o9), .null, .null])) :: (za.2 ++ t))) [za.2, [(q1, .inr (11, [.int (nI kd), .int (nI m), .int (nI o9), .null, .null]))], t] [1, 0, 2] rfl rfl rfl ?_
          show R g mL_sum (k + 1 + 3) (2 ^ k - 1) (5 * 2 ^ k - 5) 154 [(5, .int (nI vv)), (4, .ref q1), (0, .int x), (1, .int (nI ne)), (2, .int (nI nt)), (3, .int (nI deep))] [.ref (tA k za.1), .ref q1] ((q1, .inr (11, [.int (nI kd), .int (nI m), .int (nI o9), .null, .null])) :: (za.2 ++ t)) (Dq (fun (z : TT (k + 1) × va_W) => some (.ref (tA (k + 1) z.1))) (fun z => z.2 ++ t) (fun z => TM g z.2 (k + 1) z.1 ∧ TE ne nt (k + 1) z.1 ∧ tkn (k + 1) z.1 ≤ sB deep))
          refine r_putf (ws2 := ((q1, .inr (11, [.int (nI kd), .int (nI m), .int (nI o9), .ref (tA k za.1), .null])) :: (za.2 ++ t))) 0 dL_sum_154 fl_L_53 rfl (Nat.le_of_ble_eq_true rfl) rfl rfl rfl ?_
          refine r_aload 1 dL_sum_157 rfl ?_
          refine r_getf (v := .int (nI kd)) 0 dL_sum_159 fl_L_41 rfl rfl ?_
          refine r_bipush (v := (7 : Int32)) dL_sum_162 (by decide) ?_
          refine r_icmp_lt (tgt := 185) dL_sum_164 (by decide) (fun c2 => ?_) (fun c2 => ?_)
          · have k7 : kd < 7 := (nI_ltI (a := kd) (b := 7) (by omega) (by decide)).mp c2
            have k8 : kd = 6 := by omega
            subst k8
            refine r_aload 1 dL_sum_185 rfl ?_
            refine r_aret dL_sum_187 rfl rfl (Or.inr ⟨_, rfl⟩) ?_
            exact Dq.mk (((q1, 6, m, o9), some za.1, none), ((q1, .inr (11, [.int (nI 6), .int (nI m), .int (nI o9), .ref (tA k za.1), .null])) :: za.2)) rfl rfl ⟨TM.one List.mem_cons_self (TM.mono (fun p hp => List.mem_cons_of_mem _ hp) k _ hza.1), TE.one hza.2.1, Nat.le_trans (Nat.le_of_eq (tkn_1 (by decide))) (sB_s (by omega) hza.2.2 (Nat.zero_le _))⟩
          · have k7 : 7 ≤ kd := by have : ¬ _ := fun h => c2 ((nI_ltI (a := kd) (b := 7) (by omega) (by decide)).mpr h); omega
            refine r_aload 1 dL_sum_167 rfl ?_
            refine r_iload_n 2 dL_sum_169 rfl ?_
            refine r_iconst (v := (5 : Int32)) dL_sum_170 (by decide) ?_
            refine r_imul dL_sum_171 ?_
            refine r_iconst (v := (2 : Int32)) dL_sum_172 (by decide) ?_
            refine r_iadd dL_sum_173 ?_
            refine r_iload_n 3 dL_sum_174 rfl ?_
            refine r_iload_n 4 dL_sum_175 rfl ?_
            refine r_iload_n 5 dL_sum_176 rfl ?_
            refine r_iconst (v := (1 : Int32)) dL_sum_177 (by decide) ?_
            refine r_iadd dL_sum_178 ?_
            refine r_top (w := .int (nI (deep + 1))) (by rw [nI_1]) ?_
            refine r_room (x2 := 0 + (2 ^ k - 1)) (y2 := 0 + (5 * 2 ^ k - 5)) (by omega) (by omega) ?_
            refine k_S (x := 0) (y := 0) (rest := [.ref q1]) dL_sum_179 ks_L_49 (cl_sum h0 hne h1 hnt k (by omega) (deep + 1) ((x * (5 : Int32)) + (2 : Int32)) _ (by omega) (by omega)) rfl rfl (Nat.le_of_ble_eq_true rfl) (by omega) (by decide) ?_
            rintro zb hzb
            refine r_seg (ws2 := ((q1, .inr (11, [.int (nI kd), .int (nI m), .int (nI o9), .ref (tA k za.1), .null])) :: (zb.2 ++ (za.2 ++ t)))) [zb.2, [(q1, .inr (11, [.int (nI kd), .int (nI m), .int (nI o9), .ref (tA k za.1), .null]))], za.2, t] [1, 0, 2, 3] rfl rfl rfl ?_
            show R g mL_sum (k + 1 + 3) 0 0 182 [(5, .int (nI vv)), (4, .ref q1), (0, .int x), (1, .int (nI ne)), (2, .int (nI nt)), (3, .int (nI deep))] [.ref (tA k zb.1), .ref q1] ((q1, .inr (11, [.int (nI kd), .int (nI m), .int (nI o9), .ref (tA k za.1), .null])) :: (zb.2 ++ (za.2 ++ t))) (Dq (fun (z : TT (k + 1) × va_W) => some (.ref (tA (k + 1) z.1))) (fun z => z.2 ++ t) (fun z => TM g z.2 (k + 1) z.1 ∧ TE ne nt (k + 1) z.1 ∧ tkn (k + 1) z.1 ≤ sB deep))
            refine r_putf (ws2 := ((q1, .inr (11, [.int (nI kd), .int (nI m), .int (nI o9), .ref (tA k za.1), .ref (tA k zb.1)])) :: (zb.2 ++ (za.2 ++ t)))) 0 dL_sum_182 fl_L_57 rfl (Nat.le_of_ble_eq_true rfl) rfl rfl rfl ?_
            refine r_aload 1 dL_sum_185 rfl ?_
            refine r_aret dL_sum_187 rfl rfl (Or.inr ⟨_, rfl⟩) ?_
            exact Dq.mk (((q1, kd, m, o9), some za.1, some zb.1), ((q1, .inr (11, [.int (nI kd), .int (nI m), .int (nI o9), .ref (tA k za.1), .ref (tA k zb.1)])) :: (zb.2 ++ za.2))) rfl (by rw [List.cons_append, List.append_assoc]) ⟨TM.two List.mem_cons_self (TM.mono (fun p hp => List.mem_cons_of_mem _ (List.mem_append_right _ hp)) k _ hza.1) (TM.mono (fun p hp => List.mem_cons_of_mem _ (List.mem_append_left _ hp)) k _ hzb.1), TE.two (by omega) hza.2.1 hzb.2.1, Nat.le_trans (Nat.le_of_eq (tkn_2 (by omega))) (sB_s (by omega) hza.2.2 hzb.2.2)⟩
      refine r_if_ne (tgt := 106) dL_sum_75 (by decide) (fun c0 => ?_) (fun c0 => ?_)
      · have k0 : ¬ kd = 0 := fun e => c0 (by rw [e]; rfl)
        refine r_iload_n 2 dL_sum_106 rfl ?_
        refine r_iconst (v := (4 : Int32)) dL_sum_107 (by decide) ?_
        refine r_ishr dL_sum_108 ?_
        refine r_aload 1 dL_sum_109 rfl ?_
        refine r_getf (v := .int (nI kd)) 0 dL_sum_111 fl_L_41 rfl rfl ?_
        refine r_iconst (v := (5 : Int32)) dL_sum_114 (by decide) ?_
        refine r_icmp_ne (tgt := 122) dL_sum_115 (by decide) (fun c5 => ?_) (fun c5 => ?_)
        · have k5 : ¬ kd = 5 := fun e => c5 (by rw [e]; rfl)
          refine r_iload_n 4 dL_sum_122 rfl ?_
          refine k_S (x := (2 ^ k - 1 + (2 ^ k - 1))) (y := (5 * 2 ^ k - 5 + (5 * 2 ^ k - 5))) (rest := [.ref q1]) dL_sum_123 ks_L_35 ((cl_below (v := (x >>> ((4 : Int32) &&& 31))) (n := nt) (h1) (by omega)).dq) rfl rfl (Nat.le_of_ble_eq_true rfl) (by omega) (by decide) ?_
          rintro ⟨⟩ -
          show R g mL_sum (k + 1 + 3) (2 ^ k - 1 + (2 ^ k - 1)) (5 * 2 ^ k - 5 + (5 * 2 ^ k - 5)) 126 [(5, .int (nI vv)), (4, .ref q1), (0, .int x), (1, .int (nI ne)), (2, .int (nI nt)), (3, .int (nI deep))] [.int (nI (bw (x >>> ((4 : Int32) &&& 31)) nt)), .ref q1] ((q1, .inr (11, [.int (nI kd), .int (0 : Int32), .int (0 : Int32), .null, .null])) :: t) (Dq (fun (z : TT (k + 1) × va_W) => some (.ref (tA (k + 1) z.1))) (fun z => z.2 ++ t) (fun z => TM g z.2 (k + 1) z.1 ∧ TE ne nt (k + 1) z.1 ∧ tkn (k + 1) z.1 ≤ sB deep))
          have hm := bw_lt (x >>> ((4 : Int32) &&& 31)) (n := nt) (h1)
          generalize bw (x >>> ((4 : Int32) &&& 31)) nt = m at hm ⊢
          show R g mL_sum (k + 1 + 3) (2 ^ k - 1 + (2 ^ k - 1)) (5 * 2 ^ k - 5 + (5 * 2 ^ k - 5)) 126 [(5, .int (nI vv)), (4, .ref q1), (0, .int x), (1, .int (nI ne)), (2, .int (nI nt)), (3, .int (nI deep))] [.int (nI m), .ref q1] ((q1, .inr (11, [.int (nI kd), .int (0 : Int32), .int (0 : Int32), .null, .null])) :: t) (Dq (fun (z : TT (k + 1) × va_W) => some (.ref (tA (k + 1) z.1))) (fun z => z.2 ++ t) (fun z => TM g z.2 (k + 1) z.1 ∧ TE ne nt (k + 1) z.1 ∧ tkn (k + 1) z.1 ≤ sB deep))
          exact J126 m (Or.inr (Or.inr ⟨k0, k5, hm⟩))
        · have k5 : kd = 5 := (nI_eq (a := kd) (b := 5) (by omega) (by decide)).mp c5
          refine r_iload_n 3 dL_sum_118 rfl ?_
          refine r_goto (tgt := 123) dL_sum_119 (by decide) ?_
          refine k_S (x := (2 ^ k - 1 + (2 ^ k - 1))) (y := (5 * 2 ^ k - 5 + (5 * 2 ^ k - 5))) (rest := [.ref q1]) dL_sum_123 ks_L_35 ((cl_below (v := (x >>> ((4 : Int32) &&& 31))) (n := ne) (h0) (by omega)).dq) rfl rfl (Nat.le_of_ble_eq_true rfl) (by omega) (by decide) ?_
          rintro ⟨⟩ -
          show R g mL_sum (k + 1 + 3) (2 ^ k - 1 + (2 ^ k - 1)) (5 * 2 ^ k - 5 + (5 * 2 ^ k - 5)) 126 [(5, .int (nI vv)), (4, .ref q1), (0, .int x), (1, .int (nI ne)), (2, .int (nI nt)), (3, .int (nI deep))] [.int (nI (bw (x >>> ((4 : Int32) &&& 31)) ne)), .ref q1] ((q1, .inr (11, [.int (nI kd), .int (0 : Int32), .int (0 : Int32), .null, .null])) :: t) (Dq (fun (z : TT (k + 1) × va_W) => some (.ref (tA (k + 1) z.1))) (fun z => z.2 ++ t) (fun z => TM g z.2 (k + 1) z.1 ∧ TE ne nt (k + 1) z.1 ∧ tkn (k + 1) z.1 ≤ sB deep))
          have hm := bw_lt (x >>> ((4 : Int32) &&& 31)) (n := ne) (h0)
          generalize bw (x >>> ((4 : Int32) &&& 31)) ne = m at hm ⊢
          show R g mL_sum (k + 1 + 3) (2 ^ k - 1 + (2 ^ k - 1)) (5 * 2 ^ k - 5 + (5 * 2 ^ k - 5)) 126 [(5, .int (nI vv)), (4, .ref q1), (0, .int x), (1, .int (nI ne)), (2, .int (nI nt)), (3, .int (nI deep))] [.int (nI m), .ref q1] ((q1, .inr (11, [.int (nI kd), .int (0 : Int32), .int (0 : Int32), .null, .null])) :: t) (Dq (fun (z : TT (k + 1) × va_W) => some (.ref (tA (k + 1) z.1))) (fun z => z.2 ++ t) (fun z => TM g z.2 (k + 1) z.1 ∧ TE ne nt (k + 1) z.1 ∧ tkn (k + 1) z.1 ≤ sB deep))
          exact J126 m (Or.inr (Or.inl ⟨k5, hm⟩))
      · have k0 : kd = 0 := (nI_eq (a := kd) (b := 0) (by omega) (by decide)).mp c0
        refine r_iload_n 2 dL_sum_78 rfl ?_
        refine r_iconst (v := (3 : Int32)) dL_sum_79 (by decide) ?_
        refine r_ishr dL_sum_80 ?_
        refine r_iload_n 2 dL_sum_81 rfl ?_
        refine r_bipush (v := (7 : Int32)) dL_sum_82 (by decide) ?_
        refine r_ishr dL_sum_84 ?_
        refine r_bipush (v := (6 : Int32)) dL_sum_85 (by decide) ?_
        refine r_top (w := .int (nI 6)) (rfl) ?_
        refine k_S (x := (2 ^ k - 1 + (2 ^ k - 1))) (y := (5 * 2 ^ k - 5 + (5 * 2 ^ k - 5))) (rest := [.int (x >>> ((3 : Int32) &&& 31)), .ref q1]) dL_sum_87 ks_L_35 ((cl_below (v := (x >>> ((7 : Int32) &&& 31))) (n := 6) (by decide) (by decide)).dq) rfl rfl (Nat.le_of_ble_eq_true rfl) (by omega) (by decide) ?_
        rintro ⟨⟩ -
        show R g mL_sum (k + 1 + 3) (2 ^ k - 1 + (2 ^ k - 1)) (5 * 2 ^ k - 5 + (5 * 2 ^ k - 5)) 90 [(5, .int (nI vv)), (4, .ref q1), (0, .int x), (1, .int (nI ne)), (2, .int (nI nt)), (3, .int (nI deep))] [.int (nI (bw (x >>> ((7 : Int32) &&& 31)) 6)), .int (x >>> ((3 : Int32) &&& 31)), .ref q1] ((q1, .inr (11, [.int (nI kd), .int (0 : Int32), .int (0 : Int32), .null, .null])) :: t) (Dq (fun (z : TT (k + 1) × va_W) => some (.ref (tA (k + 1) z.1))) (fun z => z.2 ++ t) (fun z => TM g z.2 (k + 1) z.1 ∧ TE ne nt (k + 1) z.1 ∧ tkn (k + 1) z.1 ≤ sB deep))
        have hb6 := bw_lt (x >>> ((7 : Int32) &&& 31)) (n := 6) (by decide)
        generalize bw (x >>> ((7 : Int32) &&& 31)) 6 = b6 at hb6 ⊢
        show R g mL_sum (k + 1 + 3) (2 ^ k - 1 + (2 ^ k - 1)) (5 * 2 ^ k - 5 + (5 * 2 ^ k - 5)) 90 [(5, .int (nI vv)), (4, .ref q1), (0, .int x), (1, .int (nI ne)), (2, .int (nI nt)), (3, .int (nI deep))] [.int (nI b6), .int (x >>> ((3 : Int32) &&& 31)), .ref q1] ((q1, .inr (11, [.int (nI kd), .int (0 : Int32), .int (0 : Int32), .null, .null])) :: t) (Dq (fun (z : TT (k + 1) × va_W) => some (.ref (tA (k + 1) z.1))) (fun z => z.2 ++ t) (fun z => TM g z.2 (k + 1) z.1 ∧ TE ne nt (k + 1) z.1 ∧ tkn (k + 1) z.1 ≤ sB deep))
        refine r_if_ne (tgt := 98) dL_sum_90 (by decide) (fun c6 => ?_) (fun c6 => ?_)
        · refine r_bipush (v := (7 : Int32)) dL_sum_98 (by decide) ?_
          refine r_top (w := .int (nI 7)) (rfl) ?_
          refine k_S (x := (2 ^ k - 1 + (2 ^ k - 1))) (y := (5 * 2 ^ k - 5 + (5 * 2 ^ k - 5))) (rest := [.ref q1]) dL_sum_100 ks_L_35 ((cl_below (v := (x >>> ((3 : Int32) &&& 31))) (n := 7) (by decide) (by decide)).dq) rfl rfl (Nat.le_of_ble_eq_true rfl) (by omega) (by decide) ?_
          rintro ⟨⟩ -
          show R g mL_sum (k + 1 + 3) (2 ^ k - 1 + (2 ^ k - 1)) (5 * 2 ^ k - 5 + (5 * 2 ^ k - 5)) 103 [(5, .int (nI vv)), (4, .ref q1), (0, .int x), (1, .int (nI ne)), (2, .int (nI nt)), (3, .int (nI deep))] [.int (nI (bw (x >>> ((3 : Int32) &&& 31)) 7)), .ref q1] ((q1, .inr (11, [.int (nI kd), .int (0 : Int32), .int (0 : Int32), .null, .null])) :: t) (Dq (fun (z : TT (k + 1) × va_W) => some (.ref (tA (k + 1) z.1))) (fun z => z.2 ++ t) (fun z => TM g z.2 (k + 1) z.1 ∧ TE ne nt (k + 1) z.1 ∧ tkn (k + 1) z.1 ≤ sB deep))
          have hm := bw_lt (x >>> ((3 : Int32) &&& 31)) (n := 7) (by decide)
          generalize bw (x >>> ((3 : Int32) &&& 31)) 7 = m at hm ⊢
          show R g mL_sum (k + 1 + 3) (2 ^ k - 1 + (2 ^ k - 1)) (5 * 2 ^ k - 5 + (5 * 2 ^ k - 5)) 103 [(5, .int (nI vv)), (4, .ref q1), (0, .int x), (1, .int (nI ne)), (2, .int (nI nt)), (3, .int (nI deep))] [.int (nI m), .ref q1] ((q1, .inr (11, [.int (nI kd), .int (0 : Int32), .int (0 : Int32), .null, .null])) :: t) (Dq (fun (z : TT (k + 1) × va_W) => some (.ref (tA (k + 1) z.1))) (fun z => z.2 ++ t) (fun z => TM g z.2 (k + 1) z.1 ∧ TE ne nt (k + 1) z.1 ∧ tkn (k + 1) z.1 ≤ sB deep))
          refine r_goto (tgt := 126) dL_sum_103 (by decide) ?_
          exact J126 m (Or.inl ⟨k0, by omega⟩)
        · refine r_ldc dL_sum_93 kk_1577 ?_
          refine r_goto (tgt := 100) dL_sum_95 (by decide) ?_
          refine r_top (w := .int (nI 1000000)) (rfl) ?_
          refine k_S (x := (2 ^ k - 1 + (2 ^ k - 1))) (y := (5 * 2 ^ k - 5 + (5 * 2 ^ k - 5))) (rest := [.ref q1]) dL_sum_100 ks_L_35 ((cl_below (v := (x >>> ((3 : Int32) &&& 31))) (n := 1000000) (by decide) (by decide)).dq) rfl rfl (Nat.le_of_ble_eq_true rfl) (by omega) (by decide) ?_
          rintro ⟨⟩ -
          show R g mL_sum (k + 1 + 3) (2 ^ k - 1 + (2 ^ k - 1)) (5 * 2 ^ k - 5 + (5 * 2 ^ k - 5)) 103 [(5, .int (nI vv)), (4, .ref q1), (0, .int x), (1, .int (nI ne)), (2, .int (nI nt)), (3, .int (nI deep))] [.int (nI (bw (x >>> ((3 : Int32) &&& 31)) 1000000)), .ref q1] ((q1, .inr (11, [.int (nI kd), .int (0 : Int32), .int (0 : Int32), .null, .null])) :: t) (Dq (fun (z : TT (k + 1) × va_W) => some (.ref (tA (k + 1) z.1))) (fun z => z.2 ++ t) (fun z => TM g z.2 (k + 1) z.1 ∧ TE ne nt (k + 1) z.1 ∧ tkn (k + 1) z.1 ≤ sB deep))
          have hm := bw_lt (x >>> ((3 : Int32) &&& 31)) (n := 1000000) (by decide)
          generalize bw (x >>> ((3 : Int32) &&& 31)) 1000000 = m at hm ⊢
          show R g mL_sum (k + 1 + 3) (2 ^ k - 1 + (2 ^ k - 1)) (5 * 2 ^ k - 5 + (5 * 2 ^ k - 5)) 103 [(5, .int (nI vv)), (4, .ref q1), (0, .int x), (1, .int (nI ne)), (2, .int (nI nt)), (3, .int (nI deep))] [.int (nI m), .ref q1] ((q1, .inr (11, [.int (nI kd), .int (0 : Int32), .int (0 : Int32), .null, .null])) :: t) (Dq (fun (z : TT (k + 1) × va_W) => some (.ref (tA (k + 1) z.1))) (fun z => z.2 ++ t) (fun z => TM g z.2 (k + 1) z.1 ∧ TE ne nt (k + 1) z.1 ∧ tkn (k + 1) z.1 ≤ sB deep))
          refine r_goto (tgt := 126) dL_sum_103 (by decide) ?_
          exact J126 m (Or.inl ⟨k0, by omega⟩)
    have J41 : (deep ≤ 1 ∨ vv ≤ 11) → R g mL_sum (k + 1 + 3) (2 ^ k - 1 + (2 ^ k - 1)) (5 * 2 ^ k - 5 + (5 * 2 ^ k - 5)) 41 [(5, .int (nI vv)), (4, .ref q1), (0, .int x), (1, .int (nI ne)), (2, .int (nI nt)), (3, .int (nI deep))] [.ref q1] ((q1, .inr (11, [.int (0 : Int32), .int (0 : Int32), .int (0 : Int32), .null, .null])) :: t) (Dq (fun (z : TT (k + 1) × va_W) => some (.ref (tA (k + 1) z.1))) (fun z => z.2 ++ t) (fun z => TM g z.2 (k + 1) z.1 ∧ TE ne nt (k + 1) z.1 ∧ tkn (k + 1) z.1 ≤ sB deep)) := by
      intro hdv
      refine r_iload 0 dL_sum_41 rfl ?_
      refine r_bipush (v := (12 : Int32)) dL_sum_43 (by decide) ?_
      refine r_icmp_ge (tgt := 57) dL_sum_45 (by decide) (fun c3 => ?_) (fun c3 => ?_)
      · have v12 : 12 ≤ vv := (nI_leI (a := 12) (b := vv) (by decide) (by omega)).mp c3
        refine r_bipush (v := (6 : Int32)) dL_sum_57 (by decide) ?_
        refine r_iload 0 dL_sum_59 rfl ?_
        refine r_bipush (v := (7 : Int32)) dL_sum_61 (by decide) ?_
        refine r_irem dL_sum_63 (by decide) ?_
        refine r_top (w := .int (nI (vv % 7))) (congrArg Value.int (pk_rem (a := vv) (d := 7) (by omega) (by decide) (by decide))) ?_
        refine r_iadd dL_sum_64 ?_
        refine r_top (w := .int (nI (6 + vv % 7))) (congrArg Value.int (nI_add 6 (vv % 7))) ?_
        exact J65 _ (Or.inr ⟨by omega, by omega, by omega⟩)
      · refine r_iconst (v := (1 : Int32)) dL_sum_48 (by decide) ?_
        refine r_iload 0 dL_sum_49 rfl ?_
        refine r_iconst (v := (5 : Int32)) dL_sum_51 (by decide) ?_
        refine r_irem dL_sum_52 (by decide) ?_
        refine r_top (w := .int (nI (vv % 5))) (congrArg Value.int (pk_rem (a := vv) (d := 5) (by omega) (by decide) (by decide))) ?_
        refine r_iadd dL_sum_53 ?_
        refine r_top (w := .int (nI (1 + vv % 5))) (congrArg Value.int (nI_add 1 (vv % 5))) ?_
        refine r_goto (tgt := 65) dL_sum_54 (by decide) ?_
        exact J65 _ (Or.inl (by omega))
    refine r_iload 0 dL_sum_19 rfl ?_
    refine r_iconst (v := (3 : Int32)) dL_sum_21 (by decide) ?_
    refine r_icmp_lt (tgt := 37) dL_sum_22 (by decide) (fun c4 => ?_) (fun c4 => ?_)
    · refine r_iconst (v := (0 : Int32)) dL_sum_37 (by decide) ?_
      refine r_goto (tgt := 65) dL_sum_38 (by decide) ?_
      refine r_top (w := .int (nI 0)) (rfl) ?_
      exact J65 0 (Or.inl (by decide))
    · refine r_iload_n 5 dL_sum_25 rfl ?_
      refine r_iconst (v := (1 : Int32)) dL_sum_26 (by decide) ?_
      refine r_icmp_le (tgt := 41) dL_sum_27 (by decide) (fun c7 => ?_) (fun c7 => ?_)
      · exact J41 (Or.inl ((nI_leI (a := deep) (b := 1) (by omega) (by decide)).mp c7))
      · refine r_iload 0 dL_sum_30 rfl ?_
        refine r_bipush (v := (11 : Int32)) dL_sum_32 (by decide) ?_
        refine r_icmp_le (tgt := 41) dL_sum_34 (by decide) (fun c8 => ?_) (fun c8 => ?_)
        · exact J41 (Or.inr ((nI_leI (a := vv) (b := 11) (by omega) (by decide)).mp c8))
        · refine r_iconst (v := (0 : Int32)) dL_sum_37 (by decide) ?_
          refine r_goto (tgt := 65) dL_sum_38 (by decide) ?_
          refine r_top (w := .int (nI 0)) (rfl) ?_
          exact J65 0 (Or.inl (by decide))
set_option maxRecDepth 20000 in
set_option maxHeartbeats 8000000 in
theorem cl_test {g : GG} {ne nt : Nat} (h0 : 0 < ne) (hne : ne ≤ 8) (h1 : 0 < nt) (hnt : nt ≤ 10) : ∀ k, 2 ≤ k → ∀ (deep : Nat) (x : Int32) (t : va_W), 4 ≤ k + deep → deep + k ≤ 10 → Ct g mL_test (k + 3) (2 ^ k - 1) (5 * 2 ^ k - 5) [.int x, .int (nI ne), .int (nI nt), .int (nI deep)] t (Dq (fun (z : TT k × va_W) => some (.ref (tA k z.1))) (fun z => z.2 ++ t) (fun z => TM g z.2 k z.1 ∧ TB ne nt k z.1 ∧ tkn k z.1 ≤ tB deep))
  | 0, h => absurd h (by decide)
  | k + 1, hk1 => fun deep x t hkd hdp => by
    refine Ct.ofR (by decide +kernel) rfl (Nat.le_of_ble_eq_true rfl) ?_
    have hp : 2 ^ (k + 1) = 2 ^ k + 2 ^ k := by rw [Nat.pow_succ]; omega
    have hp1 : 0 < 2 ^ k := Nat.two_pow_pos k
    show R g mL_test (k + 1 + 3) (2 ^ (k + 1) - 1) (5 * 2 ^ (k + 1) - 5) 0 [(0, .int x), (1, .int (nI ne)), (2, .int (nI nt)), (3, .int (nI deep))] [] t (Dq (fun (z : TT (k + 1) × va_W) => some (.ref (tA (k + 1) z.1))) (fun z => z.2 ++ t) (fun z => TM g z.2 (k + 1) z.1 ∧ TB ne nt (k + 1) z.1 ∧ tkn (k + 1) z.1 ≤ tB deep))
    refine r_room (x2 := ((2 ^ k - 1 + (2 ^ k - 1)) + 1)) (y2 := ((5 * 2 ^ k - 5 + (5 * 2 ^ k - 5)) + 5)) (by omega) (by omega) ?_
    refine r_new (N := 5) (x := ((2 ^ k - 1 + (2 ^ k - 1)) + 0)) (y := ((5 * 2 ^ k - 5 + (5 * 2 ^ k - 5)) + 0)) dL_test_0 nl_L_32 (fun q2 => ?_)
    refine r_dup dL_test_3 rfl ?_
    refine k_J (x := ((2 ^ k - 1 + (2 ^ k - 1)) + 0)) (y := ((5 * 2 ^ k - 5 + (5 * 2 ^ k - 5)) + 0)) (rest := [.ref q2]) dL_test_4 kj_L_34 ((cl_newTree (a := q2)).dq) rfl rfl (Nat.le_of_ble_eq_true rfl) (by omega) (by decide) ?_
    rintro ⟨⟩ -
    show R g mL_test (k + 1 + 3) ((2 ^ k - 1 + (2 ^ k - 1)) + 0) ((5 * 2 ^ k - 5 + (5 * 2 ^ k - 5)) + 0) 7 [(0, .int x), (1, .int (nI ne)), (2, .int (nI nt)), (3, .int (nI deep))] [.ref q2] ((q2, .inr (11, [.int (0 : Int32), .int (0 : Int32), .int (0 : Int32), .null, .null])) :: t) (Dq (fun (z : TT (k + 1) × va_W) => some (.ref (tA (k + 1) z.1))) (fun z => z.2 ++ t) (fun z => TM g z.2 (k + 1) z.1 ∧ TB ne nt (k + 1) z.1 ∧ tkn (k + 1) z.1 ≤ tB deep))
    show R g mL_test (k + 1 + 3) (2 ^ k - 1 + (2 ^ k - 1)) (5 * 2 ^ k - 5 + (5 * 2 ^ k - 5)) 7 [(0, .int x), (1, .int (nI ne)), (2, .int (nI nt)), (3, .int (nI deep))] [.ref q2] ((q2, .inr (11, [.int (0 : Int32), .int (0 : Int32), .int (0 : Int32), .null, .null])) :: t) (Dq (fun (z : TT (k + 1) × va_W) => some (.ref (tA (k + 1) z.1))) (fun z => z.2 ++ t) (fun z => TM g z.2 (k + 1) z.1 ∧ TB ne nt (k + 1) z.1 ∧ tkn (k + 1) z.1 ≤ tB deep))
    refine r_astore [(4, .ref q2), (0, .int x), (1, .int (nI ne)), (2, .int (nI nt)), (3, .int (nI deep))] dL_test_7 (by decide) rfl ?_
    refine r_iload_n 1 dL_test_9 rfl ?_
    refine r_iconst (v := (1 : Int32)) dL_test_10 (by decide) ?_
    refine r_ishr dL_test_11 ?_
    refine r_bipush (v := (14 : Int32)) dL_test_12 (by decide) ?_
    refine r_top (w := .int (nI 14)) (rfl) ?_
    refine k_S (x := (2 ^ k - 1 + (2 ^ k - 1))) (y := (5 * 2 ^ k - 5 + (5 * 2 ^ k - 5))) (rest := []) dL_test_14 ks_L_35 ((cl_below (v := (x >>> ((1 : Int32) &&& 31))) (n := 14) (by decide) (by decide)).dq) rfl rfl (Nat.le_of_ble_eq_true rfl) (by omega) (by decide) ?_
    rintro ⟨⟩ -
    show R g mL_test (k + 1 + 3) (2 ^ k - 1 + (2 ^ k - 1)) (5 * 2 ^ k - 5 + (5 * 2 ^ k - 5)) 17 [(4, .ref q2), (0, .int x), (1, .int (nI ne)), (2, .int (nI nt)), (3, .int (nI deep))] [.int (nI (bw (x >>> ((1 : Int32) &&& 31)) 14))] ((q2, .inr (11, [.int (0 : Int32), .int (0 : Int32), .int (0 : Int32), .null, .null])) :: t) (Dq (fun (z : TT (k + 1) × va_W) => some (.ref (tA (k + 1) z.1))) (fun z => z.2 ++ t) (fun z => TM g z.2 (k + 1) z.1 ∧ TB ne nt (k + 1) z.1 ∧ tkn (k + 1) z.1 ≤ tB deep))
    have hv := bw_lt (x >>> ((1 : Int32) &&& 31)) (n := 14) (by decide)
    generalize bw (x >>> ((1 : Int32) &&& 31)) 14 = vv at hv ⊢
    show R g mL_test (k + 1 + 3) (2 ^ k - 1 + (2 ^ k - 1)) (5 * 2 ^ k - 5 + (5 * 2 ^ k - 5)) 17 [(4, .ref q2), (0, .int x), (1, .int (nI ne)), (2, .int (nI nt)), (3, .int (nI deep))] [.int (nI vv)] ((q2, .inr (11, [.int (0 : Int32), .int (0 : Int32), .int (0 : Int32), .null, .null])) :: t) (Dq (fun (z : TT (k + 1) × va_W) => some (.ref (tA (k + 1) z.1))) (fun z => z.2 ++ t) (fun z => TM g z.2 (k + 1) z.1 ∧ TB ne nt (k + 1) z.1 ∧ tkn (k + 1) z.1 ≤ tB deep))
    refine r_istore [(5, .int (nI vv)), (4, .ref q2), (0, .int x), (1, .int (nI ne)), (2, .int (nI nt)), (3, .int (nI deep))] dL_test_17 (by decide) rfl ?_
    refine r_aload 1 dL_test_19 rfl ?_
    have J73 : ∀ kd : Nat, (20 ≤ kd ∧ kd < 29) ∨ (29 ≤ kd ∧ kd ≤ 31 ∧ deep ≤ 1) → R g mL_test (k + 1 + 3) (2 ^ k - 1 + (2 ^ k - 1)) (5 * 2 ^ k - 5 + (5 * 2 ^ k - 5)) 73 [(5, .int (nI vv)), (4, .ref q2), (0, .int x), (1, .int (nI ne)), (2, .int (nI nt)), (3, .int (nI deep))] [.int (nI kd), .ref q2] ((q2, .inr (11, [.int (0 : Int32), .int (0 : Int32), .int (0 : Int32), .null, .null])) :: t) (Dq (fun (z : TT (k + 1) × va_W) => some (.ref (tA (k + 1) z.1))) (fun z => z.2 ++ t) (fun z => TM g z.2 (k + 1) z.1 ∧ TB ne nt (k + 1) z.1 ∧ tkn (k + 1) z.1 ≤ tB deep)) := by
      intro kd hkd
      refine r_putf (ws2 := ((q2, .inr (11, [.int (nI kd), .int (0 : Int32), .int (0 : Int32), .null, .null])) :: t)) 0 dL_test_73 fl_L_41 rfl (Nat.le_of_ble_eq_true rfl) rfl rfl rfl ?_
      refine r_aload 1 dL_test_76 rfl ?_
      refine r_iload_n 2 dL_test_78 rfl ?_
      refine r_iconst (v := (4 : Int32)) dL_test_79 (by decide) ?_
      refine r_ishr dL_test_80 ?_
      refine r_aload 1 dL_test_81 rfl ?_
      refine r_getf (v := .int (nI kd)) 0 dL_test_83 fl_L_41 rfl rfl ?_
      refine r_bipush (v := (28 : Int32)) dL_test_86 (by decide) ?_
      have J96 : ∀ n9 : Nat, (kd = 28 ∧ n9 = ne) ∨ (¬ kd = 28 ∧ n9 = nt) → R g mL_test (k + 1 + 3) (2 ^ k - 1 + (2 ^ k - 1)) (5 * 2 ^ k - 5 + (5 * 2 ^ k - 5)) 96 [(5, .int (nI vv)), (4, .ref q2), (0, .int x), (1, .int (nI ne)), (2, .int (nI nt)), (3, .int (nI deep))] [.int (nI n9), .int (x >>> ((4 : Int32) &&& 31)), .ref q2] ((q2, .inr (11, [.int (nI kd), .int (0 : Int32), .int (0 : Int32), .null, .null])) :: t) (Dq (fun (z : TT (k + 1) × va_W) => some (.ref (tA (k + 1) z.1))) (fun z => z.2 ++ t) (fun z => TM g z.2 (k + 1) z.1 ∧ TB ne nt (k + 1) z.1 ∧ tkn (k + 1) z.1 ≤ tB deep)) := by
        intro n9 hn9
        refine k_S (x := (2 ^ k - 1 + (2 ^ k - 1))) (y := (5 * 2 ^ k - 5 + (5 * 2 ^ k - 5))) (rest := [.ref q2]) dL_test_96 ks_L_35 ((cl_below (v := (x >>> ((4 : Int32) &&& 31))) (n := n9) (by omega) (by omega)).dq) rfl rfl (Nat.le_of_ble_eq_true rfl) (by omega) (by decide) ?_
        rintro ⟨⟩ -
        show R g mL_test (k + 1 + 3) (2 ^ k - 1 + (2 ^ k - 1)) (5 * 2 ^ k - 5 + (5 * 2 ^ k - 5)) 99 [(5, .int (nI vv)), (4, .ref q2), (0, .int x), (1, .int (nI ne)), (2, .int (nI nt)), (3, .int (nI deep))] [.int (nI (bw (x >>> ((4 : Int32) &&& 31)) n9)), .ref q2] ((q2, .inr (11, [.int (nI kd), .int (0 : Int32), .int (0 : Int32), .null, .null])) :: t) (Dq (fun (z : TT (k + 1) × va_W) => some (.ref (tA (k + 1) z.1))) (fun z => z.2 ++ t) (fun z => TM g z.2 (k + 1) z.1 ∧ TB ne nt (k + 1) z.1 ∧ tkn (k + 1) z.1 ≤ tB deep))
        have hm := bw_lt (x >>> ((4 : Int32) &&& 31)) (n := n9) (by omega)
        generalize bw (x >>> ((4 : Int32) &&& 31)) n9 = m at hm ⊢
        show R g mL_test (k + 1 + 3) (2 ^ k - 1 + (2 ^ k - 1)) (5 * 2 ^ k - 5 + (5 * 2 ^ k - 5)) 99 [(5, .int (nI vv)), (4, .ref q2), (0, .int x), (1, .int (nI ne)), (2, .int (nI nt)), (3, .int (nI deep))] [.int (nI m), .ref q2] ((q2, .inr (11, [.int (nI kd), .int (0 : Int32), .int (0 : Int32), .null, .null])) :: t) (Dq (fun (z : TT (k + 1) × va_W) => some (.ref (tA (k + 1) z.1))) (fun z => z.2 ++ t) (fun z => TM g z.2 (k + 1) z.1 ∧ TB ne nt (k + 1) z.1 ∧ tkn (k + 1) z.1 ≤ tB deep))
        refine r_putf (ws2 := ((q2, .inr (11, [.int (nI kd), .int (nI m), .int (0 : Int32), .null, .null])) :: t)) 0 dL_test_99 fl_L_46 rfl (Nat.le_of_ble_eq_true rfl) rfl rfl rfl ?_
        refine r_aload 1 dL_test_102 rfl ?_
        refine r_iload_n 2 dL_test_104 rfl ?_
        refine r_bipush (v := (6 : Int32)) dL_test_105 (by decide) ?_
        refine r_ishr dL_test_107 ?_
        refine r_iload_n 4 dL_test_108 rfl ?_
        refine k_S (x := (2 ^ k - 1 + (2 ^ k - 1))) (y := (5 * 2 ^ k - 5 + (5 * 2 ^ k - 5))) (rest := [.ref q2]) dL_test_109 ks_L_35 ((cl_below (v := (x >>> ((6 : Int32) &&& 31))) (n := nt) (h1) (by omega)).dq) rfl rfl (Nat.le_of_ble_eq_true rfl) (by omega) (by decide) ?_
        rintro ⟨⟩ -
        show R g mL_test (k + 1 + 3) (2 ^ k - 1 + (2 ^ k - 1)) (5 * 2 ^ k - 5 + (5 * 2 ^ k - 5)) 112 [(5, .int (nI vv)), (4, .ref q2), (0, .int x), (1, .int (nI ne)), (2, .int (nI nt)), (3, .int (nI deep))] [.int (nI (bw (x >>> ((6 : Int32) &&& 31)) nt)), .ref q2] ((q2, .inr (11, [.int (nI kd), .int (nI m), .int (0 : Int32), .null, .null])) :: t) (Dq (fun (z : TT (k + 1) × va_W) => some (.ref (tA (k + 1) z.1))) (fun z => z.2 ++ t) (fun z => TM g z.2 (k + 1) z.1 ∧ TB ne nt (k + 1) z.1 ∧ tkn (k + 1) z.1 ≤ tB deep))
        have ho9 := bw_lt (x >>> ((6 : Int32) &&& 31)) (n := nt) (h1)
        generalize bw (x >>> ((6 : Int32) &&& 31)) nt = o9 at ho9 ⊢
        show R g mL_test (k + 1 + 3) (2 ^ k - 1 + (2 ^ k - 1)) (5 * 2 ^ k - 5 + (5 * 2 ^ k - 5)) 112 [(5, .int (nI vv)), (4, .ref q2), (0, .int x), (1, .int (nI ne)), (2, .int (nI nt)), (3, .int (nI deep))] [.int (nI o9), .ref q2] ((q2, .inr (11, [.int (nI kd), .int (nI m), .int (0 : Int32), .null, .null])) :: t) (Dq (fun (z : TT (k + 1) × va_W) => some (.ref (tA (k + 1) z.1))) (fun z => z.2 ++ t) (fun z => TM g z.2 (k + 1) z.1 ∧ TB ne nt (k + 1) z.1 ∧ tkn (k + 1) z.1 ≤ tB deep))
        refine r_putf (ws2 := ((q2, .inr (11, [.int (nI kd), .int (nI m), .int (nI o9), .null, .null])) :: t)) 0 dL_test_112 fl_L_60 rfl (Nat.le_of_ble_eq_true rfl) rfl rfl rfl ?_
        refine r_aload 1 dL_test_115 rfl ?_
        refine r_getf (v := .int (nI kd)) 0 dL_test_117 fl_L_41 rfl rfl ?_
        refine r_bipush (v := (25 : Int32)) dL_test_120 (by decide) ?_
        refine r_icmp_ge (tgt := 165) dL_test_122 (by decide) (fun c1 => ?_) (fun c1 => ?_)
        · have k25 : 25 ≤ kd := (nI_leI (a := 25) (b := kd) (by decide) (by omega)).mp c1
          refine r_aload 1 dL_test_165 rfl ?_
          refine r_getf (v := .int (nI kd)) 0 dL_test_167 fl_L_41 rfl rfl ?_
          refine r_bipush (v := (28 : Int32)) dL_test_170 (by decide) ?_
          refine r_icmp_le (tgt := 222) dL_test_172 (by decide) (fun c2 => ?_) (fun c2 => ?_)
          · have k28 : kd ≤ 28 := (nI_leI (a := kd) (b := 28) (by omega) (by decide)).mp c2
            refine r_aload 1 dL_test_222 rfl ?_
            refine r_aret dL_test_224 rfl rfl (Or.inr ⟨_, rfl⟩) ?_
            exact Dq.mk (((q2, kd, m, o9), none, none), ((q2, .inr (11, [.int (nI kd), .int (nI m), .int (nI o9), .null, .null])) :: [])) rfl rfl ⟨TM.leaf List.mem_cons_self, TB.leaf k25 (by omega) (by omega) ho9, tB_lo deep⟩
          · have k29 : 29 ≤ kd := by have : ¬ _ := fun h => c2 ((nI_leI (a := kd) (b := 28) (by omega) (by decide)).mpr h); omega
            refine r_aload 1 dL_test_175 rfl ?_
            refine r_iload_n 2 dL_test_177 rfl ?_
            refine r_iconst (v := (3 : Int32)) dL_test_178 (by decide) ?_
            refine r_imul dL_test_179 ?_
            refine r_iconst (v := (5 : Int32)) dL_test_180 (by decide) ?_
            refine r_iadd dL_test_181 ?_
            refine r_iload_n 3 dL_test_182 rfl ?_
            refine r_iload_n 4 dL_test_183 rfl ?_
            refine r_iload_n 5 dL_test_184 rfl ?_
            refine r_iconst (v := (1 : Int32)) dL_test_185 (by decide) ?_
            refine r_iadd dL_test_186 ?_
            refine r_top (w := .int (nI (deep + 1))) (by rw [nI_1]) ?_
            refine r_room (x2 := (2 ^ k - 1) + (2 ^ k - 1)) (y2 := (5 * 2 ^ k - 5) + (5 * 2 ^ k - 5)) (by omega) (by omega) ?_
            refine k_S (x := (2 ^ k - 1)) (y := (5 * 2 ^ k - 5)) (rest := [.ref q2]) dL_test_187 ks_L_63 (cl_test h0 hne h1 hnt k (by omega) (deep + 1) ((x * (3 : Int32)) + (5 : Int32)) _ (by omega) (by omega)) rfl rfl (Nat.le_of_ble_eq_true rfl) (by omega) (by decide) ?_
            rintro za hza
            refine r_seg (ws2 := ((q2, .inr (11, [.int (nI kd), .int (nI m), .int (nI o9), .null, .null])) :: (za.2 ++ t))) [za.2, [(q2, .inr (11, [.int (nI kd), .int (nI m), .int (nI o9), .null, .null]))], t] [1, 0, 2] rfl rfl rfl ?_
            show R g mL_test (k + 1 + 3) (2 ^ k - 1) (5 * 2 ^ k - 5) 190 [(5, .int (nI vv)), (4, .ref q2), (0, .int x), (1, .int (nI ne)), (2, .int (nI nt)), (3, .int (nI deep))] [.ref (tA k za.1), .ref q2] ((q2, .inr (11, [.int (nI kd), .int (nI m), .int (nI o9), .null, .null])) :: (za.2 ++ t)) (Dq (fun (z : TT (k + 1) × va_W) => some (.ref (tA (k + 1) z.1))) (fun z => z.2 ++ t) (fun z => TM g z.2 (k + 1) z.1 ∧ TB ne nt (k + 1) z.1 ∧ tkn (k + 1) z.1 ≤ tB deep))
            refine r_putf (ws2 := ((q2, .inr (11, [.int (nI kd), .int (nI m), .int (nI o9), .ref (tA k za.1), .null])) :: (za.2 ++ t))) 0 dL_test_190 fl_L_53 rfl (Nat.le_of_ble_eq_true rfl) rfl rfl rfl ?_
            refine r_aload 1 dL_test_193 rfl ?_
            refine r_getf (v := .int (nI kd)) 0 dL_test_195 fl_L_41 rfl rfl ?_
            refine r_bipush (v := (29 : Int32)) dL_test_198 (by decide) ?_
            refine r_icmp_le (tgt := 222) dL_test_200 (by decide) (fun c3 => ?_) (fun c3 => ?_)
            · have k30 : kd ≤ 29 := (nI_leI (a := kd) (b := 29) (by omega) (by decide)).mp c3
              have k31 : kd = 29 := by omega
              subst k31
              refine r_aload 1 dL_test_222 rfl ?_
              refine r_aret dL_test_224 rfl rfl (Or.inr ⟨_, rfl⟩) ?_
              exact Dq.mk (((q2, 29, m, o9), some za.1, none), ((q2, .inr (11, [.int (nI 29), .int (nI m), .int (nI o9), .ref (tA k za.1), .null])) :: za.2)) rfl rfl ⟨TM.one List.mem_cons_self (TM.mono (fun p hp => List.mem_cons_of_mem _ hp) k _ hza.1), TB.one hza.2.1, Nat.le_trans (Nat.le_of_eq (tkn_1 (by decide))) (tB_s (by omega) hza.2.2 (Nat.zero_le _))⟩
            · have k30 : 30 ≤ kd := by have : ¬ _ := fun h => c3 ((nI_leI (a := kd) (b := 29) (by omega) (by decide)).mpr h); omega
              refine r_aload 1 dL_test_203 rfl ?_
              refine r_iload_n 2 dL_test_205 rfl ?_
              refine r_bipush (v := (7 : Int32)) dL_test_206 (by decide) ?_
              refine r_imul dL_test_208 ?_
              refine r_iconst (v := (3 : Int32)) dL_test_209 (by decide) ?_
              refine r_iadd dL_test_210 ?_
              refine r_iload_n 3 dL_test_211 rfl ?_
              refine r_iload_n 4 dL_test_212 rfl ?_
              refine r_iload_n 5 dL_test_213 rfl ?_
              refine r_iconst (v := (1 : Int32)) dL_test_214 (by decide) ?_
              refine r_iadd dL_test_215 ?_
              refine r_top (w := .int (nI (deep + 1))) (by rw [nI_1]) ?_
              refine r_room (x2 := 0 + (2 ^ k - 1)) (y2 := 0 + (5 * 2 ^ k - 5)) (by omega) (by omega) ?_
              refine k_S (x := 0) (y := 0) (rest := [.ref q2]) dL_test_216 ks_L_63 (cl_test h0 hne h1 hnt k (by omega) (deep + 1) ((x * (7 : Int32)) + (3 : Int32)) _ (by omega) (by omega)) rfl rfl (Nat.le_of_ble_eq_true rfl) (by omega) (by decide) ?_
              rintro zb hzb
              refine r_seg (ws2 := ((q2, .inr (11, [.int (nI kd), .int (nI m), .int (nI o9), .ref (tA k za.1), .null])) :: (zb.2 ++ (za.2 ++ t)))) [zb.2, [(q2, .inr (11, [.int (nI kd), .int (nI m), .int (nI o9), .ref (tA k za.1), .null]))], za.2, t] [1, 0, 2, 3] rfl rfl rfl ?_
              show R g mL_test (k + 1 + 3) 0 0 219 [(5, .int (nI vv)), (4, .ref q2), (0, .int x), (1, .int (nI ne)), (2, .int (nI nt)), (3, .int (nI deep))] [.ref (tA k zb.1), .ref q2] ((q2, .inr (11, [.int (nI kd), .int (nI m), .int (nI o9), .ref (tA k za.1), .null])) :: (zb.2 ++ (za.2 ++ t))) (Dq (fun (z : TT (k + 1) × va_W) => some (.ref (tA (k + 1) z.1))) (fun z => z.2 ++ t) (fun z => TM g z.2 (k + 1) z.1 ∧ TB ne nt (k + 1) z.1 ∧ tkn (k + 1) z.1 ≤ tB deep))
              refine r_putf (ws2 := ((q2, .inr (11, [.int (nI kd), .int (nI m), .int (nI o9), .ref (tA k za.1), .ref (tA k zb.1)])) :: (zb.2 ++ (za.2 ++ t)))) 0 dL_test_219 fl_L_57 rfl (Nat.le_of_ble_eq_true rfl) rfl rfl rfl ?_
              refine r_aload 1 dL_test_222 rfl ?_
              refine r_aret dL_test_224 rfl rfl (Or.inr ⟨_, rfl⟩) ?_
              exact Dq.mk (((q2, kd, m, o9), some za.1, some zb.1), ((q2, .inr (11, [.int (nI kd), .int (nI m), .int (nI o9), .ref (tA k za.1), .ref (tA k zb.1)])) :: (zb.2 ++ za.2))) rfl (by rw [List.cons_append, List.append_assoc]) ⟨TM.two List.mem_cons_self (TM.mono (fun p hp => List.mem_cons_of_mem _ (List.mem_append_right _ hp)) k _ hza.1) (TM.mono (fun p hp => List.mem_cons_of_mem _ (List.mem_append_left _ hp)) k _ hzb.1), TB.two (by omega) hza.2.1 hzb.2.1, Nat.le_trans (Nat.le_of_eq (tkn_2 (by omega))) (tB_s (by omega) hza.2.2 hzb.2.2)⟩
        · have k25 : kd < 25 := by have : ¬ _ := fun h => c1 ((nI_leI (a := 25) (b := kd) (by decide) (by omega)).mpr h); omega
          refine r_aload 1 dL_test_125 rfl ?_
          refine r_iload_n 2 dL_test_127 rfl ?_
          refine r_iconst (v := (3 : Int32)) dL_test_128 (by decide) ?_
          refine r_imul dL_test_129 ?_
          refine r_bipush (v := (7 : Int32)) dL_test_130 (by decide) ?_
          refine r_iadd dL_test_132 ?_
          refine r_iload_n 3 dL_test_133 rfl ?_
          refine r_iload_n 4 dL_test_134 rfl ?_
          refine r_iload_n 5 dL_test_135 rfl ?_
          refine r_iconst (v := (1 : Int32)) dL_test_136 (by decide) ?_
          refine r_iadd dL_test_137 ?_
          refine r_top (w := .int (nI (deep + 1))) (by rw [nI_1]) ?_
          refine r_room (x2 := (2 ^ k - 1) + (2 ^ k - 1)) (y2 := (5 * 2 ^ k - 5) + (5 * 2 ^ k - 5)) (by omega) (by omega) ?_
          refine k_S (x := (2 ^ k - 1)) (y := (5 * 2 ^ k - 5)) (rest := [.ref q2]) dL_test_138 ks_L_49 (cl_sum h0 hne h1 hnt k (by omega) (deep + 1) ((x * (3 : Int32)) + (7 : Int32)) _ (by omega) (by omega)) rfl rfl (Nat.le_of_ble_eq_true rfl) (by omega) (by decide) ?_
          rintro za hza
          refine r_seg (ws2 := ((q2, .inr (11, [.int (nI kd), .int (nI m), .int (nI o9), .null, .null])) :: (za.2 ++ t))) [za.2, [(q2, .inr (11, [.int (nI kd), .int (nI m), .int (nI o9), .null, .null]))], t] [1, 0, 2] rfl rfl rfl ?_
          show R g mL_test (k + 1 + 3) (2 ^ k - 1) (5 * 2 ^ k - 5) 141 [(5, .int (nI vv)), (4, .ref q2), (0, .int x), (1, .int (nI ne)), (2, .int (nI nt)), (3, .int (nI deep))] [.ref (tA k za.1), .ref q2] ((q2, .inr (11, [.int (nI kd), .int (nI m), .int (nI o9), .null, .null])) :: (za.2 ++ t)) (Dq (fun (z : TT (k + 1) × va_W) => some (.ref (tA (k + 1) z.1))) (fun z => z.2 ++ t) (fun z => TM g z.2 (k + 1) z.1 ∧ TB ne nt (k + 1) z.1 ∧ tkn (k + 1) z.1 ≤ tB deep))
          refine r_putf (ws2 := ((q2, .inr (11, [.int (nI kd), .int (nI m), .int (nI o9), .ref (tA k za.1), .null])) :: (za.2 ++ t))) 0 dL_test_141 fl_L_53 rfl (Nat.le_of_ble_eq_true rfl) rfl rfl rfl ?_
          refine r_aload 1 dL_test_144 rfl ?_
          refine r_iload_n 2 dL_test_146 rfl ?_
          refine r_iconst (v := (5 : Int32)) dL_test_147 (by decide) ?_
          refine r_imul dL_test_148 ?_
          refine r_iconst (v := (1 : Int32)) dL_test_149 (by decide) ?_
          refine r_iadd dL_test_150 ?_
          refine r_iload_n 3 dL_test_151 rfl ?_
          refine r_iload_n 4 dL_test_152 rfl ?_
          refine r_iload_n 5 dL_test_153 rfl ?_
          refine r_iconst (v := (1 : Int32)) dL_test_154 (by decide) ?_
          refine r_iadd dL_test_155 ?_
          refine r_top (w := .int (nI (deep + 1))) (by rw [nI_1]) ?_
          refine r_room (x2 := 0 + (2 ^ k - 1)) (y2 := 0 + (5 * 2 ^ k - 5)) (by omega) (by omega) ?_
          refine k_S (x := 0) (y := 0) (rest := [.ref q2]) dL_test_156 ks_L_49 (cl_sum h0 hne h1 hnt k (by omega) (deep + 1) ((x * (5 : Int32)) + (1 : Int32)) _ (by omega) (by omega)) rfl rfl (Nat.le_of_ble_eq_true rfl) (by omega) (by decide) ?_
          rintro zb hzb
          refine r_seg (ws2 := ((q2, .inr (11, [.int (nI kd), .int (nI m), .int (nI o9), .ref (tA k za.1), .null])) :: (zb.2 ++ (za.2 ++ t)))) [zb.2, [(q2, .inr (11, [.int (nI kd), .int (nI m), .int (nI o9), .ref (tA k za.1), .null]))], za.2, t] [1, 0, 2, 3] rfl rfl rfl ?_
          show R g mL_test (k + 1 + 3) 0 0 159 [(5, .int (nI vv)), (4, .ref q2), (0, .int x), (1, .int (nI ne)), (2, .int (nI nt)), (3, .int (nI deep))] [.ref (tA k zb.1), .ref q2] ((q2, .inr (11, [.int (nI kd), .int (nI m), .int (nI o9), .ref (tA k za.1), .null])) :: (zb.2 ++ (za.2 ++ t))) (Dq (fun (z : TT (k + 1) × va_W) => some (.ref (tA (k + 1) z.1))) (fun z => z.2 ++ t) (fun z => TM g z.2 (k + 1) z.1 ∧ TB ne nt (k + 1) z.1 ∧ tkn (k + 1) z.1 ≤ tB deep))
          refine r_putf (ws2 := ((q2, .inr (11, [.int (nI kd), .int (nI m), .int (nI o9), .ref (tA k za.1), .ref (tA k zb.1)])) :: (zb.2 ++ (za.2 ++ t)))) 0 dL_test_159 fl_L_57 rfl (Nat.le_of_ble_eq_true rfl) rfl rfl rfl ?_
          refine r_goto (tgt := 222) dL_test_162 (by decide) ?_
          refine r_aload 1 dL_test_222 rfl ?_
          refine r_aret dL_test_224 rfl rfl (Or.inr ⟨_, rfl⟩) ?_
          exact Dq.mk (((q2, kd, m, o9), some za.1, some zb.1), ((q2, .inr (11, [.int (nI kd), .int (nI m), .int (nI o9), .ref (tA k za.1), .ref (tA k zb.1)])) :: (zb.2 ++ za.2))) rfl (by rw [List.cons_append, List.append_assoc]) ⟨TM.two List.mem_cons_self (TM.mono (fun p hp => List.mem_cons_of_mem _ (List.mem_append_right _ hp)) k _ hza.1) (TM.mono (fun p hp => List.mem_cons_of_mem _ (List.mem_append_left _ hp)) k _ hzb.1), TB.cmp (by omega) k25 hza.2.1 hzb.2.1, Nat.le_trans (Nat.le_of_eq (tkn_c (by omega))) (sT_s hza.2.2 hzb.2.2)⟩
      refine r_icmp_ne (tgt := 95) dL_test_88 (by decide) (fun c0 => ?_) (fun c0 => ?_)
      · have k28 : ¬ kd = 28 := fun e => c0 (by rw [e]; rfl)
        refine r_iload_n 4 dL_test_95 rfl ?_
        exact J96 nt (Or.inr ⟨k28, rfl⟩)
      · have k28 : kd = 28 := (nI_eq (a := kd) (b := 28) (by omega) (by decide)).mp c0
        refine r_iload_n 3 dL_test_91 rfl ?_
        refine r_goto (tgt := 96) dL_test_92 (by decide) ?_
        exact J96 ne (Or.inl ⟨k28, rfl⟩)
    have J49 : (deep ≤ 1 ∨ vv ≤ 10) → R g mL_test (k + 1 + 3) (2 ^ k - 1 + (2 ^ k - 1)) (5 * 2 ^ k - 5 + (5 * 2 ^ k - 5)) 49 [(5, .int (nI vv)), (4, .ref q2), (0, .int x), (1, .int (nI ne)), (2, .int (nI nt)), (3, .int (nI deep))] [.ref q2] ((q2, .inr (11, [.int (0 : Int32), .int (0 : Int32), .int (0 : Int32), .null, .null])) :: t) (Dq (fun (z : TT (k + 1) × va_W) => some (.ref (tA (k + 1) z.1))) (fun z => z.2 ++ t) (fun z => TM g z.2 (k + 1) z.1 ∧ TB ne nt (k + 1) z.1 ∧ tkn (k + 1) z.1 ≤ tB deep)) := by
      intro hdv
      refine r_iload 0 dL_test_49 rfl ?_
      refine r_bipush (v := (11 : Int32)) dL_test_51 (by decide) ?_
      refine r_icmp_ge (tgt := 66) dL_test_53 (by decide) (fun c3 => ?_) (fun c3 => ?_)
      · have v12 : 11 ≤ vv := (nI_leI (a := 11) (b := vv) (by decide) (by omega)).mp c3
        refine r_bipush (v := (29 : Int32)) dL_test_66 (by decide) ?_
        refine r_iload 0 dL_test_68 rfl ?_
        refine r_iconst (v := (3 : Int32)) dL_test_70 (by decide) ?_
        refine r_irem dL_test_71 (by decide) ?_
        refine r_top (w := .int (nI (vv % 3))) (congrArg Value.int (pk_rem (a := vv) (d := 3) (by omega) (by decide) (by decide))) ?_
        refine r_iadd dL_test_72 ?_
        refine r_top (w := .int (nI (29 + vv % 3))) (congrArg Value.int (nI_add 29 (vv % 3))) ?_
        exact J73 _ (Or.inr ⟨by omega, by omega, by omega⟩)
      · refine r_bipush (v := (25 : Int32)) dL_test_56 (by decide) ?_
        refine r_iload 0 dL_test_58 rfl ?_
        refine r_iconst (v := (4 : Int32)) dL_test_60 (by decide) ?_
        refine r_irem dL_test_61 (by decide) ?_
        refine r_top (w := .int (nI (vv % 4))) (congrArg Value.int (pk_rem (a := vv) (d := 4) (by omega) (by decide) (by decide))) ?_
        refine r_iadd dL_test_62 ?_
        refine r_top (w := .int (nI (25 + vv % 4))) (congrArg Value.int (nI_add 25 (vv % 4))) ?_
        refine r_goto (tgt := 73) dL_test_63 (by decide) ?_
        exact J73 _ (Or.inl (by omega))
    refine r_iload 0 dL_test_21 rfl ?_
    refine r_iconst (v := (4 : Int32)) dL_test_23 (by decide) ?_
    refine r_icmp_lt (tgt := 39) dL_test_24 (by decide) (fun c4 => ?_) (fun c4 => ?_)
    · refine r_bipush (v := (20 : Int32)) dL_test_39 (by decide) ?_
      refine r_iload 0 dL_test_41 rfl ?_
      refine r_iconst (v := (5 : Int32)) dL_test_43 (by decide) ?_
      refine r_irem dL_test_44 (by decide) ?_
      refine r_top (w := .int (nI (vv % 5))) (congrArg Value.int (pk_rem (a := vv) (d := 5) (by omega) (by decide) (by decide))) ?_
      refine r_iadd dL_test_45 ?_
      refine r_top (w := .int (nI (20 + vv % 5))) (congrArg Value.int (nI_add 20 (vv % 5))) ?_
      refine r_goto (tgt := 73) dL_test_46 (by decide) ?_
      exact J73 _ (Or.inl (by omega))
    · refine r_iload_n 5 dL_test_27 rfl ?_
      refine r_iconst (v := (1 : Int32)) dL_test_28 (by decide) ?_
      refine r_icmp_le (tgt := 49) dL_test_29 (by decide) (fun c7 => ?_) (fun c7 => ?_)
      · exact J49 (Or.inl ((nI_leI (a := deep) (b := 1) (by omega) (by decide)).mp c7))
      · refine r_iload 0 dL_test_32 rfl ?_
        refine r_bipush (v := (10 : Int32)) dL_test_34 (by decide) ?_
        refine r_icmp_le (tgt := 49) dL_test_36 (by decide) (fun c8 => ?_) (fun c8 => ?_)
        · exact J49 (Or.inr ((nI_leI (a := vv) (b := 10) (by omega) (by decide)).mp c8))
        · refine r_bipush (v := (20 : Int32)) dL_test_39 (by decide) ?_
          refine r_iload 0 dL_test_41 rfl ?_
          refine r_iconst (v := (5 : Int32)) dL_test_43 (by decide) ?_
          refine r_irem dL_test_44 (by decide) ?_
          refine r_top (w := .int (nI (vv % 5))) (congrArg Value.int (pk_rem (a := vv) (d := 5) (by omega) (by decide) (by decide))) ?_
          refine r_iadd dL_test_45 ?_
          refine r_top (w := .int (nI (20 + vv % 5))) (congrArg Value.int (nI_add 20 (vv % 5))) ?_
          refine r_goto (tgt := 73) dL_test_46 (by decide) ?_
          exact J73 _ (Or.inl (by omega))
