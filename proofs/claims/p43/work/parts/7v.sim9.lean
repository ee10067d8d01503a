set_option maxRecDepth 20000 in
set_option maxHeartbeats 4000000 in
theorem cl_toldC {g : GG} {t : va_W} {a ne nt : Nat} {f : Nat → Int32} (ma : (a, iA g 5 f) ∈ t) (vf : CV1 ne nt f) (hne : ne ≤ 10) (hnt : nt ≤ 10) : Ct g mL_told 8 40 60000 [.ref a] t (Dq (fun (z : Nat × Nat × (Nat → Int32)) => some (.ref z.1)) (fun z => (z.1, .inr (12, [.ref z.2.1, .int (0 : Int32), .int (0 : Int32), .int (0 : Int32)])) :: (z.2.1, yA g (clT f).length z.2.2) :: t) (fun z => LB z.2.2 (clT f))) := by
  refine Ct.ofR (by decide +kernel) rfl (Nat.le_of_ble_eq_true rfl) ?_
  show R g mL_told 8 40 60000 0 [(0, .ref a)] [] t _
  have hcl := clR_len vf hne
  obtain ⟨v0, ⟨tt, ht, e1⟩, ⟨ee, he, e2⟩, v3, v4⟩ := id vf
  refine r_new (N := 4) (x := 39) (y := 59996) dL_told_0 nl_L_66 (fun q1 => ?_)
  refine r_dup dL_told_3 rfl ?_
  refine k_I (x := 38) (y := 59980) (rest := [.ref q1]) dL_told_4 ki_L_68 (cj_sb) rfl rfl (Nat.le_of_ble_eq_true rfl) (by decide) (by decide) ?_
  rintro bv1 -
  show R g mL_told 8 38 59980 7 [(0, .ref a)] [.ref q1] ((q1, .inr (13, [.ref bv1, .int (0 : Int32), .int (0 : Int32), .int (nI ([] : List Int32).length)])) :: ((bv1, yA g 16 (fun _ => 0)) :: t)) _
  refine r_ldcS (i := 16) dL_told_7 rfl ?_
  obtain ⟨L7, eL8⟩ : ∃ L9 : List Int32, L9 = ([] : List Int32) ++ kT 16 := ⟨_, rfl⟩
  have bn6 : L7.length ≤ 7 := by rw [eL8]; exact lnA (L := ([] : List Int32)) (L2 := kT 16) (n := 0) (n2 := 7) (Nat.le_refl 0) (Nat.le_of_eq kl_16)
  refine k_V (x := 37) (y := 55978) (rest := []) 0 dL_told_9 kv_L_71 (cj_apK (i := 16) (by decide) eL8 BL.nil (Nat.le_trans bn6 (by decide))) rfl rfl rfl rfl (Nat.le_of_ble_eq_true rfl) (by decide) (by decide) ?_
  rintro ⟨bv2, bm3, bf4⟩ bh5
  try dsimp only at bh5
  show R g mL_told 8 37 55978 12 [(0, .ref a)] [.ref q1] ((q1, .inr (13, [.ref bv2, .int (0 : Int32), .int (0 : Int32), .int (nI L7.length)])) :: ((bv2, yA g bm3 bf4) :: t)) _
  refine r_aload_n 0 dL_told_12 rfl ?_
  refine r_iconst (v := (1 : Int32)) dL_told_13 (by decide) ?_
  refine r_ialdm (n := 5) (f := f) dL_told_14 (List.mem_cons_of_mem _ (List.mem_cons_of_mem _ ma)) (by decide) ?_
  refine r_top (w := .int (nI tt)) (by rw [cl1, e1]) ?_
  obtain ⟨L14, eL15⟩ : ∃ L9 : List Int32, L9 = L7 ++ dgL tt := ⟨_, rfl⟩
  have bn13 : L14.length ≤ 8 := by rw [eL15]; exact lnA (L := L7) (L2 := dgL tt) (n := 7) (n2 := 1) bn6 (dgL_t1 (v := tt) (by omega))
  refine k_V (x := 36) (y := 51976) (rest := []) 0 dL_told_15 kv_L_75 (cj_apI (x9 := tt) (by omega) eL15 bh5 (Nat.le_trans bn13 (by decide))) rfl rfl rfl rfl (Nat.le_of_ble_eq_true rfl) (by decide) (by decide) ?_
  rintro ⟨bv9, bm10, bf11⟩ bh12
  try dsimp only at bh12
  show R g mL_told 8 36 51976 18 [(0, .ref a)] [.ref q1] ((q1, .inr (13, [.ref bv9, .int (0 : Int32), .int (0 : Int32), .int (nI L14.length)])) :: ((bv9, yA g bm10 bf11) :: t)) _
  refine r_ldcS (i := 17) dL_told_18 rfl ?_
  obtain ⟨L21, eL22⟩ : ∃ L9 : List Int32, L9 = L14 ++ kT 17 := ⟨_, rfl⟩
  have bn20 : L21.length ≤ 10 := by rw [eL22]; exact lnA (L := L14) (L2 := kT 17) (n := 8) (n2 := 2) bn13 (Nat.le_of_eq kl_17)
  refine k_V (x := 35) (y := 47974) (rest := []) 0 dL_told_20 kv_L_71 (cj_apK (i := 17) (by decide) eL22 bh12 (Nat.le_trans bn20 (by decide))) rfl rfl rfl rfl (Nat.le_of_ble_eq_true rfl) (by decide) (by decide) ?_
  rintro ⟨bv16, bm17, bf18⟩ bh19
  try dsimp only at bh19
  show R g mL_told 8 35 47974 23 [(0, .ref a)] [.ref q1] ((q1, .inr (13, [.ref bv16, .int (0 : Int32), .int (0 : Int32), .int (nI L21.length)])) :: ((bv16, yA g bm17 bf18) :: t)) _
  refine r_aload_n 0 dL_told_23 rfl ?_
  refine r_iconst (v := (2 : Int32)) dL_told_24 (by decide) ?_
  refine r_ialdm (n := 5) (f := f) dL_told_25 (List.mem_cons_of_mem _ (List.mem_cons_of_mem _ ma)) (by decide) ?_
  refine r_top (w := .int (nI ee)) (by rw [cl2, e2]) ?_
  obtain ⟨L28, eL29⟩ : ∃ L9 : List Int32, L9 = L21 ++ dgL ee := ⟨_, rfl⟩
  have bn27 : L28.length ≤ 11 := by rw [eL29]; exact lnA (L := L21) (L2 := dgL ee) (n := 10) (n2 := 1) bn20 (dgL_t1 (v := ee) (by omega))
  refine k_V (x := 34) (y := 43972) (rest := []) 0 dL_told_26 kv_L_75 (cj_apI (x9 := ee) (by omega) eL29 bh19 (Nat.le_trans bn27 (by decide))) rfl rfl rfl rfl (Nat.le_of_ble_eq_true rfl) (by decide) (by decide) ?_
  rintro ⟨bv23, bm24, bf25⟩ bh26
  try dsimp only at bh26
  show R g mL_told 8 34 43972 29 [(0, .ref a)] [.ref q1] ((q1, .inr (13, [.ref bv23, .int (0 : Int32), .int (0 : Int32), .int (nI L28.length)])) :: ((bv23, yA g bm24 bf25) :: t)) _
  have J130 : ∀ (s9 b9 : Nat) (f9 : Nat → Int32), LB f9 (clR f) → R g mL_told 8 4 12010 130 [(0, .ref a)] [.ref s9, .ref q1] ((q1, .inr (13, [.ref bv23, .int (0 : Int32), .int (0 : Int32), .int (nI L28.length)])) :: ((bv23, yA g bm24 bf25) :: ((s9, .inr (12, [.ref b9, .int (0 : Int32), .int (0 : Int32), .int (0 : Int32)])) :: ((b9, yA g (clR f).length f9) :: t)))) (Dq (fun (z : Nat × Nat × (Nat → Int32)) => some (.ref z.1)) (fun z => (z.1, .inr (12, [.ref z.2.1, .int (0 : Int32), .int (0 : Int32), .int (0 : Int32)])) :: (z.2.1, yA g (clT f).length z.2.2) :: t) (fun z => LB z.2.2 (clT f))) := by
    intro s9 b9 f9 h9
    obtain ⟨L35, eL36⟩ : ∃ L9 : List Int32, L9 = L28 ++ (clR f) := ⟨_, rfl⟩
    have bn34 : L35.length ≤ 23 := by rw [eL36]; exact lnA (L := L28) (L2 := (clR f)) (n := 11) (n2 := 12) bn27 (hcl)
    refine k_V (x := 3) (y := 8008) (rest := []) 0 dL_told_130 kv_L_71 (cj_apX (L2 := (clR f)) (z := (Sum.inr (s9, b9, f9))) h9 eL36 bh26 (Nat.le_trans bn34 (by decide))) rfl rfl rfl rfl (Nat.le_of_ble_eq_true rfl) (by decide) (by decide) ?_
    rintro ⟨bv30, bm31, bf32⟩ bh33
    try dsimp only at bh33
    show R g mL_told 8 3 8008 133 [(0, .ref a)] [.ref q1] ((q1, .inr (13, [.ref bv30, .int (0 : Int32), .int (0 : Int32), .int (nI L35.length)])) :: ((bv30, yA g bm31 bf32) :: ((s9, .inr (12, [.ref b9, .int (0 : Int32), .int (0 : Int32), .int (0 : Int32)])) :: ((b9, yA g (clR f).length f9) :: t)))) (Dq (fun (z : Nat × Nat × (Nat → Int32)) => some (.ref z.1)) (fun z => (z.1, .inr (12, [.ref z.2.1, .int (0 : Int32), .int (0 : Int32), .int (0 : Int32)])) :: (z.2.1, yA g (clT f).length z.2.2) :: t) (fun z => LB z.2.2 (clT f)))
    refine r_seg (ws2 := ((q1, .inr (13, [.ref bv30, .int (0 : Int32), .int (0 : Int32), .int (nI L35.length)])) :: ((bv30, yA g bm31 bf32) :: t))) [[(q1, .inr (13, [.ref bv30, .int (0 : Int32), .int (0 : Int32), .int (nI L35.length)]))], [(bv30, yA g bm31 bf32)], [(s9, .inr (12, [.ref b9, .int (0 : Int32), .int (0 : Int32), .int (0 : Int32)]))], [(b9, yA g (clR f).length f9)], t] [0, 1, 4] rfl rfl rfl ?_
    refine r_ldcS (i := 14) dL_told_133 rfl ?_
    obtain ⟨L42, eL43⟩ : ∃ L9 : List Int32, L9 = L35 ++ kT 14 := ⟨_, rfl⟩
    have bn41 : L42.length ≤ 24 := by rw [eL43]; exact lnA (L := L35) (L2 := kT 14) (n := 23) (n2 := 1) bn34 (Nat.le_of_eq kl_14)
    refine k_V (x := 2) (y := 4006) (rest := []) 0 dL_told_135 kv_L_71 (cj_apK (i := 14) (by decide) eL43 bh33 (Nat.le_trans bn41 (by decide))) rfl rfl rfl rfl (Nat.le_of_ble_eq_true rfl) (by decide) (by decide) ?_
    rintro ⟨bv37, bm38, bf39⟩ bh40
    try dsimp only at bh40
    show R g mL_told 8 2 4006 138 [(0, .ref a)] [.ref q1] ((q1, .inr (13, [.ref bv37, .int (0 : Int32), .int (0 : Int32), .int (nI L42.length)])) :: ((bv37, yA g bm38 bf39) :: t)) (Dq (fun (z : Nat × Nat × (Nat → Int32)) => some (.ref z.1)) (fun z => (z.1, .inr (12, [.ref z.2.1, .int (0 : Int32), .int (0 : Int32), .int (0 : Int32)])) :: (z.2.1, yA g (clT f).length z.2.2) :: t) (fun z => LB z.2.2 (clT f)))
    refine k_V (x := 0) (y := 0) (rest := []) 0 dL_told_138 kv_L_84 (cj_strB bh40) rfl rfl rfl rfl (Nat.le_of_ble_eq_true rfl) (by decide) (by decide) ?_
    rintro ⟨ts44, tb45, tf46⟩ th47
    try dsimp only at th47
    show R g mL_told 8 0 0 141 [(0, .ref a)] [.ref ts44] ((ts44, .inr (12, [.ref tb45, .int (0 : Int32), .int (0 : Int32), .int (0 : Int32)])) :: ((tb45, yA g L42.length tf46) :: ((q1, .inr (13, [.ref bv37, .int (0 : Int32), .int (0 : Int32), .int (nI L42.length)])) :: ((bv37, yA g bm38 bf39) :: t)))) (Dq (fun (z : Nat × Nat × (Nat → Int32)) => some (.ref z.1)) (fun z => (z.1, .inr (12, [.ref z.2.1, .int (0 : Int32), .int (0 : Int32), .int (0 : Int32)])) :: (z.2.1, yA g (clT f).length z.2.2) :: t) (fun z => LB z.2.2 (clT f)))
    refine r_seg (ws2 := ((ts44, .inr (12, [.ref tb45, .int (0 : Int32), .int (0 : Int32), .int (0 : Int32)])) :: ((tb45, yA g L42.length tf46) :: t))) [[(ts44, .inr (12, [.ref tb45, .int (0 : Int32), .int (0 : Int32), .int (0 : Int32)]))], [(tb45, yA g L42.length tf46)], [(q1, .inr (13, [.ref bv37, .int (0 : Int32), .int (0 : Int32), .int (nI L42.length)]))], [(bv37, yA g bm38 bf39)], t] [0, 1, 4] rfl rfl rfl ?_
    have ec : clT f = L42 := by rw [eL43, eL36, eL29, eL22, eL15, eL8]; unfold clT; rw [e1, e2, nN_nI (by omega), nN_nI (by omega)]
    rw [ec]
    refine r_aret dL_told_141 rfl rfl (Or.inr ⟨_, rfl⟩) ?_
    exact Dq.mk (ts44, tb45, tf46) rfl rfl th47
  refine r_aload_n 0 dL_told_29 rfl ?_
  refine r_iconst (v := (0 : Int32)) dL_told_30 (by decide) ?_
  refine r_ialdm (n := 5) (f := f) dL_told_31 (List.mem_cons_of_mem _ (List.mem_cons_of_mem _ ma)) (by decide) ?_
  refine r_top (w := .int (f 0)) (by rw [cl0]) ?_
  refine r_if_ne (tgt := 97) dL_told_32 (by decide) (fun h0 => ?_) (fun h0 => ?_)
  · obtain ⟨oo, ho, e3⟩ := v3 h0
    refine r_new (N := 4) (x := 33) (y := 43968) dL_told_97 nl_L_66 (fun q2 => ?_)
    refine r_dup dL_told_100 rfl ?_
    refine k_I (x := 32) (y := 43952) (rest := [.ref q2, .ref q1]) dL_told_101 ki_L_68 (cj_sb) rfl rfl (Nat.le_of_ble_eq_true rfl) (by decide) (by decide) ?_
    rintro bv48 -
    show R g mL_told 8 32 43952 104 [(0, .ref a)] [.ref q2, .ref q1] ((q2, .inr (13, [.ref bv48, .int (0 : Int32), .int (0 : Int32), .int (nI ([] : List Int32).length)])) :: ((bv48, yA g 16 (fun _ => 0)) :: ((q1, .inr (13, [.ref bv23, .int (0 : Int32), .int (0 : Int32), .int (nI L28.length)])) :: ((bv23, yA g bm24 bf25) :: t)))) _
    refine r_aload_n 0 dL_told_104 rfl ?_
    refine r_iconst (v := (0 : Int32)) dL_told_105 (by decide) ?_
    refine r_ialdm (n := 5) (f := f) dL_told_106 (List.mem_cons_of_mem _ (List.mem_cons_of_mem _ (List.mem_cons_of_mem _ (List.mem_cons_of_mem _ ma)))) (by decide) ?_
    refine r_top (w := .int (f 0)) (by rw [cl0]) ?_
    refine r_iconst (v := (1 : Int32)) dL_told_107 (by decide) ?_
    refine r_icmp_ne (tgt := 116) dL_told_108 (by decide) (fun h1 => ?_) (fun h1 => ?_)
    · refine r_ldcS (i := 22) dL_told_116 rfl ?_
      obtain ⟨L54, eL55⟩ : ∃ L9 : List Int32, L9 = ([] : List Int32) ++ kT 22 := ⟨_, rfl⟩
      have bn53 : L54.length ≤ 7 := by rw [eL55]; exact lnA (L := ([] : List Int32)) (L2 := kT 22) (n := 0) (n2 := 7) (Nat.le_refl 0) (Nat.le_of_eq kl_22)
      refine k_V (x := 31) (y := 39950) (rest := [.ref q1]) 0 dL_told_118 kv_L_71 (cj_apK (i := 22) (by decide) eL55 BL.nil (Nat.le_trans bn53 (by decide))) rfl rfl rfl rfl (Nat.le_of_ble_eq_true rfl) (by decide) (by decide) ?_
      rintro ⟨bv49, bm50, bf51⟩ bh52
      try dsimp only at bh52
      show R g mL_told 8 31 39950 121 [(0, .ref a)] [.ref q2, .ref q1] ((q2, .inr (13, [.ref bv49, .int (0 : Int32), .int (0 : Int32), .int (nI L54.length)])) :: ((bv49, yA g bm50 bf51) :: ((q1, .inr (13, [.ref bv23, .int (0 : Int32), .int (0 : Int32), .int (nI L28.length)])) :: ((bv23, yA g bm24 bf25) :: t)))) _
      refine r_aload_n 0 dL_told_121 rfl ?_
      refine r_iconst (v := (3 : Int32)) dL_told_122 (by decide) ?_
      refine r_ialdm (n := 5) (f := f) dL_told_123 (List.mem_cons_of_mem _ (List.mem_cons_of_mem _ (List.mem_cons_of_mem _ (List.mem_cons_of_mem _ ma)))) (by decide) ?_
      refine r_top (w := .int (nI oo)) (by rw [cl3, e3]) ?_
      obtain ⟨L61, eL62⟩ : ∃ L9 : List Int32, L9 = L54 ++ dgL oo := ⟨_, rfl⟩
      have bn60 : L61.length ≤ 8 := by rw [eL62]; exact lnA (L := L54) (L2 := dgL oo) (n := 7) (n2 := 1) bn53 (dgL_t1 (v := oo) (by omega))
      refine k_V (x := 30) (y := 35948) (rest := [.ref q1]) 0 dL_told_124 kv_L_75 (cj_apI (x9 := oo) (by omega) eL62 bh52 (Nat.le_trans bn60 (by decide))) rfl rfl rfl rfl (Nat.le_of_ble_eq_true rfl) (by decide) (by decide) ?_
      rintro ⟨bv56, bm57, bf58⟩ bh59
      try dsimp only at bh59
      show R g mL_told 8 30 35948 127 [(0, .ref a)] [.ref q2, .ref q1] ((q2, .inr (13, [.ref bv56, .int (0 : Int32), .int (0 : Int32), .int (nI L61.length)])) :: ((bv56, yA g bm57 bf58) :: ((q1, .inr (13, [.ref bv23, .int (0 : Int32), .int (0 : Int32), .int (nI L28.length)])) :: ((bv23, yA g bm24 bf25) :: t)))) _
      refine k_V (x := 28) (y := 31942) (rest := [.ref q1]) 0 dL_told_127 kv_L_84 (cj_strB bh59) rfl rfl rfl rfl (Nat.le_of_ble_eq_true rfl) (by decide) (by decide) ?_
      rintro ⟨ts63, tb64, tf65⟩ th66
      try dsimp only at th66
      show R g mL_told 8 28 31942 130 [(0, .ref a)] [.ref ts63, .ref q1] ((ts63, .inr (12, [.ref tb64, .int (0 : Int32), .int (0 : Int32), .int (0 : Int32)])) :: ((tb64, yA g L61.length tf65) :: ((q2, .inr (13, [.ref bv56, .int (0 : Int32), .int (0 : Int32), .int (nI L61.length)])) :: ((bv56, yA g bm57 bf58) :: ((q1, .inr (13, [.ref bv23, .int (0 : Int32), .int (0 : Int32), .int (nI L28.length)])) :: ((bv23, yA g bm24 bf25) :: t)))))) _
      refine r_seg (ws2 := ((q1, .inr (13, [.ref bv23, .int (0 : Int32), .int (0 : Int32), .int (nI L28.length)])) :: ((bv23, yA g bm24 bf25) :: ((ts63, .inr (12, [.ref tb64, .int (0 : Int32), .int (0 : Int32), .int (0 : Int32)])) :: ((tb64, yA g L61.length tf65) :: t))))) [[(ts63, .inr (12, [.ref tb64, .int (0 : Int32), .int (0 : Int32), .int (0 : Int32)]))], [(tb64, yA g L61.length tf65)], [(q2, .inr (13, [.ref bv56, .int (0 : Int32), .int (0 : Int32), .int (nI L61.length)]))], [(bv56, yA g bm57 bf58)], [(q1, .inr (13, [.ref bv23, .int (0 : Int32), .int (0 : Int32), .int (nI L28.length)]))], [(bv23, yA g bm24 bf25)], t] [4, 5, 0, 1, 6] rfl rfl rfl ?_
      refine r_room (x2 := 4) (y2 := 12010) (by decide) (by decide) ?_
      have ec : clR f = L61 := by rw [eL62, eL55]; unfold clR; rw [if_neg h0, if_neg h1, e3, nN_nI (by omega)]
      rw [← ec] at th66 ⊢
      exact J130 ts63 tb64 tf65 th66
    · refine r_ldcS (i := 21) dL_told_111 rfl ?_
      refine r_goto (tgt := 118) dL_told_113 (by decide) ?_
      obtain ⟨L72, eL73⟩ : ∃ L9 : List Int32, L9 = ([] : List Int32) ++ kT 21 := ⟨_, rfl⟩
      have bn71 : L72.length ≤ 9 := by rw [eL73]; exact lnA (L := ([] : List Int32)) (L2 := kT 21) (n := 0) (n2 := 9) (Nat.le_refl 0) (Nat.le_of_eq kl_21)
      refine k_V (x := 31) (y := 39950) (rest := [.ref q1]) 0 dL_told_118 kv_L_71 (cj_apK (i := 21) (by decide) eL73 BL.nil (Nat.le_trans bn71 (by decide))) rfl rfl rfl rfl (Nat.le_of_ble_eq_true rfl) (by decide) (by decide) ?_
      rintro ⟨bv67, bm68, bf69⟩ bh70
      try dsimp only at bh70
      show R g mL_told 8 31 39950 121 [(0, .ref a)] [.ref q2, .ref q1] ((q2, .inr (13, [.ref bv67, .int (0 : Int32), .int (0 : Int32), .int (nI L72.length)])) :: ((bv67, yA g bm68 bf69) :: ((q1, .inr (13, [.ref bv23, .int (0 : Int32), .int (0 : Int32), .int (nI L28.length)])) :: ((bv23, yA g bm24 bf25) :: t)))) _
      refine r_aload_n 0 dL_told_121 rfl ?_
      refine r_iconst (v := (3 : Int32)) dL_told_122 (by decide) ?_
      refine r_ialdm (n := 5) (f := f) dL_told_123 (List.mem_cons_of_mem _ (List.mem_cons_of_mem _ (List.mem_cons_of_mem _ (List.mem_cons_of_mem _ ma)))) (by decide) ?_
      refine r_top (w := .int (nI oo)) (by rw [cl3, e3]) ?_
      obtain ⟨L79, eL80⟩ : ∃ L9 : List Int32, L9 = L72 ++ dgL oo := ⟨_, rfl⟩
      have bn78 : L79.length ≤ 10 := by rw [eL80]; exact lnA (L := L72) (L2 := dgL oo) (n := 9) (n2 := 1) bn71 (dgL_t1 (v := oo) (by omega))
      refine k_V (x := 30) (y := 35948) (rest := [.ref q1]) 0 dL_told_124 kv_L_75 (cj_apI (x9 := oo) (by omega) eL80 bh70 (Nat.le_trans bn78 (by decide))) rfl rfl rfl rfl (Nat.le_of_ble_eq_true rfl) (by decide) (by decide) ?_
      rintro ⟨bv74, bm75, bf76⟩ bh77
      try dsimp only at bh77
      show R g mL_told 8 30 35948 127 [(0, .ref a)] [.ref q2, .ref q1] ((q2, .inr (13, [.ref bv74, .int (0 : Int32), .int (0 : Int32), .int (nI L79.length)])) :: ((bv74, yA g bm75 bf76) :: ((q1, .inr (13, [.ref bv23, .int (0 : Int32), .int (0 : Int32), .int (nI L28.length)])) :: ((bv23, yA g bm24 bf25) :: t)))) _
      refine k_V (x := 28) (y := 31942) (rest := [.ref q1]) 0 dL_told_127 kv_L_84 (cj_strB bh77) rfl rfl rfl rfl (Nat.le_of_ble_eq_true rfl) (by decide) (by decide) ?_
      rintro ⟨ts81, tb82, tf83⟩ th84
      try dsimp only at th84
      show R g mL_told 8 28 31942 130 [(0, .ref a)] [.ref ts81, .ref q1] ((ts81, .inr (12, [.ref tb82, .int (0 : Int32), .int (0 : Int32), .int (0 : Int32)])) :: ((tb82, yA g L79.length tf83) :: ((q2, .inr (13, [.ref bv74, .int (0 : Int32), .int (0 : Int32), .int (nI L79.length)])) :: ((bv74, yA g bm75 bf76) :: ((q1, .inr (13, [.ref bv23, .int (0 : Int32), .int (0 : Int32), .int (nI L28.length)])) :: ((bv23, yA g bm24 bf25) :: t)))))) _
      refine r_seg (ws2 := ((q1, .inr (13, [.ref bv23, .int (0 : Int32), .int (0 : Int32), .int (nI L28.length)])) :: ((bv23, yA g bm24 bf25) :: ((ts81, .inr (12, [.ref tb82, .int (0 : Int32), .int (0 : Int32), .int (0 : Int32)])) :: ((tb82, yA g L79.length tf83) :: t))))) [[(ts81, .inr (12, [.ref tb82, .int (0 : Int32), .int (0 : Int32), .int (0 : Int32)]))], [(tb82, yA g L79.length tf83)], [(q2, .inr (13, [.ref bv74, .int (0 : Int32), .int (0 : Int32), .int (nI L79.length)]))], [(bv74, yA g bm75 bf76)], [(q1, .inr (13, [.ref bv23, .int (0 : Int32), .int (0 : Int32), .int (nI L28.length)]))], [(bv23, yA g bm24 bf25)], t] [4, 5, 0, 1, 6] rfl rfl rfl ?_
      refine r_room (x2 := 4) (y2 := 12010) (by decide) (by decide) ?_
      have ec : clR f = L79 := by rw [eL80, eL73]; unfold clR; rw [if_neg h0, if_pos h1, e3, nN_nI (by omega)]
      rw [← ec] at th84 ⊢
      exact J130 ts81 tb82 tf83 th84
  · have h00 : f 0 = 0 := h0
    obtain ⟨xx, yy, xy, y1, e3, e4⟩ := v4 h00
    refine r_new (N := 4) (x := 33) (y := 43968) dL_told_35 nl_L_66 (fun q3 => ?_)
    refine r_dup dL_told_38 rfl ?_
    refine k_I (x := 32) (y := 43952) (rest := [.ref q3, .ref q1]) dL_told_39 ki_L_68 (cj_sb) rfl rfl (Nat.le_of_ble_eq_true rfl) (by decide) (by decide) ?_
    rintro bv85 -
    show R g mL_told 8 32 43952 42 [(0, .ref a)] [.ref q3, .ref q1] ((q3, .inr (13, [.ref bv85, .int (0 : Int32), .int (0 : Int32), .int (nI ([] : List Int32).length)])) :: ((bv85, yA g 16 (fun _ => 0)) :: ((q1, .inr (13, [.ref bv23, .int (0 : Int32), .int (0 : Int32), .int (nI L28.length)])) :: ((bv23, yA g bm24 bf25) :: t)))) _
    refine r_ldcS (i := 18) dL_told_42 rfl ?_
    obtain ⟨L91, eL92⟩ : ∃ L9 : List Int32, L9 = ([] : List Int32) ++ kT 18 := ⟨_, rfl⟩
    have bn90 : L91.length ≤ 4 := by rw [eL92]; exact lnA (L := ([] : List Int32)) (L2 := kT 18) (n := 0) (n2 := 4) (Nat.le_refl 0) (Nat.le_of_eq kl_18)
    refine k_V (x := 31) (y := 39950) (rest := [.ref q1]) 0 dL_told_44 kv_L_71 (cj_apK (i := 18) (by decide) eL92 BL.nil (Nat.le_trans bn90 (by decide))) rfl rfl rfl rfl (Nat.le_of_ble_eq_true rfl) (by decide) (by decide) ?_
    rintro ⟨bv86, bm87, bf88⟩ bh89
    try dsimp only at bh89
    show R g mL_told 8 31 39950 47 [(0, .ref a)] [.ref q3, .ref q1] ((q3, .inr (13, [.ref bv86, .int (0 : Int32), .int (0 : Int32), .int (nI L91.length)])) :: ((bv86, yA g bm87 bf88) :: ((q1, .inr (13, [.ref bv23, .int (0 : Int32), .int (0 : Int32), .int (nI L28.length)])) :: ((bv23, yA g bm24 bf25) :: t)))) _
    refine r_aload_n 0 dL_told_47 rfl ?_
    refine r_iconst (v := (3 : Int32)) dL_told_48 (by decide) ?_
    refine r_ialdm (n := 5) (f := f) dL_told_49 (List.mem_cons_of_mem _ (List.mem_cons_of_mem _ (List.mem_cons_of_mem _ (List.mem_cons_of_mem _ ma)))) (by decide) ?_
    refine r_top (w := .int (nI xx)) (by rw [cl3, e3]) ?_
    obtain ⟨L98, eL99⟩ : ∃ L9 : List Int32, L9 = L91 ++ dgL xx := ⟨_, rfl⟩
    have bn97 : L98.length ≤ 6 := by rw [eL99]; exact lnA (L := L91) (L2 := dgL xx) (n := 4) (n2 := 2) bn90 (dgL_t2 (v := xx) (by omega))
    refine k_V (x := 30) (y := 35948) (rest := [.ref q1]) 0 dL_told_50 kv_L_75 (cj_apI (x9 := xx) (by omega) eL99 bh89 (Nat.le_trans bn97 (by decide))) rfl rfl rfl rfl (Nat.le_of_ble_eq_true rfl) (by decide) (by decide) ?_
    rintro ⟨bv93, bm94, bf95⟩ bh96
    try dsimp only at bh96
    show R g mL_told 8 30 35948 53 [(0, .ref a)] [.ref q3, .ref q1] ((q3, .inr (13, [.ref bv93, .int (0 : Int32), .int (0 : Int32), .int (nI L98.length)])) :: ((bv93, yA g bm94 bf95) :: ((q1, .inr (13, [.ref bv23, .int (0 : Int32), .int (0 : Int32), .int (nI L28.length)])) :: ((bv23, yA g bm24 bf25) :: t)))) _
    refine r_aload_n 0 dL_told_53 rfl ?_
    refine r_iconst (v := (4 : Int32)) dL_told_54 (by decide) ?_
    obtain ⟨RT, hRT⟩ : ∃ RT : List Int32, RT = (if f 3 < f 4 then ([] ++ kT 19) ++ dgL (nN (f 4)) else kT 20) := ⟨_, rfl⟩
    have lRT : RT.length ≤ 6 := by
      have k1 := kl_19
      have k2 := kl_20
      have l1 := dgL_t2 (v := yy) y1
      rw [hRT, e4, nN_nI (by omega)]
      split
      · simp only [List.length_append, List.length_nil]
        omega
      · omega
    have J88 : ∀ z9 : SZ, sP RT z9 → R g mL_told 8 7 20018 88 [(0, .ref a)] [(sv g z9), .ref q3, .ref q1] ((q3, .inr (13, [.ref bv93, .int (0 : Int32), .int (0 : Int32), .int (nI L98.length)])) :: ((bv93, yA g bm94 bf95) :: ((q1, .inr (13, [.ref bv23, .int (0 : Int32), .int (0 : Int32), .int (nI L28.length)])) :: ((bv23, yA g bm24 bf25) :: ((sw g RT.length z9) ++ t))))) (Dq (fun (z : Nat × Nat × (Nat → Int32)) => some (.ref z.1)) (fun z => (z.1, .inr (12, [.ref z.2.1, .int (0 : Int32), .int (0 : Int32), .int (0 : Int32)])) :: (z.2.1, yA g (clT f).length z.2.2) :: t) (fun z => LB z.2.2 (clT f))) := by
      intro z9 h9
      obtain ⟨L105, eL106⟩ : ∃ L9 : List Int32, L9 = L98 ++ RT := ⟨_, rfl⟩
      have bn104 : L105.length ≤ 12 := by rw [eL106]; exact lnA (L := L98) (L2 := RT) (n := 6) (n2 := 6) bn97 lRT
      refine r_seg (ws2 := ((q3, .inr (13, [.ref bv93, .int (0 : Int32), .int (0 : Int32), .int (nI L98.length)])) :: ((bv93, yA g bm94 bf95) :: ((sw g RT.length z9) ++ ([(q1, .inr (13, [.ref bv23, .int (0 : Int32), .int (0 : Int32), .int (nI L28.length)])), (bv23, yA g bm24 bf25)] ++ t))))) [[(q3, .inr (13, [.ref bv93, .int (0 : Int32), .int (0 : Int32), .int (nI L98.length)]))], [(bv93, yA g bm94 bf95)], [(q1, .inr (13, [.ref bv23, .int (0 : Int32), .int (0 : Int32), .int (nI L28.length)]))], [(bv23, yA g bm24 bf25)], (sw g RT.length z9), t] [0, 1, 4, 2, 3, 5] rfl rfl rfl ?_
      refine k_V (x := 6) (y := 16016) (rest := [.ref q1]) 0 dL_told_88 kv_L_71 (cj_apX (L2 := RT) (z := z9) h9 eL106 bh96 (Nat.le_trans bn104 (by decide))) rfl rfl rfl rfl (Nat.le_of_ble_eq_true rfl) (by decide) (by decide) ?_
      rintro ⟨bv100, bm101, bf102⟩ bh103
      try dsimp only at bh103
      show R g mL_told 8 6 16016 91 [(0, .ref a)] [.ref q3, .ref q1] ((q3, .inr (13, [.ref bv100, .int (0 : Int32), .int (0 : Int32), .int (nI L105.length)])) :: ((bv100, yA g bm101 bf102) :: ((sw g RT.length z9) ++ ([(q1, .inr (13, [.ref bv23, .int (0 : Int32), .int (0 : Int32), .int (nI L28.length)])), (bv23, yA g bm24 bf25)] ++ t)))) (Dq (fun (z : Nat × Nat × (Nat → Int32)) => some (.ref z.1)) (fun z => (z.1, .inr (12, [.ref z.2.1, .int (0 : Int32), .int (0 : Int32), .int (0 : Int32)])) :: (z.2.1, yA g (clT f).length z.2.2) :: t) (fun z => LB z.2.2 (clT f)))
      refine r_seg (ws2 := ((q3, .inr (13, [.ref bv100, .int (0 : Int32), .int (0 : Int32), .int (nI L105.length)])) :: ((bv100, yA g bm101 bf102) :: ((q1, .inr (13, [.ref bv23, .int (0 : Int32), .int (0 : Int32), .int (nI L28.length)])) :: ((bv23, yA g bm24 bf25) :: t))))) [[(q3, .inr (13, [.ref bv100, .int (0 : Int32), .int (0 : Int32), .int (nI L105.length)]))], [(bv100, yA g bm101 bf102)], (sw g RT.length z9), [(q1, .inr (13, [.ref bv23, .int (0 : Int32), .int (0 : Int32), .int (nI L28.length)])), (bv23, yA g bm24 bf25)], t] [0, 1, 3, 4] rfl rfl rfl ?_
      refine k_V (x := 4) (y := 12010) (rest := [.ref q1]) 0 dL_told_91 kv_L_84 (cj_strB bh103) rfl rfl rfl rfl (Nat.le_of_ble_eq_true rfl) (by decide) (by decide) ?_
      rintro ⟨ts107, tb108, tf109⟩ th110
      try dsimp only at th110
      show R g mL_told 8 4 12010 94 [(0, .ref a)] [.ref ts107, .ref q1] ((ts107, .inr (12, [.ref tb108, .int (0 : Int32), .int (0 : Int32), .int (0 : Int32)])) :: ((tb108, yA g L105.length tf109) :: ((q3, .inr (13, [.ref bv100, .int (0 : Int32), .int (0 : Int32), .int (nI L105.length)])) :: ((bv100, yA g bm101 bf102) :: ((q1, .inr (13, [.ref bv23, .int (0 : Int32), .int (0 : Int32), .int (nI L28.length)])) :: ((bv23, yA g bm24 bf25) :: t)))))) (Dq (fun (z : Nat × Nat × (Nat → Int32)) => some (.ref z.1)) (fun z => (z.1, .inr (12, [.ref z.2.1, .int (0 : Int32), .int (0 : Int32), .int (0 : Int32)])) :: (z.2.1, yA g (clT f).length z.2.2) :: t) (fun z => LB z.2.2 (clT f)))
      refine r_goto (tgt := 130) dL_told_94 (by decide) ?_
      refine r_seg (ws2 := ((q1, .inr (13, [.ref bv23, .int (0 : Int32), .int (0 : Int32), .int (nI L28.length)])) :: ((bv23, yA g bm24 bf25) :: ((ts107, .inr (12, [.ref tb108, .int (0 : Int32), .int (0 : Int32), .int (0 : Int32)])) :: ((tb108, yA g L105.length tf109) :: t))))) [[(ts107, .inr (12, [.ref tb108, .int (0 : Int32), .int (0 : Int32), .int (0 : Int32)]))], [(tb108, yA g L105.length tf109)], [(q3, .inr (13, [.ref bv100, .int (0 : Int32), .int (0 : Int32), .int (nI L105.length)]))], [(bv100, yA g bm101 bf102)], [(q1, .inr (13, [.ref bv23, .int (0 : Int32), .int (0 : Int32), .int (nI L28.length)]))], [(bv23, yA g bm24 bf25)], t] [4, 5, 0, 1, 6] rfl rfl rfl ?_
      refine r_room (x2 := 4) (y2 := 12010) (by decide) (by decide) ?_
      have ec : clR f = L105 := by rw [eL106, eL99, eL92]; unfold clR; rw [if_pos h00, ← hRT, e3, nN_nI (by omega)]
      rw [← ec] at th110 ⊢
      exact J130 ts107 tb108 tf109 th110
    refine r_ialdm (n := 5) (f := f) dL_told_55 (List.mem_cons_of_mem _ (List.mem_cons_of_mem _ (List.mem_cons_of_mem _ (List.mem_cons_of_mem _ ma)))) (by decide) ?_
    refine r_top (w := .int (nI yy)) (by rw [cl4, e4]) ?_
    refine r_aload_n 0 dL_told_56 rfl ?_
    refine r_iconst (v := (3 : Int32)) dL_told_57 (by decide) ?_
    refine r_ialdm (n := 5) (f := f) dL_told_58 (List.mem_cons_of_mem _ (List.mem_cons_of_mem _ (List.mem_cons_of_mem _ (List.mem_cons_of_mem _ ma)))) (by decide) ?_
    refine r_top (w := .int (nI xx)) (by rw [cl3, e3]) ?_
    refine r_icmp_le (tgt := 86) dL_told_59 (by decide) (fun h2 => ?_) (fun h2 => ?_)
    · have hf : RT = kT 20 := by rw [hRT, e3, e4, if_neg (nI_nlt ((nI_leI (by omega) (by omega)).mp h2) (by omega))]
      refine r_ldcS (i := 20) dL_told_86 rfl ?_
      refine r_room (x2 := 7) (y2 := 20018) (by decide) (by decide) ?_
      exact J88 (Sum.inl 20) ⟨by decide, hf.symm⟩
    · have hf : RT = ([] ++ kT 19) ++ dgL yy := by rw [hRT, e3, e4, if_pos (Int32.not_le.mp h2), nN_nI (by omega)]
      refine r_new (N := 4) (x := 29) (y := 35944) dL_told_62 nl_L_66 (fun q4 => ?_)
      refine r_dup dL_told_65 rfl ?_
      refine k_I (x := 28) (y := 35928) (rest := [.ref q4, .ref q3, .ref q1]) dL_told_66 ki_L_68 (cj_sb) rfl rfl (Nat.le_of_ble_eq_true rfl) (by decide) (by decide) ?_
      rintro bv111 -
      show R g mL_told 8 28 35928 69 [(0, .ref a)] [.ref q4, .ref q3, .ref q1] ((q4, .inr (13, [.ref bv111, .int (0 : Int32), .int (0 : Int32), .int (nI ([] : List Int32).length)])) :: ((bv111, yA g 16 (fun _ => 0)) :: ((q3, .inr (13, [.ref bv93, .int (0 : Int32), .int (0 : Int32), .int (nI L98.length)])) :: ((bv93, yA g bm94 bf95) :: ((q1, .inr (13, [.ref bv23, .int (0 : Int32), .int (0 : Int32), .int (nI L28.length)])) :: ((bv23, yA g bm24 bf25) :: t)))))) _
      refine r_ldcS (i := 19) dL_told_69 rfl ?_
      obtain ⟨L117, eL118⟩ : ∃ L9 : List Int32, L9 = ([] : List Int32) ++ kT 19 := ⟨_, rfl⟩
      have bn116 : L117.length ≤ 4 := by rw [eL118]; exact lnA (L := ([] : List Int32)) (L2 := kT 19) (n := 0) (n2 := 4) (Nat.le_refl 0) (Nat.le_of_eq kl_19)
      refine k_V (x := 27) (y := 31926) (rest := [.ref q3, .ref q1]) 0 dL_told_71 kv_L_71 (cj_apK (i := 19) (by decide) eL118 BL.nil (Nat.le_trans bn116 (by decide))) rfl rfl rfl rfl (Nat.le_of_ble_eq_true rfl) (by decide) (by decide) ?_
      rintro ⟨bv112, bm113, bf114⟩ bh115
      try dsimp only at bh115
      show R g mL_told 8 27 31926 74 [(0, .ref a)] [.ref q4, .ref q3, .ref q1] ((q4, .inr (13, [.ref bv112, .int (0 : Int32), .int (0 : Int32), .int (nI L117.length)])) :: ((bv112, yA g bm113 bf114) :: ((q3, .inr (13, [.ref bv93, .int (0 : Int32), .int (0 : Int32), .int (nI L98.length)])) :: ((bv93, yA g bm94 bf95) :: ((q1, .inr (13, [.ref bv23, .int (0 : Int32), .int (0 : Int32), .int (nI L28.length)])) :: ((bv23, yA g bm24 bf25) :: t)))))) _
      refine r_aload_n 0 dL_told_74 rfl ?_
      refine r_iconst (v := (4 : Int32)) dL_told_75 (by decide) ?_
      refine r_ialdm (n := 5) (f := f) dL_told_76 (List.mem_cons_of_mem _ (List.mem_cons_of_mem _ (List.mem_cons_of_mem _ (List.mem_cons_of_mem _ (List.mem_cons_of_mem _ (List.mem_cons_of_mem _ ma)))))) (by decide) ?_
      refine r_top (w := .int (nI yy)) (by rw [cl4, e4]) ?_
      obtain ⟨L124, eL125⟩ : ∃ L9 : List Int32, L9 = L117 ++ dgL yy := ⟨_, rfl⟩
      have bn123 : L124.length ≤ 6 := by rw [eL125]; exact lnA (L := L117) (L2 := dgL yy) (n := 4) (n2 := 2) bn116 (dgL_t2 (v := yy) y1)
      refine k_V (x := 26) (y := 27924) (rest := [.ref q3, .ref q1]) 0 dL_told_77 kv_L_75 (cj_apI (x9 := yy) (by omega) eL125 bh115 (Nat.le_trans bn123 (by decide))) rfl rfl rfl rfl (Nat.le_of_ble_eq_true rfl) (by decide) (by decide) ?_
      rintro ⟨bv119, bm120, bf121⟩ bh122
      try dsimp only at bh122
      show R g mL_told 8 26 27924 80 [(0, .ref a)] [.ref q4, .ref q3, .ref q1] ((q4, .inr (13, [.ref bv119, .int (0 : Int32), .int (0 : Int32), .int (nI L124.length)])) :: ((bv119, yA g bm120 bf121) :: ((q3, .inr (13, [.ref bv93, .int (0 : Int32), .int (0 : Int32), .int (nI L98.length)])) :: ((bv93, yA g bm94 bf95) :: ((q1, .inr (13, [.ref bv23, .int (0 : Int32), .int (0 : Int32), .int (nI L28.length)])) :: ((bv23, yA g bm24 bf25) :: t)))))) _
      refine k_V (x := 24) (y := 23918) (rest := [.ref q3, .ref q1]) 0 dL_told_80 kv_L_84 (cj_strB bh122) rfl rfl rfl rfl (Nat.le_of_ble_eq_true rfl) (by decide) (by decide) ?_
      rintro ⟨ts126, tb127, tf128⟩ th129
      try dsimp only at th129
      show R g mL_told 8 24 23918 83 [(0, .ref a)] [.ref ts126, .ref q3, .ref q1] ((ts126, .inr (12, [.ref tb127, .int (0 : Int32), .int (0 : Int32), .int (0 : Int32)])) :: ((tb127, yA g L124.length tf128) :: ((q4, .inr (13, [.ref bv119, .int (0 : Int32), .int (0 : Int32), .int (nI L124.length)])) :: ((bv119, yA g bm120 bf121) :: ((q3, .inr (13, [.ref bv93, .int (0 : Int32), .int (0 : Int32), .int (nI L98.length)])) :: ((bv93, yA g bm94 bf95) :: ((q1, .inr (13, [.ref bv23, .int (0 : Int32), .int (0 : Int32), .int (nI L28.length)])) :: ((bv23, yA g bm24 bf25) :: t)))))))) _
      refine r_goto (tgt := 88) dL_told_83 (by decide) ?_
      refine r_seg (ws2 := ((q3, .inr (13, [.ref bv93, .int (0 : Int32), .int (0 : Int32), .int (nI L98.length)])) :: ((bv93, yA g bm94 bf95) :: ((q1, .inr (13, [.ref bv23, .int (0 : Int32), .int (0 : Int32), .int (nI L28.length)])) :: ((bv23, yA g bm24 bf25) :: ((ts126, .inr (12, [.ref tb127, .int (0 : Int32), .int (0 : Int32), .int (0 : Int32)])) :: ((tb127, yA g L124.length tf128) :: t))))))) [[(ts126, .inr (12, [.ref tb127, .int (0 : Int32), .int (0 : Int32), .int (0 : Int32)]))], [(tb127, yA g L124.length tf128)], [(q4, .inr (13, [.ref bv119, .int (0 : Int32), .int (0 : Int32), .int (nI L124.length)]))], [(bv119, yA g bm120 bf121)], [(q3, .inr (13, [.ref bv93, .int (0 : Int32), .int (0 : Int32), .int (nI L98.length)]))], [(bv93, yA g bm94 bf95)], [(q1, .inr (13, [.ref bv23, .int (0 : Int32), .int (0 : Int32), .int (nI L28.length)]))], [(bv23, yA g bm24 bf25)], t] [4, 5, 6, 7, 0, 1, 8] rfl rfl rfl ?_
      refine r_room (x2 := 7) (y2 := 20018) (by decide) (by decide) ?_
      have ec : RT = L124 := by rw [hf, eL125, eL118]
      rw [← ec] at th129 ⊢
      exact J88 (Sum.inr (ts126, tb127, tf128)) th129
