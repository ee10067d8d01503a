def f_J1_charAt_3b067 (i : Nat) (p1 : Int32) : Option (Int32) :=
  (if ckB p1 (Int32.ofNat (lenS.getD i 0)) = true then (if ib p1 (lenS.getD i 0) = true then (if crB ((((bytS.getD i []).getD p1.toNatClampNeg 0) &&& (255 : Int32)).toUInt32 % 65536).toInt32 = true then (some ((((bytS.getD i []).getD p1.toNatClampNeg 0) &&& (255 : Int32)).toUInt32 % 65536).toInt32) else none) else none) else none)
def f_J0_charAt_5068e (i : Nat) (p1 : Int32) : Option (Int32) :=
  (oB none (f_J1_charAt_3b067 i p1) (fun (r1259 : Int32) => (if crB r1259 = true then (some r1259) else none)))
def f_To_fillKeywords_L4  (z : Int64 × Int32 × Int32 × (Nat → Int64)) : (Int64 × Int32 × Int32 × (Nat → Int64)) ⊕ (Option (Int32 × (Nat → Int64))) :=
  (if (f_J0_length_8abf5 0) ≤ z.2.1 then (.inr (some (z.2.2.1, z.2.2.2))) else (oB (.inr none) (f_J0_charAt_5068e 0 z.2.1) (fun (r1263 : Int32) => (if r1263 = (32 : Int32) then (.inl ((0 : Int64), (z.2.1 + (1 : Int32)), (nacnt 25 z.2.2.1), (nadd 25 z.2.2.2 z.2.2.1 z.1))) else (.inl ((f_To_pack z.1 r1263), (z.2.1 + (1 : Int32)), z.2.2.1, z.2.2.2))))))
def f_To_fillKeywords (N : Nat) (Na_count : Int32) (Na_words : (Nat → Int64)) : Option (Int32 × (Nat → Int64)) :=
  (lpS (f_To_fillKeywords_L4) none N ((0 : Int64), (0 : Int32), Na_count, Na_words))
set_option maxRecDepth 20000 in
set_option maxHeartbeats 4000000 in
theorem rt_J1_charAt_3b067 {g : GG}  {t : va_W}  {i : Nat} {p1 : Int32} {o : Int32} {Q : Rs → va_W → Prop} (h : f_J1_charAt_3b067 i p1 = some o) (hi0 : i < 61) (hq : Q (.inl (some (.int o))) t) : R g mJ1_charAt_3b067 3 0 0 0 [(0, .ref (gV g i)), (1, .int p1)] [] t Q := by
  unfold f_J1_charAt_3b067 at h
  refine r_iload_n 1 dJ1_charAt_3b067_0 rfl ?_
  refine r_aload_n 0 dJ1_charAt_3b067_1 rfl ?_
  refine r_alenV hi0 dJ1_charAt_3b067_2 ?_
  obtain ⟨hb1256, h⟩ := gd (fun z9 => z9) rfl h
  refine c_Sv (rest := []) 0 0 dJ1_charAt_3b067_3 ks_J1_9 (ct_ckIdx hb1256) rfl rfl (Nat.le_of_ble_eq_true rfl) (by decide) (by decide) ?_
  refine r_aload_n 0 dJ1_charAt_3b067_6 rfl ?_
  refine r_iload_n 1 dJ1_charAt_3b067_7 rfl ?_
  obtain ⟨hb1257, h⟩ := gd (fun z9 => z9) rfl h
  refine r_bald hi0 dJ1_charAt_3b067_8 hb1257 ?_
  refine r_sipush (v := (255 : Int32)) dJ1_charAt_3b067_9 (by decide) ?_
  refine r_iand dJ1_charAt_3b067_12 ?_
  refine r_i2c dJ1_charAt_3b067_13 ?_
  obtain ⟨hb1258, h⟩ := gd (fun z9 => z9) rfl h
  refine r_zret dJ1_charAt_3b067_14 rfl (crB_n hb1258) ?_
  have h := Option.some.inj (show some _ = some o from h)
  subst h
  exact hq
theorem ct_J1_charAt_3b067 {g : GG}  {t : va_W}  {i : Nat} {p1 : Int32} {o : Int32} (h : f_J1_charAt_3b067 i p1 = some o) (hi0 : i < 61) : Ct g mJ1_charAt_3b067 3 0 0 [.ref (gV g i), .int p1] t (Dv (some (.int o)) t) := Ct.ofR (by decide +kernel) rfl (Nat.le_of_ble_eq_true rfl) (rt_J1_charAt_3b067 h hi0 ⟨rfl, rfl⟩)
set_option maxRecDepth 20000 in
set_option maxHeartbeats 4000000 in
theorem rt_J0_charAt_5068e {g : GG}  {t : va_W}  {i : Nat} {p1 : Int32} {o : Int32} {Q : Rs → va_W → Prop} (h : f_J0_charAt_5068e i p1 = some o) (hi0 : i < 61) (hq : Q (.inl (some (.int o))) t) : R g mJ0_charAt_5068e 4 0 0 0 [(0, .ref (gK g i)), (1, .int p1)] [] t Q := by
  unfold f_J0_charAt_5068e at h
  refine r_aload_n 0 dJ0_charAt_5068e_0 rfl ?_
  refine c_K (rest := []) 0 0 dJ0_charAt_5068e_1 kv_J0_492 rfl hi0 (ct_J0_isLatin1_aae02 (i := i) (o := 1) rfl hi0) rfl rfl (Nat.le_of_ble_eq_true rfl) (by decide) (by decide) ?_
  refine r_if_eq (tgt := 16) dJ0_charAt_5068e_4 (by decide) (fun hc => absurd hc (by decide)) (fun _ => ?_)
  refine r_aload_n 0 dJ0_charAt_5068e_7 rfl ?_
  refine r_getKv hi0 dJ0_charAt_5068e_8 kk_1530 ?_
  refine r_iload_n 1 dJ0_charAt_5068e_11 rfl ?_
  obtain ⟨r1259, hc1260, h⟩ := ob (fun z9 => z9) rfl h
  refine c_S (rest := []) 0 0 dJ0_charAt_5068e_12 ks_J0_495 (ct_J1_charAt_3b067 hc1260 hi0) rfl rfl (Nat.le_of_ble_eq_true rfl) (by decide) (by decide) ?_
  obtain ⟨hb1261, h⟩ := gd (fun z9 => z9) rfl h
  refine r_zret dJ0_charAt_5068e_15 rfl (crB_n hb1261) ?_
  have h := Option.some.inj (show some _ = some o from h)
  subst h
  exact hq
theorem ct_J0_charAt_5068e {g : GG}  {t : va_W}  {i : Nat} {p1 : Int32} {o : Int32} (h : f_J0_charAt_5068e i p1 = some o) (hi0 : i < 61) : Ct g mJ0_charAt_5068e 4 0 0 [.ref (gK g i), .int p1] t (Dv (some (.int o)) t) := Ct.ofR (by decide +kernel) rfl (Nat.le_of_ble_eq_true rfl) (rt_J0_charAt_5068e h hi0 ⟨rfl, rfl⟩)
set_option maxRecDepth 20000 in
set_option maxHeartbeats 4000000 in
theorem rt_To_fillKeywords {g : GG} {af : Nat → Nat} {pf : Nat} {t : va_W} {f0 f1 f2 : Int32} {f3 : Int64} {f4 f5 f6 : Nat → Int32} {f7 : Nat → Int64} {N : Nat} {Na_count : Int32} {Na_words : Nat → Int64} {o : Int32 × (Nat → Int64)} {Q : Rs → va_W → Prop} (h : f_To_fillKeywords N Na_count Na_words = some o) (hq : Q (.inl (none)) (wlF g af pf f0 f1 f2 f3 f4 f5 f6 f7 o.1 o.2 ++ t)) : R g mX7_fillKeywords 5 0 0 0 [(0, .ref (af 0))] [] (wlF g af pf f0 f1 f2 f3 f4 f5 f6 f7 Na_count Na_words ++ t) Q := by
  unfold f_To_fillKeywords at h
  refine r_lconst (v := (0 : Int64)) dX7_fillKeywords_0 (by decide) ?_
  refine r_lstore_n [(1, .long (0 : Int64)), (0, .ref (af 0))] dX7_fillKeywords_1 (by decide) rfl ?_
  refine r_iconst (v := (0 : Int32)) dX7_fillKeywords_2 (by decide) ?_
  refine r_istore_n [(3, .int (0 : Int32)), (1, .long (0 : Int64)), (0, .ref (af 0))] dX7_fillKeywords_3 (by decide) rfl ?_
  refine r_ls [2, 1, 0] (ls2 := [(0, .ref (af 0)), (1, .long (0 : Int64)), (3, .int (0 : Int32))]) rfl ?_
  have L1 : ∀ (n1 : Nat) (l1_1 : Int64) (l3_1 : Int32) (Na_count_1 : Int32) (Na_words_1 : Nat → Int64), (fun z9 => z9) (lpS (f_To_fillKeywords_L4) none n1 (l1_1, l3_1, Na_count_1, Na_words_1)) = some o → R g mX7_fillKeywords 5 0 0 4 [(0, .ref (af 0)), (1, .long l1_1), (3, .int l3_1)] [] (wlF g af pf f0 f1 f2 f3 f4 f5 f6 f7 Na_count_1 Na_words_1 ++ t) Q := by
    intro n1
    induction n1 with
    | zero => intro l1_1 l3_1 Na_count_1 Na_words_1 h; exact nomatch (show (none : Option _) = some _ from h)
    | succ n1 ih1 =>
      intro l1_1 l3_1 Na_count_1 Na_words_1 h
      have h : (fun z9 => (lC (f_To_fillKeywords_L4) none n1 z9)) (f_To_fillKeywords_L4 (l1_1, l3_1, Na_count_1, Na_words_1)) = some o := h
      unfold f_To_fillKeywords_L4 at h
      try dsimp only at h
      refine r_iload_n 2 dX7_fillKeywords_4 rfl ?_
      refine r_ldcS (i := 0) dX7_fillKeywords_5 rfl ?_
      refine c_K (rest := [.int l3_1]) 0 0 dX7_fillKeywords_7 kv_X7_45 rfl (by decide) (ct_J0_length_8abf5 rfl (by decide)) rfl rfl (Nat.le_of_ble_eq_true rfl) (by decide) (by decide) ?_
      refine r_icmp_ge (tgt := 54) dX7_fillKeywords_10 (by decide) (fun hc1262 => ?_) (fun hc1262 => ?_)
      · have h := ip (fun z9 => (lC (f_To_fillKeywords_L4) none n1 z9)) hc1262 h
        refine r_vret dX7_fillKeywords_54 rfl ?_
        have h := Option.some.inj (show some _ = some o from h)
        subst h
        exact hq
      · have h := iq (fun z9 => (lC (f_To_fillKeywords_L4) none n1 z9)) hc1262 h
        refine r_ldcS (i := 0) dX7_fillKeywords_13 rfl ?_
        refine r_iload_n 2 dX7_fillKeywords_15 rfl ?_
        obtain ⟨r1263, hc1264, h⟩ := ob (fun z9 => (lC (f_To_fillKeywords_L4) none n1 z9)) rfl h
        refine c_K (rest := []) 0 0 dX7_fillKeywords_16 kv_X7_51 rfl (by decide) (ct_J0_charAt_5068e hc1264 (by decide)) rfl rfl (Nat.le_of_ble_eq_true rfl) (by decide) (by decide) ?_
        refine r_istore [(4, .int r1263), (0, .ref (af 0)), (1, .long l1_1), (3, .int l3_1)] dX7_fillKeywords_19 (by decide) rfl ?_
        refine r_iload 0 dX7_fillKeywords_21 rfl ?_
        refine r_bipush (v := (32 : Int32)) dX7_fillKeywords_23 (by decide) ?_
        refine r_icmp_ne (tgt := 41) dX7_fillKeywords_25 (by decide) (fun hc1265 => ?_) (fun hc1265 => ?_)
        · have h := iq (fun z9 => (lC (f_To_fillKeywords_L4) none n1 z9)) hc1265 h
          refine r_lload_n 2 dX7_fillKeywords_41 rfl ?_
          refine r_iload 0 dX7_fillKeywords_42 rfl ?_
          refine c_S (rest := []) 0 0 dX7_fillKeywords_44 ks_X7_59 (ct_To_pack rfl) rfl rfl (Nat.le_of_ble_eq_true rfl) (by decide) (by decide) ?_
          refine r_lstore_n [(1, .long (f_To_pack l1_1 r1263)), (4, .int r1263), (0, .ref (af 0)), (3, .int l3_1)] dX7_fillKeywords_47 (by decide) rfl ?_
          refine r_iinc (v2 := (l3_1 + (1 : Int32))) 3 [(3, .int (l3_1 + (1 : Int32))), (1, .long (f_To_pack l1_1 r1263)), (4, .int r1263), (0, .ref (af 0))] dX7_fillKeywords_48 rfl rfl (by decide) rfl ?_
          refine r_goto (tgt := 4) dX7_fillKeywords_51 (by decide) ?_
          refine r_ls [3, 1, 0] (ls2 := [(0, .ref (af 0)), (1, .long (f_To_pack l1_1 r1263)), (3, .int (l3_1 + (1 : Int32)))]) rfl ?_
          exact ih1 (f_To_pack l1_1 r1263) (l3_1 + (1 : Int32)) Na_count_1 Na_words_1 h
        · have h := ip (fun z9 => (lC (f_To_fillKeywords_L4) none n1 z9)) hc1265 h
          refine r_aload_n 1 dX7_fillKeywords_28 rfl ?_
          refine r_getf (v := .ref (af 8)) _ dX7_fillKeywords_29 fl_X7_36 lF_0 rfl ?_
          refine r_lload_n 2 dX7_fillKeywords_32 rfl ?_
          refine c_Vv (rest := []) 0 0 _ dX7_fillKeywords_33 kv_X7_55 (ct_Na_add lF_8 lF_9 (fun _ => sF_9 _) (fun _ => sF_8 _) (fun e => by simp only [nadd_f e, nacnt_f e]) (Nat.le_of_ble_eq_true rfl)) rfl rfl lF_8 rfl (Nat.le_of_ble_eq_true rfl) (by decide) (by decide) ?_
          refine r_lconst (v := (0 : Int64)) dX7_fillKeywords_36 (by decide) ?_
          refine r_lstore_n [(1, .long (0 : Int64)), (4, .int r1263), (0, .ref (af 0)), (3, .int l3_1)] dX7_fillKeywords_37 (by decide) rfl ?_
          refine r_goto (tgt := 48) dX7_fillKeywords_38 (by decide) ?_
          refine r_iinc (v2 := (l3_1 + (1 : Int32))) 3 [(3, .int (l3_1 + (1 : Int32))), (1, .long (0 : Int64)), (4, .int r1263), (0, .ref (af 0))] dX7_fillKeywords_48 rfl rfl (by decide) rfl ?_
          refine r_goto (tgt := 4) dX7_fillKeywords_51 (by decide) ?_
          refine r_ls [3, 1, 0] (ls2 := [(0, .ref (af 0)), (1, .long (0 : Int64)), (3, .int (l3_1 + (1 : Int32)))]) rfl ?_
          exact ih1 (0 : Int64) (l3_1 + (1 : Int32)) (nacnt 25 Na_count_1) (nadd 25 Na_words_1 Na_count_1 l1_1) h
  exact L1 _ (0 : Int64) (0 : Int32) Na_count Na_words h
theorem ct_To_fillKeywords {g : GG} {af : Nat → Nat} {pf : Nat} {t : va_W} {f0 f1 f2 : Int32} {f3 : Int64} {f4 f5 f6 : Nat → Int32} {f7 : Nat → Int64} {N : Nat} {Na_count : Int32} {Na_words : Nat → Int64} {o : Int32 × (Nat → Int64)} (h : f_To_fillKeywords N Na_count Na_words = some o) : Ct g mX7_fillKeywords 5 0 0 [.ref (af 0)] (wlF g af pf f0 f1 f2 f3 f4 f5 f6 f7 Na_count Na_words ++ t) (Dv (none) (wlF g af pf f0 f1 f2 f3 f4 f5 f6 f7 o.1 o.2 ++ t)) := Ct.ofR (by decide +kernel) rfl (Nat.le_of_ble_eq_true rfl) (rt_To_fillKeywords h ⟨rfl, rfl⟩)
def kwR : Option (Int32 × (Nat → Int64)) := f_To_fillKeywords 200 0 (fun _ => 0)
theorem kwS : kwR.isSome = true := by decide +kernel
def kwO : Int32 × (Nat → Int64) := kwR.get kwS
theorem kw_eq : f_To_fillKeywords 200 0 (fun _ => 0) = some kwO := (Option.some_get kwS).symm
set_option maxRecDepth 20000 in
theorem ct_Row_init {g : GG} {a : Nat} {t : va_W} (n : Int32) (N : Nat) (h0 : ¬ n ≤ 0) (h1 : ¬ n < 0) (h2 : n.toNatClampNeg = N) (h3 : N ≤ 100000) : Ct g mX5_init 1 1 (0 + N) [.ref a, .int n] ((a, .inr (5, [.null])) :: t) (Dn fun b => (((b 0), iA g N (fun _ => 0)) :: (a, .inr (5, [.ref (b 0)])) :: t)) := by
  refine Ct.ofR (by decide +kernel) rfl (Nat.le_of_ble_eq_true rfl) ?_
  refine r_aload_n 0 dX5_init_0 rfl ?_
  refine r_objInit dX5_init_1 ko_X5_1 (Nat.le_of_ble_eq_true rfl) (Nat.le_of_ble_eq_true rfl) ?_
  refine r_aload_n 0 dX5_init_4 rfl ?_
  refine r_iload_n 1 dX5_init_5 rfl ?_
  refine r_if_le (tgt := 13) dX5_init_6 (by decide) (fun h9 => absurd h9 h0) (fun _ => ?_)
  refine r_iload_n 1 dX5_init_9 rfl ?_
  refine r_goto (tgt := 14) dX5_init_10 (by decide) ?_
  refine r_newI (x := 0) (y := 0) (N := N) dX5_init_14 kk_105 h1 h2 h3 (fun q1 => ?_)
  refine r_putF 1 dX5_init_16 rfl ff_X5_7 rfl (Nat.le_of_ble_eq_true rfl) rfl rfl rfl ?_
  exact r_vret dX5_init_19 rfl ⟨rfl, (fun k => [q1].getD k 0), rfl⟩
set_option maxRecDepth 20000 in
theorem ct_Cl_init {g : GG} {a : Nat} {t : va_W}   : Ct g mX0_init 2 10 205 [.ref a] ((a, .inr (0, [.null, .null, .null, .null, .null, .int 0])) :: t) (Dn fun b => (((b 9), iA g 40 (fun _ => 0)) :: ((b 8), .inr (5, [.ref (b 9)])) :: ((b 7), iA g 40 (fun _ => 0)) :: ((b 6), .inr (5, [.ref (b 7)])) :: ((b 5), iA g 40 (fun _ => 0)) :: ((b 4), .inr (5, [.ref (b 5)])) :: ((b 3), iA g 40 (fun _ => 0)) :: ((b 2), .inr (5, [.ref (b 3)])) :: ((b 1), iA g 40 (fun _ => 0)) :: ((b 0), .inr (5, [.ref (b 1)])) :: (a, .inr (0, [.ref (b 0), .ref (b 2), .ref (b 4), .ref (b 6), .ref (b 8), .int (0 : Int32)])) :: t)) := by
  refine Ct.ofR (by decide +kernel) rfl (Nat.le_of_ble_eq_true rfl) ?_
  refine r_aload_n 0 dX0_init_0 rfl ?_
  refine r_objInit dX0_init_1 ko_X0_3 (Nat.le_of_ble_eq_true rfl) (Nat.le_of_ble_eq_true rfl) ?_
  refine r_aload_n 0 dX0_init_4 rfl ?_
  refine r_new (x := 9) (y := 204) (N := 1) dX0_init_5 nl_X0_9 (fun q1 => ?_)
  refine r_dup dX0_init_8 rfl ?_
  refine r_bipush (v := (40 : Int32)) dX0_init_9 (by decide) ?_
  refine r_callI (x := 8) (y := 164) (a := 1) (b := (0 + 40)) (As := [.int (40 : Int32)]) (rest := [.ref q1, .ref a]) dX0_init_11 ki_X0_11 (ct_Row_init (40 : Int32) 40 (by decide) (by decide) (by decide) (by decide)) Dn.no rfl rfl (Nat.le_of_ble_eq_true rfl) (Nat.le_of_ble_eq_true rfl) (Nat.le_of_ble_eq_true rfl) (fun v9 w9 h9 => ?_)
  obtain ⟨h9, f2, rfl⟩ := h9
  cases h9
  refine r_putF 2 dX0_init_14 rfl ff_X0_14 rfl (Nat.le_of_ble_eq_true rfl) rfl rfl rfl ?_
  refine r_aload_n 0 dX0_init_17 rfl ?_
  refine r_new (x := 7) (y := 163) (N := 1) dX0_init_18 nl_X0_9 (fun q3 => ?_)
  refine r_dup dX0_init_21 rfl ?_
  refine r_bipush (v := (40 : Int32)) dX0_init_22 (by decide) ?_
  refine r_callI (x := 6) (y := 123) (a := 1) (b := (0 + 40)) (As := [.int (40 : Int32)]) (rest := [.ref q3, .ref a]) dX0_init_24 ki_X0_11 (ct_Row_init (40 : Int32) 40 (by decide) (by decide) (by decide) (by decide)) Dn.no rfl rfl (Nat.le_of_ble_eq_true rfl) (Nat.le_of_ble_eq_true rfl) (Nat.le_of_ble_eq_true rfl) (fun v9 w9 h9 => ?_)
  obtain ⟨h9, f4, rfl⟩ := h9
  cases h9
  refine r_putF 4 dX0_init_27 rfl ff_X0_20 rfl (Nat.le_of_ble_eq_true rfl) rfl rfl rfl ?_
  refine r_aload_n 0 dX0_init_30 rfl ?_
  refine r_new (x := 5) (y := 122) (N := 1) dX0_init_31 nl_X0_9 (fun q5 => ?_)
  refine r_dup dX0_init_34 rfl ?_
  refine r_bipush (v := (40 : Int32)) dX0_init_35 (by decide) ?_
  refine r_callI (x := 4) (y := 82) (a := 1) (b := (0 + 40)) (As := [.int (40 : Int32)]) (rest := [.ref q5, .ref a]) dX0_init_37 ki_X0_11 (ct_Row_init (40 : Int32) 40 (by decide) (by decide) (by decide) (by decide)) Dn.no rfl rfl (Nat.le_of_ble_eq_true rfl) (Nat.le_of_ble_eq_true rfl) (Nat.le_of_ble_eq_true rfl) (fun v9 w9 h9 => ?_)
  obtain ⟨h9, f6, rfl⟩ := h9
  cases h9
  refine r_putF 6 dX0_init_40 rfl ff_X0_23 rfl (Nat.le_of_ble_eq_true rfl) rfl rfl rfl ?_
  refine r_aload_n 0 dX0_init_43 rfl ?_
  refine r_new (x := 3) (y := 81) (N := 1) dX0_init_44 nl_X0_9 (fun q7 => ?_)
  refine r_dup dX0_init_47 rfl ?_
  refine r_bipush (v := (40 : Int32)) dX0_init_48 (by decide) ?_
  refine r_callI (x := 2) (y := 41) (a := 1) (b := (0 + 40)) (As := [.int (40 : Int32)]) (rest := [.ref q7, .ref a]) dX0_init_50 ki_X0_11 (ct_Row_init (40 : Int32) 40 (by decide) (by decide) (by decide) (by decide)) Dn.no rfl rfl (Nat.le_of_ble_eq_true rfl) (Nat.le_of_ble_eq_true rfl) (Nat.le_of_ble_eq_true rfl) (fun v9 w9 h9 => ?_)
  obtain ⟨h9, f8, rfl⟩ := h9
  cases h9
  refine r_putF 8 dX0_init_53 rfl ff_X0_26 rfl (Nat.le_of_ble_eq_true rfl) rfl rfl rfl ?_
  refine r_aload_n 0 dX0_init_56 rfl ?_
  refine r_new (x := 1) (y := 40) (N := 1) dX0_init_57 nl_X0_9 (fun q9 => ?_)
  refine r_dup dX0_init_60 rfl ?_
  refine r_bipush (v := (40 : Int32)) dX0_init_61 (by decide) ?_
  refine r_callI (x := 0) (y := 0) (a := 1) (b := (0 + 40)) (As := [.int (40 : Int32)]) (rest := [.ref q9, .ref a]) dX0_init_63 ki_X0_11 (ct_Row_init (40 : Int32) 40 (by decide) (by decide) (by decide) (by decide)) Dn.no rfl rfl (Nat.le_of_ble_eq_true rfl) (Nat.le_of_ble_eq_true rfl) (Nat.le_of_ble_eq_true rfl) (fun v9 w9 h9 => ?_)
  obtain ⟨h9, f10, rfl⟩ := h9
  cases h9
  refine r_putF 10 dX0_init_66 rfl ff_X0_29 rfl (Nat.le_of_ble_eq_true rfl) rfl rfl rfl ?_
  refine r_aload_n 0 dX0_init_69 rfl ?_
  refine r_iconst (v := (0 : Int32)) dX0_init_70 (by decide) ?_
  refine r_putf 10 dX0_init_71 fl_X0_32 rfl (Nat.le_of_ble_eq_true rfl) rfl rfl rfl ?_
  exact r_vret dX0_init_74 rfl ⟨rfl, (fun k => [q1, (f2 0), q3, (f4 0), q5, (f6 0), q7, (f8 0), q9, (f10 0)].getD k 0), rfl⟩
set_option maxRecDepth 20000 in
theorem ct_Or_init {g : GG} {a : Nat} {t : va_W}   : Ct g mX3_init 2 10 853 [.ref a] ((a, .inr (3, [.null, .null, .null, .null, .null, .int 0, .int 0])) :: t) (Dn fun b => (((b 9), iA g 400 (fun _ => 0)) :: ((b 8), .inr (5, [.ref (b 9)])) :: ((b 7), iA g 400 (fun _ => 0)) :: ((b 6), .inr (5, [.ref (b 7)])) :: ((b 5), iA g 16 (fun _ => 0)) :: ((b 4), .inr (5, [.ref (b 5)])) :: ((b 3), iA g 16 (fun _ => 0)) :: ((b 2), .inr (5, [.ref (b 3)])) :: ((b 1), iA g 16 (fun _ => 0)) :: ((b 0), .inr (5, [.ref (b 1)])) :: (a, .inr (3, [.ref (b 0), .ref (b 2), .ref (b 4), .ref (b 6), .ref (b 8), .int (0 : Int32), .int (0 : Int32)])) :: t)) := by
  refine Ct.ofR (by decide +kernel) rfl (Nat.le_of_ble_eq_true rfl) ?_
  refine r_aload_n 0 dX3_init_0 rfl ?_
  refine r_objInit dX3_init_1 ko_X3_3 (Nat.le_of_ble_eq_true rfl) (Nat.le_of_ble_eq_true rfl) ?_
  refine r_aload_n 0 dX3_init_4 rfl ?_
  refine r_new (x := 9) (y := 852) (N := 1) dX3_init_5 nl_X3_9 (fun q1 => ?_)
  refine r_dup dX3_init_8 rfl ?_
  refine r_bipush (v := (16 : Int32)) dX3_init_9 (by decide) ?_
  refine r_callI (x := 8) (y := 836) (a := 1) (b := (0 + 16)) (As := [.int (16 : Int32)]) (rest := [.ref q1, .ref a]) dX3_init_11 ki_X3_11 (ct_Row_init (16 : Int32) 16 (by decide) (by decide) (by decide) (by decide)) Dn.no rfl rfl (Nat.le_of_ble_eq_true rfl) (Nat.le_of_ble_eq_true rfl) (Nat.le_of_ble_eq_true rfl) (fun v9 w9 h9 => ?_)
  obtain ⟨h9, f2, rfl⟩ := h9
  cases h9
  refine r_putF 2 dX3_init_14 rfl ff_X3_14 rfl (Nat.le_of_ble_eq_true rfl) rfl rfl rfl ?_
  refine r_aload_n 0 dX3_init_17 rfl ?_
  refine r_new (x := 7) (y := 835) (N := 1) dX3_init_18 nl_X3_9 (fun q3 => ?_)
  refine r_dup dX3_init_21 rfl ?_
  refine r_bipush (v := (16 : Int32)) dX3_init_22 (by decide) ?_
  refine r_callI (x := 6) (y := 819) (a := 1) (b := (0 + 16)) (As := [.int (16 : Int32)]) (rest := [.ref q3, .ref a]) dX3_init_24 ki_X3_11 (ct_Row_init (16 : Int32) 16 (by decide) (by decide) (by decide) (by decide)) Dn.no rfl rfl (Nat.le_of_ble_eq_true rfl) (Nat.le_of_ble_eq_true rfl) (Nat.le_of_ble_eq_true rfl) (fun v9 w9 h9 => ?_)
  obtain ⟨h9, f4, rfl⟩ := h9
  cases h9
  refine r_putF 4 dX3_init_27 rfl ff_X3_20 rfl (Nat.le_of_ble_eq_true rfl) rfl rfl rfl ?_
  refine r_aload_n 0 dX3_init_30 rfl ?_
  refine r_new (x := 5) (y := 818) (N := 1) dX3_init_31 nl_X3_9 (fun q5 => ?_)
  refine r_dup dX3_init_34 rfl ?_
  refine r_bipush (v := (16 : Int32)) dX3_init_35 (by decide) ?_
  refine r_callI (x := 4) (y := 802) (a := 1) (b := (0 + 16)) (As := [.int (16 : Int32)]) (rest := [.ref q5, .ref a]) dX3_init_37 ki_X3_11 (ct_Row_init (16 : Int32) 16 (by decide) (by decide) (by decide) (by decide)) Dn.no rfl rfl (Nat.le_of_ble_eq_true rfl) (Nat.le_of_ble_eq_true rfl) (Nat.le_of_ble_eq_true rfl) (fun v9 w9 h9 => ?_)
  obtain ⟨h9, f6, rfl⟩ := h9
  cases h9
  refine r_putF 6 dX3_init_40 rfl ff_X3_23 rfl (Nat.le_of_ble_eq_true rfl) rfl rfl rfl ?_
  refine r_aload_n 0 dX3_init_43 rfl ?_
  refine r_new (x := 3) (y := 801) (N := 1) dX3_init_44 nl_X3_9 (fun q7 => ?_)
  refine r_dup dX3_init_47 rfl ?_
  refine r_sipush (v := (400 : Int32)) dX3_init_48 (by decide) ?_
  refine r_callI (x := 2) (y := 401) (a := 1) (b := (0 + 400)) (As := [.int (400 : Int32)]) (rest := [.ref q7, .ref a]) dX3_init_51 ki_X3_11 (ct_Row_init (400 : Int32) 400 (by decide) (by decide) (by decide) (by decide)) Dn.no rfl rfl (Nat.le_of_ble_eq_true rfl) (Nat.le_of_ble_eq_true rfl) (Nat.le_of_ble_eq_true rfl) (fun v9 w9 h9 => ?_)
  obtain ⟨h9, f8, rfl⟩ := h9
  cases h9
  refine r_putF 8 dX3_init_54 rfl ff_X3_26 rfl (Nat.le_of_ble_eq_true rfl) rfl rfl rfl ?_
  refine r_aload_n 0 dX3_init_57 rfl ?_
  refine r_new (x := 1) (y := 400) (N := 1) dX3_init_58 nl_X3_9 (fun q9 => ?_)
  refine r_dup dX3_init_61 rfl ?_
  refine r_sipush (v := (400 : Int32)) dX3_init_62 (by decide) ?_
  refine r_callI (x := 0) (y := 0) (a := 1) (b := (0 + 400)) (As := [.int (400 : Int32)]) (rest := [.ref q9, .ref a]) dX3_init_65 ki_X3_11 (ct_Row_init (400 : Int32) 400 (by decide) (by decide) (by decide) (by decide)) Dn.no rfl rfl (Nat.le_of_ble_eq_true rfl) (Nat.le_of_ble_eq_true rfl) (Nat.le_of_ble_eq_true rfl) (fun v9 w9 h9 => ?_)
  obtain ⟨h9, f10, rfl⟩ := h9
  cases h9
  refine r_putF 10 dX3_init_68 rfl ff_X3_29 rfl (Nat.le_of_ble_eq_true rfl) rfl rfl rfl ?_
  refine r_aload_n 0 dX3_init_71 rfl ?_
  refine r_iconst (v := (0 : Int32)) dX3_init_72 (by decide) ?_
  refine r_putf 10 dX3_init_73 fl_X3_32 rfl (Nat.le_of_ble_eq_true rfl) rfl rfl rfl ?_
  refine r_aload_n 0 dX3_init_76 rfl ?_
  refine r_iconst (v := (0 : Int32)) dX3_init_77 (by decide) ?_
  refine r_putf 10 dX3_init_78 fl_X3_36 rfl (Nat.le_of_ble_eq_true rfl) rfl rfl rfl ?_
  exact r_vret dX3_init_81 rfl ⟨rfl, (fun k => [q1, (f2 0), q3, (f4 0), q5, (f6 0), q7, (f8 0), q9, (f10 0)].getD k 0), rfl⟩
set_option maxRecDepth 20000 in
theorem ct_Tap_init {g : GG} {a : Nat} {t : va_W}   : Ct g mX6_init 3 22 1071 [.ref a] ((a, .inr (6, [.null, .null, .int 0, .int 0])) :: t) (Dn fun b => (((b 21), iA g 400 (fun _ => 0)) :: ((b 20), .inr (5, [.ref (b 21)])) :: ((b 19), iA g 400 (fun _ => 0)) :: ((b 18), .inr (5, [.ref (b 19)])) :: ((b 17), iA g 16 (fun _ => 0)) :: ((b 16), .inr (5, [.ref (b 17)])) :: ((b 15), iA g 16 (fun _ => 0)) :: ((b 14), .inr (5, [.ref (b 15)])) :: ((b 13), iA g 16 (fun _ => 0)) :: ((b 12), .inr (5, [.ref (b 13)])) :: ((b 11), .inr (3, [.ref (b 12), .ref (b 14), .ref (b 16), .ref (b 18), .ref (b 20), .int (0 : Int32), .int (0 : Int32)])) :: ((b 10), iA g 40 (fun _ => 0)) :: ((b 9), .inr (5, [.ref (b 10)])) :: ((b 8), iA g 40 (fun _ => 0)) :: ((b 7), .inr (5, [.ref (b 8)])) :: ((b 6), iA g 40 (fun _ => 0)) :: ((b 5), .inr (5, [.ref (b 6)])) :: ((b 4), iA g 40 (fun _ => 0)) :: ((b 3), .inr (5, [.ref (b 4)])) :: ((b 2), iA g 40 (fun _ => 0)) :: ((b 1), .inr (5, [.ref (b 2)])) :: ((b 0), .inr (0, [.ref (b 1), .ref (b 3), .ref (b 5), .ref (b 7), .ref (b 9), .int (0 : Int32)])) :: (a, .inr (6, [.ref (b 0), .ref (b 11), .int 0, .int 0])) :: t)) := by
  refine Ct.ofR (by decide +kernel) rfl (Nat.le_of_ble_eq_true rfl) ?_
  refine r_aload_n 0 dX6_init_0 rfl ?_
  refine r_objInit dX6_init_1 ko_X6_1 (Nat.le_of_ble_eq_true rfl) (Nat.le_of_ble_eq_true rfl) ?_
  refine r_aload_n 0 dX6_init_4 rfl ?_
  refine r_new (x := 21) (y := 1065) (N := 6) dX6_init_5 nl_X6_7 (fun q1 => ?_)
  refine r_dup dX6_init_8 rfl ?_
  refine r_callI (x := 11) (y := 860) (a := 10) (b := 205) (As := []) (rest := [.ref q1, .ref a]) dX6_init_9 ki_X6_9 (ct_Cl_init) Dn.no rfl rfl (Nat.le_of_ble_eq_true rfl) (Nat.le_of_ble_eq_true rfl) (Nat.le_of_ble_eq_true rfl) (fun v9 w9 h9 => ?_)
  obtain ⟨h9, f2, rfl⟩ := h9
  cases h9
  refine r_putF 11 dX6_init_12 rfl ff_X6_10 rfl (Nat.le_of_ble_eq_true rfl) rfl rfl rfl ?_
  refine r_aload_n 0 dX6_init_15 rfl ?_
  refine r_new (x := 10) (y := 853) (N := 7) dX6_init_16 nl_X6_16 (fun q3 => ?_)
  refine r_dup dX6_init_19 rfl ?_
  refine r_callI (x := 0) (y := 0) (a := 10) (b := 853) (As := []) (rest := [.ref q3, .ref a]) dX6_init_20 ki_X6_18 (ct_Or_init) Dn.no rfl rfl (Nat.le_of_ble_eq_true rfl) (Nat.le_of_ble_eq_true rfl) (Nat.le_of_ble_eq_true rfl) (fun v9 w9 h9 => ?_)
  obtain ⟨h9, f4, rfl⟩ := h9
  cases h9
  refine r_putF 22 dX6_init_23 rfl ff_X6_19 rfl (Nat.le_of_ble_eq_true rfl) rfl rfl rfl ?_
  exact r_vret dX6_init_26 rfl ⟨rfl, (fun k => [q1, (f2 0), (f2 1), (f2 2), (f2 3), (f2 4), (f2 5), (f2 6), (f2 7), (f2 8), (f2 9), q3, (f4 0), (f4 1), (f4 2), (f4 3), (f4 4), (f4 5), (f4 6), (f4 7), (f4 8), (f4 9)].getD k 0), rfl⟩
set_option maxRecDepth 20000 in
theorem ct_Ve_init {g : GG} {a : Nat} {t : va_W} (p1 : Nat)  : Ct g mX8_init 2 6 29 [.ref a, .ref p1] ((a, .inr (8, [.null, .null, .null, .null, .int 0, .int 0, .int 0])) :: t) (Dn fun b => (((b 5), iA g 8 (fun _ => 0)) :: ((b 4), .inr (5, [.ref (b 5)])) :: ((b 3), iA g 8 (fun _ => 0)) :: ((b 2), .inr (5, [.ref (b 3)])) :: ((b 1), iA g 10 (fun _ => 0)) :: ((b 0), .inr (5, [.ref (b 1)])) :: (a, .inr (8, [.ref p1, .ref (b 0), .ref (b 2), .ref (b 4), .int (-1 : Int32), .int 0, .int 0])) :: t)) := by
  refine Ct.ofR (by decide +kernel) rfl (Nat.le_of_ble_eq_true rfl) ?_
  refine r_aload_n 0 dX8_init_0 rfl ?_
  refine r_objInit dX8_init_1 ko_X8_3 (Nat.le_of_ble_eq_true rfl) (Nat.le_of_ble_eq_true rfl) ?_
  refine r_aload_n 0 dX8_init_4 rfl ?_
  refine r_aload_n 1 dX8_init_5 rfl ?_
  refine r_putF 0 dX8_init_6 rfl ff_X8_9 rfl (Nat.le_of_ble_eq_true rfl) rfl rfl rfl ?_
  refine r_aload_n 0 dX8_init_9 rfl ?_
  refine r_new (x := 5) (y := 28) (N := 1) dX8_init_10 nl_X8_15 (fun q1 => ?_)
  refine r_dup dX8_init_13 rfl ?_
  refine r_bipush (v := (10 : Int32)) dX8_init_14 (by decide) ?_
  refine r_callI (x := 4) (y := 18) (a := 1) (b := (0 + 10)) (As := [.int (10 : Int32)]) (rest := [.ref q1, .ref a]) dX8_init_16 ki_X8_17 (ct_Row_init (10 : Int32) 10 (by decide) (by decide) (by decide) (by decide)) Dn.no rfl rfl (Nat.le_of_ble_eq_true rfl) (Nat.le_of_ble_eq_true rfl) (Nat.le_of_ble_eq_true rfl) (fun v9 w9 h9 => ?_)
  obtain ⟨h9, f2, rfl⟩ := h9
  cases h9
  refine r_putF 2 dX8_init_19 rfl ff_X8_20 rfl (Nat.le_of_ble_eq_true rfl) rfl rfl rfl ?_
  refine r_aload_n 0 dX8_init_22 rfl ?_
  refine r_new (x := 3) (y := 17) (N := 1) dX8_init_23 nl_X8_15 (fun q3 => ?_)
  refine r_dup dX8_init_26 rfl ?_
  refine r_bipush (v := (8 : Int32)) dX8_init_27 (by decide) ?_
  refine r_callI (x := 2) (y := 9) (a := 1) (b := (0 + 8)) (As := [.int (8 : Int32)]) (rest := [.ref q3, .ref a]) dX8_init_29 ki_X8_17 (ct_Row_init (8 : Int32) 8 (by decide) (by decide) (by decide) (by decide)) Dn.no rfl rfl (Nat.le_of_ble_eq_true rfl) (Nat.le_of_ble_eq_true rfl) (Nat.le_of_ble_eq_true rfl) (fun v9 w9 h9 => ?_)
  obtain ⟨h9, f4, rfl⟩ := h9
  cases h9
  refine r_putF 4 dX8_init_32 rfl ff_X8_24 rfl (Nat.le_of_ble_eq_true rfl) rfl rfl rfl ?_
  refine r_aload_n 0 dX8_init_35 rfl ?_
  refine r_new (x := 1) (y := 8) (N := 1) dX8_init_36 nl_X8_15 (fun q5 => ?_)
  refine r_dup dX8_init_39 rfl ?_
  refine r_bipush (v := (8 : Int32)) dX8_init_40 (by decide) ?_
  refine r_callI (x := 0) (y := 0) (a := 1) (b := (0 + 8)) (As := [.int (8 : Int32)]) (rest := [.ref q5, .ref a]) dX8_init_42 ki_X8_17 (ct_Row_init (8 : Int32) 8 (by decide) (by decide) (by decide) (by decide)) Dn.no rfl rfl (Nat.le_of_ble_eq_true rfl) (Nat.le_of_ble_eq_true rfl) (Nat.le_of_ble_eq_true rfl) (fun v9 w9 h9 => ?_)
  obtain ⟨h9, f6, rfl⟩ := h9
  cases h9
  refine r_putF 6 dX8_init_45 rfl ff_X8_27 rfl (Nat.le_of_ble_eq_true rfl) rfl rfl rfl ?_
  refine r_aload_n 0 dX8_init_48 rfl ?_
  refine r_iconst (v := (-1 : Int32)) dX8_init_49 (by decide) ?_
  refine r_putf 6 dX8_init_50 fl_X8_30 rfl (Nat.le_of_ble_eq_true rfl) rfl rfl rfl ?_
  exact r_vret dX8_init_53 rfl ⟨rfl, (fun k => [q1, (f2 0), q3, (f4 0), q5, (f6 0)].getD k 0), rfl⟩
set_option maxRecDepth 20000 in
theorem ct_Na_init {g : GG} {a : Nat} {t : va_W} (n : Int32) (N : Nat) (h0 : ¬ n ≤ 0) (h1 : ¬ n < 0) (h2 : n.toNatClampNeg = N) (h3 : N ≤ 100000) : Ct g mX2_init 1 1 (0 + N) [.ref a, .int n] ((a, .inr (2, [.null, .int 0])) :: t) (Dn fun b => (((b 0), lA g N (fun _ => 0)) :: (a, .inr (2, [.ref (b 0), .int (0 : Int32)])) :: t)) := by
  refine Ct.ofR (by decide +kernel) rfl (Nat.le_of_ble_eq_true rfl) ?_
  refine r_aload_n 0 dX2_init_0 rfl ?_
  refine r_objInit dX2_init_1 ko_X2_1 (Nat.le_of_ble_eq_true rfl) (Nat.le_of_ble_eq_true rfl) ?_
  refine r_aload_n 0 dX2_init_4 rfl ?_
  refine r_iload_n 1 dX2_init_5 rfl ?_
  refine r_if_le (tgt := 13) dX2_init_6 (by decide) (fun h9 => absurd h9 h0) (fun _ => ?_)
  refine r_iload_n 1 dX2_init_9 rfl ?_
  refine r_goto (tgt := 14) dX2_init_10 (by decide) ?_
  refine r_newJ (x := 0) (y := 0) (N := N) dX2_init_14 kk_274 h1 h2 h3 (fun q1 => ?_)
  refine r_putF 1 dX2_init_16 rfl ff_X2_7 rfl (Nat.le_of_ble_eq_true rfl) rfl rfl rfl ?_
  refine r_aload_n 0 dX2_init_19 rfl ?_
  refine r_iconst (v := (0 : Int32)) dX2_init_20 (by decide) ?_
  refine r_putf 1 dX2_init_21 fl_X2_13 rfl (Nat.le_of_ble_eq_true rfl) rfl rfl rfl ?_
  exact r_vret dX2_init_24 rfl ⟨rfl, (fun k => [q1].getD k 0), rfl⟩
set_option maxRecDepth 20000 in
theorem ct_To_init {g : GG} {a : Nat} {t : va_W} (p1 : Nat)  : Ct g mX7_init 6 9 1634 [.ref a, .ref p1] ((a, .inr (7, [.null, .null, .null, .null, .null, .null, .int 0, .int 0, .int 0, .long 0])) :: t) (Dn fun b => ((a, .inr (7, [.ref p1, .ref (b 0), .ref (b 2), .ref (b 4), .ref (b 6), .ref (b 7), .int 0, .int 0, .int 0, .long 0])) :: ((b 0), .inr (5, [.ref (b 1)])) :: ((b 1), iA g 401 (fun _ => 0)) :: ((b 2), .inr (5, [.ref (b 3)])) :: ((b 3), iA g 401 (fun _ => 0)) :: ((b 4), .inr (5, [.ref (b 5)])) :: ((b 5), iA g 401 (fun _ => 0)) :: ((b 6), lA g 401 (fun _ => 0)) :: ((b 7), .inr (2, [.ref (b 8), .int kwO.1])) :: ((b 8), lA g 25 kwO.2) :: t)) := by
  refine Ct.ofR (by decide +kernel) rfl (Nat.le_of_ble_eq_true rfl) ?_
  refine r_aload_n 0 dX7_init_0 rfl ?_
  refine r_objInit dX7_init_1 ko_X7_3 (Nat.le_of_ble_eq_true rfl) (Nat.le_of_ble_eq_true rfl) ?_
  refine r_aload_n 0 dX7_init_4 rfl ?_
  refine r_aload_n 1 dX7_init_5 rfl ?_
  refine r_putF 0 dX7_init_6 rfl ff_X7_9 rfl (Nat.le_of_ble_eq_true rfl) rfl rfl rfl ?_
  refine r_aload_n 0 dX7_init_9 rfl ?_
  refine r_new (x := 8) (y := 1633) (N := 1) dX7_init_10 nl_X7_15 (fun q1 => ?_)
  refine r_dup dX7_init_13 rfl ?_
  refine r_sipush (v := (401 : Int32)) dX7_init_14 (by decide) ?_
  refine r_callI (x := 7) (y := 1232) (a := 1) (b := (0 + 401)) (As := [.int (401 : Int32)]) (rest := [.ref q1, .ref a]) dX7_init_17 ki_X7_17 (ct_Row_init (401 : Int32) 401 (by decide) (by decide) (by decide) (by decide)) Dn.no rfl rfl (Nat.le_of_ble_eq_true rfl) (Nat.le_of_ble_eq_true rfl) (Nat.le_of_ble_eq_true rfl) (fun v9 w9 h9 => ?_)
  obtain ⟨h9, f2, rfl⟩ := h9
  cases h9
  refine r_putF 2 dX7_init_20 rfl ff_X7_20 rfl (Nat.le_of_ble_eq_true rfl) rfl rfl rfl ?_
  refine r_aload_n 0 dX7_init_23 rfl ?_
  refine r_new (x := 6) (y := 1231) (N := 1) dX7_init_24 nl_X7_15 (fun q3 => ?_)
  refine r_dup dX7_init_27 rfl ?_
  refine r_sipush (v := (401 : Int32)) dX7_init_28 (by decide) ?_
  refine r_callI (x := 5) (y := 830) (a := 1) (b := (0 + 401)) (As := [.int (401 : Int32)]) (rest := [.ref q3, .ref a]) dX7_init_31 ki_X7_17 (ct_Row_init (401 : Int32) 401 (by decide) (by decide) (by decide) (by decide)) Dn.no rfl rfl (Nat.le_of_ble_eq_true rfl) (Nat.le_of_ble_eq_true rfl) (Nat.le_of_ble_eq_true rfl) (fun v9 w9 h9 => ?_)
  obtain ⟨h9, f4, rfl⟩ := h9
  cases h9
  refine r_putF 4 dX7_init_34 rfl ff_X7_23 rfl (Nat.le_of_ble_eq_true rfl) rfl rfl rfl ?_
  refine r_aload_n 0 dX7_init_37 rfl ?_
  refine r_new (x := 4) (y := 829) (N := 1) dX7_init_38 nl_X7_15 (fun q5 => ?_)
  refine r_dup dX7_init_41 rfl ?_
  refine r_sipush (v := (401 : Int32)) dX7_init_42 (by decide) ?_
  refine r_callI (x := 3) (y := 428) (a := 1) (b := (0 + 401)) (As := [.int (401 : Int32)]) (rest := [.ref q5, .ref a]) dX7_init_45 ki_X7_17 (ct_Row_init (401 : Int32) 401 (by decide) (by decide) (by decide) (by decide)) Dn.no rfl rfl (Nat.le_of_ble_eq_true rfl) (Nat.le_of_ble_eq_true rfl) (Nat.le_of_ble_eq_true rfl) (fun v9 w9 h9 => ?_)
  obtain ⟨h9, f6, rfl⟩ := h9
  cases h9
  refine r_putF 6 dX7_init_48 rfl ff_X7_26 rfl (Nat.le_of_ble_eq_true rfl) rfl rfl rfl ?_
  refine r_aload_n 0 dX7_init_51 rfl ?_
  refine r_sipush (v := (401 : Int32)) dX7_init_52 (by decide) ?_
  refine r_newJ (x := 2) (y := 27) (N := 401) dX7_init_55 kk_274 (by decide) (by decide) (by decide) (fun q7 => ?_)
  refine r_putF 7 dX7_init_57 rfl ff_X7_29 rfl (Nat.le_of_ble_eq_true rfl) rfl rfl rfl ?_
  refine r_aload_n 0 dX7_init_60 rfl ?_
  refine r_new (x := 1) (y := 25) (N := 2) dX7_init_61 nl_X7_33 (fun q8 => ?_)
  refine r_dup dX7_init_64 rfl ?_
  refine r_bipush (v := (25 : Int32)) dX7_init_65 (by decide) ?_
  refine r_callI (x := 0) (y := 0) (a := 1) (b := (0 + 25)) (As := [.int (25 : Int32)]) (rest := [.ref q8, .ref a]) dX7_init_67 ki_X7_35 (ct_Na_init (25 : Int32) 25 (by decide) (by decide) (by decide) (by decide)) Dn.no rfl rfl (Nat.le_of_ble_eq_true rfl) (Nat.le_of_ble_eq_true rfl) (Nat.le_of_ble_eq_true rfl) (fun v9 w9 h9 => ?_)
  obtain ⟨h9, f9, rfl⟩ := h9
  cases h9
  refine r_putF 9 dX7_init_70 rfl ff_X7_36 rfl (Nat.le_of_ble_eq_true rfl) rfl rfl rfl ?_
  refine r_aload_n 0 dX7_init_73 rfl ?_
  refine r_perm (ws2 := wlF g (fun k => [a, q1, (f2 0), q3, (f4 0), q5, (f6 0), q7, q8, (f9 0)].getD k 0) p1 (0) (0) (0) (0) (fun _ => 0) (fun _ => 0) (fun _ => 0) (fun _ => 0) (0 : Int32) (fun _ => 0) ++ t) (pm_of (B := [((f9 0), lA g 25 (fun _ => 0)), (q8, .inr (2, [.ref (f9 0), .int (0 : Int32)])), (q7, lA g 401 (fun _ => 0)), ((f6 0), iA g 401 (fun _ => 0)), (q5, .inr (5, [.ref (f6 0)])), ((f4 0), iA g 401 (fun _ => 0)), (q3, .inr (5, [.ref (f4 0)])), ((f2 0), iA g 401 (fun _ => 0)), (q1, .inr (5, [.ref (f2 0)])), (a, .inr (7, [.ref p1, .ref q1, .ref q3, .ref q5, .ref q7, .ref q8, .int 0, .int 0, .int 0, .long 0]))]) [9, 8, 7, 6, 5, 4, 3, 2, 1, 0] (show List.Perm _ (List.range 10) by decide +kernel) rfl) ?_
  refine c_Vv (rest := []) 0 0 0 dX7_init_74 kv_X7_40 (ct_To_fillKeywords kw_eq) rfl rfl lF_0 rfl (Nat.le_of_ble_eq_true rfl) (Nat.le_of_ble_eq_true rfl) (Nat.le_of_ble_eq_true rfl) ?_
  exact r_vret dX7_init_77 rfl ⟨rfl, (fun k => [q1, (f2 0), q3, (f4 0), q5, (f6 0), q7, q8, (f9 0)].getD k 0), rfl⟩
set_option maxRecDepth 20000 in
theorem ct_Re_init {g : GG} {a : Nat} {t : va_W} (p1 : Nat)  : Ct g mX4_init 7 37 2741 [.ref a, .ref p1] ((a, .inr (4, [.null, .null, .null, .null, .int 0, .int 0, .int 0, .int 0, .int 0])) :: t) (Dn fun b => (((b 36), lA g 10 (fun _ => 0)) :: ((b 35), .inr (2, [.ref (b 36), .int (0 : Int32)])) :: ((b 34), lA g 8 (fun _ => 0)) :: ((b 33), .inr (2, [.ref (b 34), .int (0 : Int32)])) :: ((b 32), iA g 400 (fun _ => 0)) :: ((b 31), .inr (5, [.ref (b 32)])) :: ((b 30), iA g 400 (fun _ => 0)) :: ((b 29), .inr (5, [.ref (b 30)])) :: ((b 28), iA g 16 (fun _ => 0)) :: ((b 27), .inr (5, [.ref (b 28)])) :: ((b 26), iA g 16 (fun _ => 0)) :: ((b 25), .inr (5, [.ref (b 26)])) :: ((b 24), iA g 16 (fun _ => 0)) :: ((b 23), .inr (5, [.ref (b 24)])) :: ((b 22), .inr (3, [.ref (b 23), .ref (b 25), .ref (b 27), .ref (b 29), .ref (b 31), .int (0 : Int32), .int (0 : Int32)])) :: ((b 21), iA g 40 (fun _ => 0)) :: ((b 20), .inr (5, [.ref (b 21)])) :: ((b 19), iA g 40 (fun _ => 0)) :: ((b 18), .inr (5, [.ref (b 19)])) :: ((b 17), iA g 40 (fun _ => 0)) :: ((b 16), .inr (5, [.ref (b 17)])) :: ((b 15), iA g 40 (fun _ => 0)) :: ((b 14), .inr (5, [.ref (b 15)])) :: ((b 13), iA g 40 (fun _ => 0)) :: ((b 12), .inr (5, [.ref (b 13)])) :: ((b 11), .inr (0, [.ref (b 12), .ref (b 14), .ref (b 16), .ref (b 18), .ref (b 20), .int (0 : Int32)])) :: ((b 10), .inr (6, [.ref (b 11), .ref (b 22), .int 0, .int 0])) :: ((b 0), .inr (7, [.ref p1, .ref (b 1), .ref (b 3), .ref (b 5), .ref (b 7), .ref (b 8), .int 0, .int 0, .int 0, .long 0])) :: ((b 1), .inr (5, [.ref (b 2)])) :: ((b 2), iA g 401 (fun _ => 0)) :: ((b 3), .inr (5, [.ref (b 4)])) :: ((b 4), iA g 401 (fun _ => 0)) :: ((b 5), .inr (5, [.ref (b 6)])) :: ((b 6), iA g 401 (fun _ => 0)) :: ((b 7), lA g 401 (fun _ => 0)) :: ((b 8), .inr (2, [.ref (b 9), .int kwO.1])) :: ((b 9), lA g 25 kwO.2) :: (a, .inr (4, [.ref (b 0), .ref (b 10), .ref (b 33), .ref (b 35), .int 0, .int 0, .int 0, .int 0, .int 0])) :: t)) := by
  refine Ct.ofR (by decide +kernel) rfl (Nat.le_of_ble_eq_true rfl) ?_
  refine r_aload_n 0 dX4_init_0 rfl ?_
  refine r_objInit dX4_init_1 ko_X4_3 (Nat.le_of_ble_eq_true rfl) (Nat.le_of_ble_eq_true rfl) ?_
  refine r_aload_n 0 dX4_init_4 rfl ?_
  refine r_new (x := 36) (y := 2731) (N := 10) dX4_init_5 nl_X4_9 (fun q1 => ?_)
  refine r_dup dX4_init_8 rfl ?_
  refine r_aload_n 1 dX4_init_9 rfl ?_
  refine r_callI (x := 27) (y := 1097) (a := 9) (b := 1634) (As := [.ref p1]) (rest := [.ref q1, .ref a]) dX4_init_10 ki_X4_11 (ct_To_init p1) Dn.no rfl rfl (Nat.le_of_ble_eq_true rfl) (Nat.le_of_ble_eq_true rfl) (Nat.le_of_ble_eq_true rfl) (fun v9 w9 h9 => ?_)
  obtain ⟨h9, f2, rfl⟩ := h9
  cases h9
  refine r_putF 10 dX4_init_13 rfl ff_X4_14 rfl (Nat.le_of_ble_eq_true rfl) rfl rfl rfl ?_
  refine r_aload_n 0 dX4_init_16 rfl ?_
  refine r_new (x := 26) (y := 1093) (N := 4) dX4_init_17 nl_X4_20 (fun q3 => ?_)
  refine r_dup dX4_init_20 rfl ?_
  refine r_callI (x := 4) (y := 22) (a := 22) (b := 1071) (As := []) (rest := [.ref q3, .ref a]) dX4_init_21 ki_X4_22 (ct_Tap_init) Dn.no rfl rfl (Nat.le_of_ble_eq_true rfl) (Nat.le_of_ble_eq_true rfl) (Nat.le_of_ble_eq_true rfl) (fun v9 w9 h9 => ?_)
  obtain ⟨h9, f4, rfl⟩ := h9
  cases h9
  refine r_putF 33 dX4_init_24 rfl ff_X4_23 rfl (Nat.le_of_ble_eq_true rfl) rfl rfl rfl ?_
  refine r_aload_n 0 dX4_init_27 rfl ?_
  refine r_new (x := 3) (y := 20) (N := 2) dX4_init_28 nl_X4_27 (fun q5 => ?_)
  refine r_dup dX4_init_31 rfl ?_
  refine r_bipush (v := (8 : Int32)) dX4_init_32 (by decide) ?_
  refine r_callI (x := 2) (y := 12) (a := 1) (b := (0 + 8)) (As := [.int (8 : Int32)]) (rest := [.ref q5, .ref a]) dX4_init_34 ki_X4_29 (ct_Na_init (8 : Int32) 8 (by decide) (by decide) (by decide) (by decide)) Dn.no rfl rfl (Nat.le_of_ble_eq_true rfl) (Nat.le_of_ble_eq_true rfl) (Nat.le_of_ble_eq_true rfl) (fun v9 w9 h9 => ?_)
  obtain ⟨h9, f6, rfl⟩ := h9
  cases h9
  refine r_putF 35 dX4_init_37 rfl ff_X4_32 rfl (Nat.le_of_ble_eq_true rfl) rfl rfl rfl ?_
  refine r_aload_n 0 dX4_init_40 rfl ?_
  refine r_new (x := 1) (y := 10) (N := 2) dX4_init_41 nl_X4_27 (fun q7 => ?_)
  refine r_dup dX4_init_44 rfl ?_
  refine r_bipush (v := (10 : Int32)) dX4_init_45 (by decide) ?_
  refine r_callI (x := 0) (y := 0) (a := 1) (b := (0 + 10)) (As := [.int (10 : Int32)]) (rest := [.ref q7, .ref a]) dX4_init_47 ki_X4_29 (ct_Na_init (10 : Int32) 10 (by decide) (by decide) (by decide) (by decide)) Dn.no rfl rfl (Nat.le_of_ble_eq_true rfl) (Nat.le_of_ble_eq_true rfl) (Nat.le_of_ble_eq_true rfl) (fun v9 w9 h9 => ?_)
  obtain ⟨h9, f8, rfl⟩ := h9
  cases h9
  refine r_putF 37 dX4_init_50 rfl ff_X4_36 rfl (Nat.le_of_ble_eq_true rfl) rfl rfl rfl ?_
  exact r_vret dX4_init_53 rfl ⟨rfl, (fun k => [q1, (f2 0), (f2 1), (f2 2), (f2 3), (f2 4), (f2 5), (f2 6), (f2 7), (f2 8), q3, (f4 0), (f4 1), (f4 2), (f4 3), (f4 4), (f4 5), (f4 6), (f4 7), (f4 8), (f4 9), (f4 10), (f4 11), (f4 12), (f4 13), (f4 14), (f4 15), (f4 16), (f4 17), (f4 18), (f4 19), (f4 20), (f4 21), q5, (f6 0), q7, (f8 0)].getD k 0), rfl⟩
set_option maxRecDepth 20000 in
theorem ct_Co_init {g : GG} {a : Nat} {t : va_W} (p1 : Nat) (p2 : Nat)  : Ct g mX1_init 2 2 401 [.ref a, .ref p1, .ref p2] ((a, .inr (1, [.null, .null, .null, .int 0, .int 0, .int 0, .int 0])) :: t) (Dn fun b => (((b 1), iA g 400 (fun _ => 0)) :: ((b 0), .inr (5, [.ref (b 1)])) :: (a, .inr (1, [.ref p1, .ref p2, .ref (b 0), .int 0, .int 0, .int 0, .int 0])) :: t)) := by
  refine Ct.ofR (by decide +kernel) rfl (Nat.le_of_ble_eq_true rfl) ?_
  refine r_aload_n 0 dX1_init_0 rfl ?_
  refine r_objInit dX1_init_1 ko_X1_3 (Nat.le_of_ble_eq_true rfl) (Nat.le_of_ble_eq_true rfl) ?_
  refine r_aload_n 0 dX1_init_4 rfl ?_
  refine r_aload_n 1 dX1_init_5 rfl ?_
  refine r_putF 0 dX1_init_6 rfl ff_X1_9 rfl (Nat.le_of_ble_eq_true rfl) rfl rfl rfl ?_
  refine r_aload_n 0 dX1_init_9 rfl ?_
  refine r_aload_n 2 dX1_init_10 rfl ?_
  refine r_putF 0 dX1_init_11 rfl ff_X1_15 rfl (Nat.le_of_ble_eq_true rfl) rfl rfl rfl ?_
  refine r_aload_n 0 dX1_init_14 rfl ?_
  refine r_new (x := 1) (y := 400) (N := 1) dX1_init_15 nl_X1_19 (fun q1 => ?_)
  refine r_dup dX1_init_18 rfl ?_
  refine r_sipush (v := (400 : Int32)) dX1_init_19 (by decide) ?_
  refine r_callI (x := 0) (y := 0) (a := 1) (b := (0 + 400)) (As := [.int (400 : Int32)]) (rest := [.ref q1, .ref a]) dX1_init_22 ki_X1_21 (ct_Row_init (400 : Int32) 400 (by decide) (by decide) (by decide) (by decide)) Dn.no rfl rfl (Nat.le_of_ble_eq_true rfl) (Nat.le_of_ble_eq_true rfl) (Nat.le_of_ble_eq_true rfl) (fun v9 w9 h9 => ?_)
  obtain ⟨h9, f2, rfl⟩ := h9
  cases h9
  refine r_putF 2 dX1_init_25 rfl ff_X1_24 rfl (Nat.le_of_ble_eq_true rfl) rfl rfl rfl ?_
  exact r_vret dX1_init_28 rfl ⟨rfl, (fun k => [q1, (f2 0)].getD k 0), rfl⟩
set_option maxRecDepth 20000 in
theorem ct_Main_init {g : GG} {a : Nat} {t : va_W}   : Ct g mX9_init 8 76 6678 [.ref a] ((a, .inr (9, [.null, .null, .null, .null, .null, .null, .int 0, .int 0])) :: t) (Dx1 a fun b => wlX g b (0 : Int32) (-1 : Int32) (fun _ => 0) (0) (0) (0 : Int32) (fun _ => 0) (fun _ => 0) (fun _ => 0) (fun _ => 0) (fun _ => 0) (0 : Int32) (0 : Int32) (fun _ => 0) (fun _ => 0) (fun _ => 0) (fun _ => 0) (fun _ => 0) (-1 : Int32) (0) (0) (fun _ => 0) (fun _ => 0) (fun _ => 0) (0) (0) (0) (0) (0) (0) (0) (0) (0) (fun _ => 0) (fun _ => 0) (fun _ => 0) (fun _ => 0) (kwO.1) kwO.2 (0) (0) (0 : Int32) (fun _ => 0) (fun _ => 0) (fun _ => 0) (fun _ => 0) (fun _ => 0) (0 : Int32) (0 : Int32) (fun _ => 0) (fun _ => 0) (fun _ => 0) (fun _ => 0) (fun _ => 0) (0 : Int32) (fun _ => 0) (0 : Int32) (fun _ => 0) (0) (0) (0) (0) (fun _ => 0) (0) (0) (0) (0) (fun _ => 0) ++ t) := by
  refine Ct.ofR (by decide +kernel) rfl (Nat.le_of_ble_eq_true rfl) ?_
  refine r_aload_n 0 dX9_init_0 rfl ?_
  refine r_objInit dX9_init_1 ko_X9_1 (Nat.le_of_ble_eq_true rfl) (Nat.le_of_ble_eq_true rfl) ?_
  refine r_new (x := 75) (y := 6677) (N := 1) dX9_init_4 nl_X9_7 (fun q1 => ?_)
  refine r_dup dX9_init_7 rfl ?_
  refine r_sipush (v := (2000 : Int32)) dX9_init_8 (by decide) ?_
  refine r_callI (x := 74) (y := 4677) (a := 1) (b := (0 + 2000)) (As := [.int (2000 : Int32)]) (rest := [.ref q1]) dX9_init_11 ki_X9_11 (ct_Row_init (2000 : Int32) 2000 (by decide) (by decide) (by decide) (by decide)) Dn.no rfl rfl (Nat.le_of_ble_eq_true rfl) (Nat.le_of_ble_eq_true rfl) (Nat.le_of_ble_eq_true rfl) (fun v9 w9 h9 => ?_)
  obtain ⟨h9, f2, rfl⟩ := h9
  cases h9
  refine r_astore_n [(1, .ref q1), (0, .ref a)] dX9_init_14 (by decide) rfl ?_
  refine r_new (x := 73) (y := 4673) (N := 4) dX9_init_15 nl_X9_14 (fun q3 => ?_)
  refine r_dup dX9_init_18 rfl ?_
  refine r_callI (x := 51) (y := 3602) (a := 22) (b := 1071) (As := []) (rest := [.ref q3]) dX9_init_19 ki_X9_16 (ct_Tap_init) Dn.no rfl rfl (Nat.le_of_ble_eq_true rfl) (Nat.le_of_ble_eq_true rfl) (Nat.le_of_ble_eq_true rfl) (fun v9 w9 h9 => ?_)
  obtain ⟨h9, f4, rfl⟩ := h9
  cases h9
  refine r_astore_n [(2, .ref q3), (1, .ref q1), (0, .ref a)] dX9_init_22 (by decide) rfl ?_
  refine r_new (x := 50) (y := 3595) (N := 7) dX9_init_23 nl_X9_17 (fun q5 => ?_)
  refine r_dup dX9_init_26 rfl ?_
  refine r_aload_n 0 dX9_init_27 rfl ?_
  refine r_callI (x := 44) (y := 3566) (a := 6) (b := 29) (As := [.ref q3]) (rest := [.ref q5]) dX9_init_28 ki_X9_19 (ct_Ve_init q3) Dn.no rfl rfl (Nat.le_of_ble_eq_true rfl) (Nat.le_of_ble_eq_true rfl) (Nat.le_of_ble_eq_true rfl) (fun v9 w9 h9 => ?_)
  obtain ⟨h9, f6, rfl⟩ := h9
  cases h9
  refine r_astore_n [(3, .ref q5), (2, .ref q3), (1, .ref q1), (0, .ref a)] dX9_init_31 (by decide) rfl ?_
  refine r_aload_n 3 dX9_init_32 rfl ?_
  refine r_aload_n 2 dX9_init_33 rfl ?_
  refine r_putF 32 dX9_init_34 rfl ff_X9_22 rfl (Nat.le_of_ble_eq_true rfl) rfl rfl rfl ?_
  refine r_aload_n 3 dX9_init_37 rfl ?_
  refine r_new (x := 43) (y := 3557) (N := 9) dX9_init_38 nl_X9_26 (fun q7 => ?_)
  refine r_dup dX9_init_41 rfl ?_
  refine r_aload_n 2 dX9_init_42 rfl ?_
  refine r_callI (x := 6) (y := 816) (a := 37) (b := 2741) (As := [.ref q1]) (rest := [.ref q7, .ref a]) dX9_init_43 ki_X9_28 (ct_Re_init q1) Dn.no rfl rfl (Nat.le_of_ble_eq_true rfl) (Nat.le_of_ble_eq_true rfl) (Nat.le_of_ble_eq_true rfl) (fun v9 w9 h9 => ?_)
  obtain ⟨h9, f8, rfl⟩ := h9
  cases h9
  refine r_putF 70 dX9_init_46 rfl ff_X9_31 rfl (Nat.le_of_ble_eq_true rfl) rfl rfl rfl ?_
  refine r_aload_n 3 dX9_init_49 rfl ?_
  refine r_aload_n 1 dX9_init_50 rfl ?_
  refine r_putF 70 dX9_init_51 rfl ff_X9_35 rfl (Nat.le_of_ble_eq_true rfl) rfl rfl rfl ?_
  refine r_aload_n 3 dX9_init_54 rfl ?_
  refine r_aload_n 0 dX9_init_55 rfl ?_
  refine r_putF 70 dX9_init_56 rfl ff_X9_39 rfl (Nat.le_of_ble_eq_true rfl) rfl rfl rfl ?_
  refine r_aload_n 3 dX9_init_59 rfl ?_
  refine r_new (x := 5) (y := 809) (N := 7) dX9_init_60 nl_X9_43 (fun q9 => ?_)
  refine r_dup dX9_init_63 rfl ?_
  refine r_aload_n 1 dX9_init_64 rfl ?_
  refine r_aload_n 0 dX9_init_65 rfl ?_
  refine r_callI (x := 3) (y := 408) (a := 2) (b := 401) (As := [.ref q3, .ref q5]) (rest := [.ref q9, .ref a]) dX9_init_66 ki_X9_45 (ct_Co_init q3 q5) Dn.no rfl rfl (Nat.le_of_ble_eq_true rfl) (Nat.le_of_ble_eq_true rfl) (Nat.le_of_ble_eq_true rfl) (fun v9 w9 h9 => ?_)
  obtain ⟨h9, f10, rfl⟩ := h9
  cases h9
  refine r_putF 73 dX9_init_69 rfl ff_X9_48 rfl (Nat.le_of_ble_eq_true rfl) rfl rfl rfl ?_
  refine r_aload_n 3 dX9_init_72 rfl ?_
  refine r_new (x := 2) (y := 401) (N := 7) dX9_init_73 nl_X9_43 (fun q11 => ?_)
  refine r_dup dX9_init_76 rfl ?_
  refine r_aload_n 1 dX9_init_77 rfl ?_
  refine r_aload_n 0 dX9_init_78 rfl ?_
  refine r_callI (x := 0) (y := 0) (a := 2) (b := 401) (As := [.ref q3, .ref q5]) (rest := [.ref q11, .ref a]) dX9_init_79 ki_X9_45 (ct_Co_init q3 q5) Dn.no rfl rfl (Nat.le_of_ble_eq_true rfl) (Nat.le_of_ble_eq_true rfl) (Nat.le_of_ble_eq_true rfl) (fun v9 w9 h9 => ?_)
  obtain ⟨h9, f12, rfl⟩ := h9
  cases h9
  refine r_putF 76 dX9_init_82 rfl ff_X9_52 rfl (Nat.le_of_ble_eq_true rfl) rfl rfl rfl ?_
  refine r_aload_n 3 dX9_init_85 rfl ?_
  refine r_iconst (v := (0 : Int32)) dX9_init_86 (by decide) ?_
  refine r_putf 76 dX9_init_87 fl_X9_55 rfl (Nat.le_of_ble_eq_true rfl) rfl rfl rfl ?_
  refine r_aload_n 3 dX9_init_90 rfl ?_
  refine r_iconst (v := (-1 : Int32)) dX9_init_91 (by decide) ?_
  refine r_putf 76 dX9_init_92 fl_X9_59 rfl (Nat.le_of_ble_eq_true rfl) rfl rfl rfl ?_
  refine r_perm (ws2 := wlX g (fun k => [a, q1, (f2 0), q3, (f4 0), (f4 1), (f4 2), (f4 3), (f4 4), (f4 5), (f4 6), (f4 7), (f4 8), (f4 9), (f4 10), (f4 11), (f4 12), (f4 13), (f4 14), (f4 15), (f4 16), (f4 17), (f4 18), (f4 19), (f4 20), (f4 21), q5, (f6 0), (f6 1), (f6 2), (f6 3), (f6 4), (f6 5), q7, (f8 0), (f8 1), (f8 2), (f8 3), (f8 4), (f8 5), (f8 6), (f8 7), (f8 8), (f8 9), (f8 10), (f8 11), (f8 12), (f8 13), (f8 14), (f8 15), (f8 16), (f8 17), (f8 18), (f8 19), (f8 20), (f8 21), (f8 22), (f8 23), (f8 24), (f8 25), (f8 26), (f8 27), (f8 28), (f8 29), (f8 30), (f8 31), (f8 32), (f8 33), (f8 34), (f8 35), (f8 36), q9, (f10 0), (f10 1), q11, (f12 0), (f12 1)].getD k 0) (0 : Int32) (-1 : Int32) (fun _ => 0) (0) (0) (0 : Int32) (fun _ => 0) (fun _ => 0) (fun _ => 0) (fun _ => 0) (fun _ => 0) (0 : Int32) (0 : Int32) (fun _ => 0) (fun _ => 0) (fun _ => 0) (fun _ => 0) (fun _ => 0) (-1 : Int32) (0) (0) (fun _ => 0) (fun _ => 0) (fun _ => 0) (0) (0) (0) (0) (0) (0) (0) (0) (0) (fun _ => 0) (fun _ => 0) (fun _ => 0) (fun _ => 0) (kwO.1) kwO.2 (0) (0) (0 : Int32) (fun _ => 0) (fun _ => 0) (fun _ => 0) (fun _ => 0) (fun _ => 0) (0 : Int32) (0 : Int32) (fun _ => 0) (fun _ => 0) (fun _ => 0) (fun _ => 0) (fun _ => 0) (0 : Int32) (fun _ => 0) (0 : Int32) (fun _ => 0) (0) (0) (0) (0) (fun _ => 0) (0) (0) (0) (0) (fun _ => 0) ++ t) (pm_of (B := [((f12 1), iA g 400 (fun _ => 0)), ((f12 0), .inr (5, [.ref (f12 1)])), (q11, .inr (1, [.ref q3, .ref q5, .ref (f12 0), .int 0, .int 0, .int 0, .int 0])), ((f10 1), iA g 400 (fun _ => 0)), ((f10 0), .inr (5, [.ref (f10 1)])), (q9, .inr (1, [.ref q3, .ref q5, .ref (f10 0), .int 0, .int 0, .int 0, .int 0])), ((f8 36), lA g 10 (fun _ => 0)), ((f8 35), .inr (2, [.ref (f8 36), .int (0 : Int32)])), ((f8 34), lA g 8 (fun _ => 0)), ((f8 33), .inr (2, [.ref (f8 34), .int (0 : Int32)])), ((f8 32), iA g 400 (fun _ => 0)), ((f8 31), .inr (5, [.ref (f8 32)])), ((f8 30), iA g 400 (fun _ => 0)), ((f8 29), .inr (5, [.ref (f8 30)])), ((f8 28), iA g 16 (fun _ => 0)), ((f8 27), .inr (5, [.ref (f8 28)])), ((f8 26), iA g 16 (fun _ => 0)), ((f8 25), .inr (5, [.ref (f8 26)])), ((f8 24), iA g 16 (fun _ => 0)), ((f8 23), .inr (5, [.ref (f8 24)])), ((f8 22), .inr (3, [.ref (f8 23), .ref (f8 25), .ref (f8 27), .ref (f8 29), .ref (f8 31), .int (0 : Int32), .int (0 : Int32)])), ((f8 21), iA g 40 (fun _ => 0)), ((f8 20), .inr (5, [.ref (f8 21)])), ((f8 19), iA g 40 (fun _ => 0)), ((f8 18), .inr (5, [.ref (f8 19)])), ((f8 17), iA g 40 (fun _ => 0)), ((f8 16), .inr (5, [.ref (f8 17)])), ((f8 15), iA g 40 (fun _ => 0)), ((f8 14), .inr (5, [.ref (f8 15)])), ((f8 13), iA g 40 (fun _ => 0)), ((f8 12), .inr (5, [.ref (f8 13)])), ((f8 11), .inr (0, [.ref (f8 12), .ref (f8 14), .ref (f8 16), .ref (f8 18), .ref (f8 20), .int (0 : Int32)])), ((f8 10), .inr (6, [.ref (f8 11), .ref (f8 22), .int 0, .int 0])), ((f8 0), .inr (7, [.ref q1, .ref (f8 1), .ref (f8 3), .ref (f8 5), .ref (f8 7), .ref (f8 8), .int 0, .int 0, .int 0, .long 0])), ((f8 1), .inr (5, [.ref (f8 2)])), ((f8 2), iA g 401 (fun _ => 0)), ((f8 3), .inr (5, [.ref (f8 4)])), ((f8 4), iA g 401 (fun _ => 0)), ((f8 5), .inr (5, [.ref (f8 6)])), ((f8 6), iA g 401 (fun _ => 0)), ((f8 7), lA g 401 (fun _ => 0)), ((f8 8), .inr (2, [.ref (f8 9), .int kwO.1])), ((f8 9), lA g 25 kwO.2), (q7, .inr (4, [.ref (f8 0), .ref (f8 10), .ref (f8 33), .ref (f8 35), .int 0, .int 0, .int 0, .int 0, .int 0])), ((f6 5), iA g 8 (fun _ => 0)), ((f6 4), .inr (5, [.ref (f6 5)])), ((f6 3), iA g 8 (fun _ => 0)), ((f6 2), .inr (5, [.ref (f6 3)])), ((f6 1), iA g 10 (fun _ => 0)), ((f6 0), .inr (5, [.ref (f6 1)])), (q5, .inr (8, [.ref q3, .ref (f6 0), .ref (f6 2), .ref (f6 4), .int (-1 : Int32), .int 0, .int 0])), ((f4 21), iA g 400 (fun _ => 0)), ((f4 20), .inr (5, [.ref (f4 21)])), ((f4 19), iA g 400 (fun _ => 0)), ((f4 18), .inr (5, [.ref (f4 19)])), ((f4 17), iA g 16 (fun _ => 0)), ((f4 16), .inr (5, [.ref (f4 17)])), ((f4 15), iA g 16 (fun _ => 0)), ((f4 14), .inr (5, [.ref (f4 15)])), ((f4 13), iA g 16 (fun _ => 0)), ((f4 12), .inr (5, [.ref (f4 13)])), ((f4 11), .inr (3, [.ref (f4 12), .ref (f4 14), .ref (f4 16), .ref (f4 18), .ref (f4 20), .int (0 : Int32), .int (0 : Int32)])), ((f4 10), iA g 40 (fun _ => 0)), ((f4 9), .inr (5, [.ref (f4 10)])), ((f4 8), iA g 40 (fun _ => 0)), ((f4 7), .inr (5, [.ref (f4 8)])), ((f4 6), iA g 40 (fun _ => 0)), ((f4 5), .inr (5, [.ref (f4 6)])), ((f4 4), iA g 40 (fun _ => 0)), ((f4 3), .inr (5, [.ref (f4 4)])), ((f4 2), iA g 40 (fun _ => 0)), ((f4 1), .inr (5, [.ref (f4 2)])), ((f4 0), .inr (0, [.ref (f4 1), .ref (f4 3), .ref (f4 5), .ref (f4 7), .ref (f4 9), .int (0 : Int32)])), (q3, .inr (6, [.ref (f4 0), .ref (f4 11), .int 0, .int 0])), ((f2 0), iA g 2000 (fun _ => 0)), (q1, .inr (5, [.ref (f2 0)])), (a, .inr (9, [.ref q1, .ref q7, .ref q3, .ref q5, .ref q9, .ref q11, .int (0 : Int32), .int (-1 : Int32)]))]) [76, 75, 74, 73, 72, 71, 70, 69, 68, 67, 66, 65, 64, 63, 62, 61, 60, 59, 58, 57, 56, 55, 54, 53, 52, 51, 50, 49, 48, 47, 46, 45, 44, 43, 33, 34, 35, 36, 37, 38, 39, 40, 41, 42, 32, 31, 30, 29, 28, 27, 26, 25, 24, 23, 22, 21, 20, 19, 18, 17, 16, 15, 14, 13, 12, 11, 10, 9, 8, 7, 6, 5, 4, 3, 2, 1, 0] (show List.Perm _ (List.range 77) by decide +kernel) rfl) ?_
  exact r_vret dX9_init_95 rfl ⟨rfl, (fun k => [a, q1, (f2 0), q3, (f4 0), (f4 1), (f4 2), (f4 3), (f4 4), (f4 5), (f4 6), (f4 7), (f4 8), (f4 9), (f4 10), (f4 11), (f4 12), (f4 13), (f4 14), (f4 15), (f4 16), (f4 17), (f4 18), (f4 19), (f4 20), (f4 21), q5, (f6 0), (f6 1), (f6 2), (f6 3), (f6 4), (f6 5), q7, (f8 0), (f8 1), (f8 2), (f8 3), (f8 4), (f8 5), (f8 6), (f8 7), (f8 8), (f8 9), (f8 10), (f8 11), (f8 12), (f8 13), (f8 14), (f8 15), (f8 16), (f8 17), (f8 18), (f8 19), (f8 20), (f8 21), (f8 22), (f8 23), (f8 24), (f8 25), (f8 26), (f8 27), (f8 28), (f8 29), (f8 30), (f8 31), (f8 32), (f8 33), (f8 34), (f8 35), (f8 36), q9, (f10 0), (f10 1), q11, (f12 0), (f12 1)].getD k 0), rfl, rfl⟩
