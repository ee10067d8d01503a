/-! the law's loop, and the whole of it -/
theorem kk_144 : Cond.classLink RL 8 RX9 ∈ gtbl := g_in (List.mem_of_getElem? (i := 144) (by decide +kernel)) (by decide +kernel)
theorem kk_145 : Cond.instantiable RX9 8 ∈ gtbl := g_in (List.mem_of_getElem? (i := 145) (by decide +kernel)) (by decide +kernel)
theorem nl_L_8 : NL RL 8 9 8 [.null, .null, .null, .null, .null, .null, .int 0, .int 0] := ⟨RX9, TX9, tyX9, rfl, il_9, tyX9_ok, kk_144, kk_145, kk_119, by intro j hj; match j, hj with
  | 0, _ => rfl
  | 1, _ => rfl
  | 2, _ => rfl
  | 3, _ => rfl
  | 4, _ => rfl
  | 5, _ => rfl
  | 6, _ => rfl
  | 7, _ => rfl
  | j + 8, hj => exact absurd hj (by omega)⟩
theorem kk_1349 : Cond.classLink RL 98 RX11 ∈ gtbl := g_in (List.mem_of_getElem? (i := 1349) (by decide +kernel)) (by decide +kernel)
theorem kk_1350 : Cond.instantiable RX11 23 ∈ gtbl := g_in (List.mem_of_getElem? (i := 1350) (by decide +kernel)) (by decide +kernel)
theorem nl_L_98 : NL RL 98 11 23 [.int 0, .null, .int 0, .int 0, .null, .null, .null, .null, .null, .null, .int 0, .int 0, .int 0, .int 0, .int 0, .int 0, .null, .int 0, .int 0, .int 0, .int 0, .null, .null] := ⟨RX11, TX11, tyX11, rfl, il_11, tyX11_ok, kk_1349, kk_1350, kk_133, by intro j hj; match j, hj with
  | 0, _ => rfl
  | 1, _ => rfl
  | 2, _ => rfl
  | 3, _ => rfl
  | 4, _ => rfl
  | 5, _ => rfl
  | 6, _ => rfl
  | 7, _ => rfl
  | 8, _ => rfl
  | 9, _ => rfl
  | 10, _ => rfl
  | 11, _ => rfl
  | 12, _ => rfl
  | 13, _ => rfl
  | 14, _ => rfl
  | 15, _ => rfl
  | 16, _ => rfl
  | 17, _ => rfl
  | 18, _ => rfl
  | 19, _ => rfl
  | 20, _ => rfl
  | 21, _ => rfl
  | 22, _ => rfl
  | j + 23, hj => exact absurd hj (by omega)⟩
theorem kk_146 : Cond.methodLink RL 97 yX9_init ∈ gtbl := g_in (List.mem_of_getElem? (i := 146) (by decide +kernel)) (by decide +kernel)
theorem kk_148 : Cond.code yX9_init cX9_init 4 none ∈ gtbl := g_in (List.mem_of_getElem? (i := 148) (by decide +kernel)) (by decide +kernel)
theorem kk_147 : Cond.instanceMethod yX9_init ∈ gtbl := g_in (List.mem_of_getElem? (i := 147) (by decide +kernel)) (by decide +kernel)
theorem ki_L_97 : KI RL 97 mX9_init 0 := ⟨⟨kk_146, kk_119, kk_148, by decide +kernel⟩, rfl, rfl, rfl, kk_147⟩
theorem kk_1351 : Cond.methodLink RL 100 yX11_init ∈ gtbl := g_in (List.mem_of_getElem? (i := 1351) (by decide +kernel)) (by decide +kernel)
theorem kk_1353 : Cond.code yX11_init cX11_init 1 none ∈ gtbl := g_in (List.mem_of_getElem? (i := 1353) (by decide +kernel)) (by decide +kernel)
theorem kk_1352 : Cond.instanceMethod yX11_init ∈ gtbl := g_in (List.mem_of_getElem? (i := 1352) (by decide +kernel)) (by decide +kernel)
theorem ki_L_100 : KI RL 100 mX11_init 0 := ⟨⟨kk_1351, kk_133, kk_1353, by decide +kernel⟩, rfl, rfl, rfl, kk_1352⟩
theorem pmL {B : va_W} {e : Nat × va_E} (h : B = [e]) (A C E t : va_W) : (A ++ (B ++ (C ++ (E ++ t)))).Perm (e :: (C ++ (E ++ (A ++ t)))) := by
  subst h
  have h1 : ((A ++ [e]) ++ (C ++ E)).Perm ((C ++ E) ++ (A ++ [e])) := List.perm_append_comm
  have h2 : ((C ++ E) ++ (A ++ [e])).Perm ([e] ++ ((C ++ E) ++ A)) := by
    rw [← List.append_assoc]
    exact List.perm_append_comm
  have h3 := (h1.trans h2).append_right t
  simp only [List.append_assoc, List.cons_append, List.nil_append] at h3 ⊢
  exact h3
def GoH (nm : String) (g : GG) (ad ao am : Nat → Nat) (Q : Rs → va_W → Prop) (a b : Nat) (i : Int32) : Prop := ∀ {ap : Nat → Nat} {x0 x1 : Int32} {x2 : Nat → Int32} {x3 x4 x5 : Int32} {x6 x7 x8 x9 x10 : Nat → Int32} {x11 x12 : Int32} {x13 x14 x15 x16 x17 : Nat → Int32} {x18 x19 x20 : Int32} {x21 x22 x23 : Nat → Int32} {x24 x25 x26 x27 x28 x29 x30 x31 : Int32} {x32 : Int64} {x33 x34 x35 : Nat → Int32} {x36 : Nat → Int64} {x37 : Int32} {x38 : Nat → Int64} {x39 x40 x41 : Int32} {x42 x43 x44 x45 x46 : Nat → Int32} {x47 x48 : Int32} {x49 x50 x51 x52 x53 : Nat → Int32} {x54 : Int32} {x55 : Nat → Int64} {x56 : Int32} {x57 : Nat → Int64} {x58 x59 x60 x61 : Int32} {x62 : Nat → Int32} {x63 x64 x65 x66 : Int32} {x67 : Nat → Int32} {m0 m1 m2 m3 m4 m5 m6 m7 m8 m9 m10 m11 m12 : Int32} {m13 m14 m15 m16 : Nat → Int32} {m17 : Nat → Int64} {m18 m19 m20 m21 : Nat → Int32} {u0 u1 u2 u3 u4 : Int32} {u5 u6 : Nat → Int64} {u7 u8 u9 u10 u11 u12 u13 u14 u15 u16 u17 u18 : Nat → Int32} {out : Nat → Int64} {t : va_W}, Rel x0 x1 x2 x3 x4 x5 x6 x7 x8 x9 x10 x11 x13 x14 x15 x16 x17 x18 x19 x20 x21 x37 x38 x59 x60 x61 m1 m2 m6 m7 m8 m9 m10 m11 m12 m13 m19 u0 u1 u2 u3 u7 u8 u9 u10 u11 u12 u13 u14 u15 u16 u17 u18 → R g (mL_law nm) 1400 a b 23 [(0, .ref (gb g)), (1, .ref (ad 0)), (2, .ref (am 0)), (3, .ref (ao 0)), (4, .int i)] [] (wlX g ad x0 x1 x2 x3 x4 x5 x6 x7 x8 x9 x10 x11 x12 x13 x14 x15 x16 x17 x18 x19 x20 x21 x22 x23 x24 x25 x26 x27 x28 x29 x30 x31 x32 x33 x34 x35 x36 x37 x38 x39 x40 x41 x42 x43 x44 x45 x46 x47 x48 x49 x50 x51 x52 x53 x54 x55 x56 x57 x58 x59 x60 x61 x62 x63 x64 x65 x66 x67 ++ (wlO g ao out ++ (wlM g am (ap 0) m0 m1 m2 m3 m4 m5 m6 m7 m8 m9 m10 m11 m12 m13 m14 m15 m16 m17 m18 m19 m20 m21 ++ (wlP g ap u0 u1 u2 u3 u4 u5 u6 u7 u8 u9 u10 u11 u12 u13 u14 u15 u16 u17 u18 ++ t)))) Q
theorem go_step {nm : String} {g : GG} {ad ao am : Nat → Nat} {Q : Rs → va_W → Prop} {a b : Nat} {i : Int32} (h : GoH nm g ad ao am Q a b (i + 6)) : GoK nm g ad ao am Q a b i := by
  unfold GoK
  intros
  refine r_iinc (v2 := i + 6) 4 [(4, .int (i + 6)), (0, .ref (gb g)), (1, .ref (ad 0)), (2, .ref (am 0)), (3, .ref (ao 0))] dL_law_2050 rfl rfl (Nat.le_of_ble_eq_true rfl) rfl ?_
  refine r_goto (tgt := 23) dL_law_2053 (by decide) ?_
  refine r_ls [1, 2, 3, 4, 0] (ls2 := [(0, .ref (gb g)), (1, .ref (ad 0)), (2, .ref (am 0)), (3, .ref (ao 0)), (4, .int (i + 6))]) rfl ?_
  unfold GoH at h
  exact h (by assumption)
theorem int_40 (a : Int32) : (∃ k, k < 40 ∧ a = nI k) ∨ (a.toInt < 0 ∨ 39 < a.toInt) := by
  by_cases h1 : a.toInt < 0
  · exact Or.inr (Or.inl h1)
  · by_cases h2 : 39 < a.toInt
    · exact Or.inr (Or.inr h2)
    · refine Or.inl ⟨a.toInt.toNat, by omega, ?_⟩
      apply Int32.toInt_inj.mp
      rw [nI_toInt (by omega)]
      omega
theorem lim_in {L i : Nat} (hL : L ≤ 3072) (hi : i ≤ 3072) (h : ¬ (Int32.ofNat L - 6 : Int32) < nI i) : i + 6 ≤ L := by
  apply Nat.le_of_not_lt
  intro h2
  apply h
  have e1 : (Int32.ofNat L - 6 : Int32).toInt = (L : Int) - 6 := pk_sub_toInt (a := L) (b := 6) (by omega) (by decide)
  rw [Int32.lt_iff_toInt_lt, e1, nI_toInt (by omega)]
  omega
set_option maxRecDepth 20000 in
set_option maxHeartbeats 4000000 in
theorem law_all {nm : String} {g : GG} {ad ao am : Nat → Nat} {Q : Rs → va_W → Prop} (hL : gL g ≤ 3072) (hQ : ∀ ws, Q (.inl (some (.int 1))) ws) : ∀ n c, c + n = 512 → GoH nm g ad ao am Q (15 * n) (2701 * n) (nI (6 * c)) := by
  intro n
  induction n with
  | zero =>
    intro c hc
    unfold GoH
    intro ap x0 x1 x2 x3 x4 x5 x6 x7 x8 x9 x10 x11 x12 x13 x14 x15 x16 x17 x18 x19 x20 x21 x22 x23 x24 x25 x26 x27 x28 x29 x30 x31 x32 x33 x34 x35 x36 x37 x38 x39 x40 x41 x42 x43 x44 x45 x46 x47 x48 x49 x50 x51 x52 x53 x54 x55 x56 x57 x58 x59 x60 x61 x62 x63 x64 x65 x66 x67 m0 m1 m2 m3 m4 m5 m6 m7 m8 m9 m10 m11 m12 m13 m14 m15 m16 m17 m18 m19 m20 m21 u0 u1 u2 u3 u4 u5 u6 u7 u8 u9 u10 u11 u12 u13 u14 u15 u16 u17 u18 out t hrel
    refine r_iload 4 dL_law_23 rfl ?_
    refine r_aload_n 0 dL_law_25 rfl ?_
    refine r_slen dL_law_26 ?_
    refine r_bipush (v := (6 : Int32)) dL_law_27 (by decide) ?_
    refine r_isub dL_law_29 ?_
    refine r_icmp_gt (tgt := 2056) dL_law_30 (by decide) (fun _ => ?_) (fun hlt => ?_)
    · refine r_iconst (v := (1 : Int32)) dL_law_2056 (by decide) ?_
      exact r_zret dL_law_2057 rfl rfl (hQ _)
    · have := lim_in hL (show 6 * c ≤ 3072 by omega) hlt
      omega
  | succ n ih =>
    intro c hc
    have hgo : GoH nm g ad ao am Q (15 * n) (2701 * n) (nI (6 * (c + 1))) := @ih (c + 1) (by omega)
    unfold GoH
    intro ap x0 x1 x2 x3 x4 x5 x6 x7 x8 x9 x10 x11 x12 x13 x14 x15 x16 x17 x18 x19 x20 x21 x22 x23 x24 x25 x26 x27 x28 x29 x30 x31 x32 x33 x34 x35 x36 x37 x38 x39 x40 x41 x42 x43 x44 x45 x46 x47 x48 x49 x50 x51 x52 x53 x54 x55 x56 x57 x58 x59 x60 x61 x62 x63 x64 x65 x66 x67 m0 m1 m2 m3 m4 m5 m6 m7 m8 m9 m10 m11 m12 m13 m14 m15 m16 m17 m18 m19 m20 m21 u0 u1 u2 u3 u4 u5 u6 u7 u8 u9 u10 u11 u12 u13 u14 u15 u16 u17 u18 out t hrel
    refine r_iload 4 dL_law_23 rfl ?_
    refine r_aload_n 0 dL_law_25 rfl ?_
    refine r_slen dL_law_26 ?_
    refine r_bipush (v := (6 : Int32)) dL_law_27 (by decide) ?_
    refine r_isub dL_law_29 ?_
    refine r_icmp_gt (tgt := 2056) dL_law_30 (by decide) (fun _ => ?_) (fun hlt => ?_)
    · refine r_iconst (v := (1 : Int32)) dL_law_2056 (by decide) ?_
      exact r_zret dL_law_2057 rfl rfl (hQ _)
    · have hin := lim_in hL (show 6 * c ≤ 3072 by omega) hlt
      have hb : ∀ j, j < 6 → ib (nI (6 * c) + nI j) (gL g) = true := fun j hj => by
        rw [nI_add]
        exact ib_nI (by omega) (by omega)
      have h1 : ib (nI (6 * c) + (1 : Int32)) (gL g) = true := hb 1 (by decide)
      have h2 : ib (nI (6 * c) + (2 : Int32)) (gL g) = true := hb 2 (by decide)
      have h3 : ib (nI (6 * c) + (3 : Int32)) (gL g) = true := hb 3 (by decide)
      have h4 : ib (nI (6 * c) + (4 : Int32)) (gL g) = true := hb 4 (by decide)
      have h5 : ib (nI (6 * c) + (5 : Int32)) (gL g) = true := hb 5 (by decide)
      have hK : GoK nm g ad ao am Q (15 * n) (2701 * n) (nI (6 * c)) := go_step (by
        have e : nI (6 * c) + 6 = nI (6 * (c + 1)) := nI_add (6 * c) 6
        rw [e]
        exact @hgo)
      refine r_aload_n 0 dL_law_33 rfl ?_
      refine r_iload 4 dL_law_34 rfl ?_
      refine r_sld dL_law_36 (ib_nI (show 6 * c < gL g by omega) (by omega)) ?_
      refine r_bipush (v := (63 : Int32)) dL_law_37 (by decide) ?_
      refine r_iand dL_law_39 ?_
      generalize (gx g (nI (6 * c)).toNatClampNeg &&& 63) = v
      rcases int_40 v with ⟨k, hk, rfl⟩ | hv
      · match k, hk with
      | 0, _ => exact r_tableIn (off := 176) (tgt := 216) dL_law_40 (by decide) (by decide) rfl (by decide) (law_0 hrel h1 h2 h3 h4 h5 @hK)
      | 1, _ => exact r_tableIn (off := 280) (tgt := 320) dL_law_40 (by decide) (by decide) rfl (by decide) (law_1 hrel h1 @hK)
      | 2, _ => exact r_tableIn (off := 336) (tgt := 376) dL_law_40 (by decide) (by decide) rfl (by decide) (law_2 hrel  @hK)
      | 3, _ => exact r_tableIn (off := 349) (tgt := 389) dL_law_40 (by decide) (by decide) rfl (by decide) (law_3 hrel  @hK)
      | 4, _ => exact r_tableIn (off := 362) (tgt := 402) dL_law_40 (by decide) (by decide) rfl (by decide) (law_4 hrel  @hK)
      | 5, _ => exact r_tableIn (off := 375) (tgt := 415) dL_law_40 (by decide) (by decide) rfl (by decide) (law_5 hrel  @hK)
      | 6, _ => exact r_tableIn (off := 388) (tgt := 428) dL_law_40 (by decide) (by decide) rfl (by decide) (law_6 hrel  @hK)
      | 7, _ => exact r_tableIn (off := 401) (tgt := 441) dL_law_40 (by decide) (by decide) rfl (by decide) (law_7 hrel  @hK)
      | 8, _ => exact r_tableIn (off := 414) (tgt := 454) dL_law_40 (by decide) (by decide) rfl (by decide) (law_8 hrel  @hK)
      | 9, _ => exact r_tableIn (off := 427) (tgt := 467) dL_law_40 (by decide) (by decide) rfl (by decide) (law_9 hrel h1 @hK)
      | 10, _ => exact r_tableIn (off := 483) (tgt := 523) dL_law_40 (by decide) (by decide) rfl (by decide) (law_10 hrel h1 @hK)
      | 11, _ => exact r_tableIn (off := 539) (tgt := 579) dL_law_40 (by decide) (by decide) rfl (by decide) (law_11 hrel h1 @hK)
      | 12, _ => exact r_tableIn (off := 595) (tgt := 635) dL_law_40 (by decide) (by decide) rfl (by decide) (law_12 hrel h1 @hK)
      | 13, _ => exact r_tableIn (off := 651) (tgt := 691) dL_law_40 (by decide) (by decide) rfl (by decide) (law_13 hrel h1 @hK)
      | 14, _ => exact r_tableIn (off := 707) (tgt := 747) dL_law_40 (by decide) (by decide) rfl (by decide) (law_14 hrel h1 @hK)
      | 15, _ => exact r_tableIn (off := 763) (tgt := 803) dL_law_40 (by decide) (by decide) rfl (by decide) (law_15 hrel h1 h2 @hK)
      | 16, _ => exact r_tableIn (off := 838) (tgt := 878) dL_law_40 (by decide) (by decide) rfl (by decide) (law_16 hrel h1 @hK)
      | 17, _ => exact r_tableIn (off := 894) (tgt := 934) dL_law_40 (by decide) (by decide) rfl (by decide) (law_17 hrel h1 @hK)
      | 18, _ => exact r_tableIn (off := 957) (tgt := 997) dL_law_40 (by decide) (by decide) rfl (by decide) (law_18 hrel h1 h2 @hK)
      | 19, _ => exact r_tableIn (off := 1032) (tgt := 1072) dL_law_40 (by decide) (by decide) rfl (by decide) (law_19 hrel h1 h2 @hK)
      | 20, _ => exact r_tableIn (off := 1100) (tgt := 1140) dL_law_40 (by decide) (by decide) rfl (by decide) (law_20 hrel  @hK)
      | 21, _ => exact r_tableIn (off := 1113) (tgt := 1153) dL_law_40 (by decide) (by decide) rfl (by decide) (law_21 hrel  @hK)
      | 22, _ => exact r_tableIn (off := 1126) (tgt := 1166) dL_law_40 (by decide) (by decide) rfl (by decide) (law_22 hrel  @hK)
      | 23, _ => exact r_tableIn (off := 1139) (tgt := 1179) dL_law_40 (by decide) (by decide) rfl (by decide) (law_23 hrel h1 @hK)
      | 24, _ => exact r_tableIn (off := 1202) (tgt := 1242) dL_law_40 (by decide) (by decide) rfl (by decide) (law_24 hrel h1 @hK)
      | 25, _ => exact r_tableIn (off := 1265) (tgt := 1305) dL_law_40 (by decide) (by decide) rfl (by decide) (law_25 hrel h1 @hK)
      | 26, _ => exact r_tableIn (off := 1321) (tgt := 1361) dL_law_40 (by decide) (by decide) rfl (by decide) (law_26 hrel h1 @hK)
      | 27, _ => exact r_tableIn (off := 1377) (tgt := 1417) dL_law_40 (by decide) (by decide) rfl (by decide) (law_27 hrel  @hK)
      | 28, _ => exact r_tableIn (off := 1390) (tgt := 1430) dL_law_40 (by decide) (by decide) rfl (by decide) (law_28 hrel h1 @hK)
      | 29, _ => exact r_tableIn (off := 1446) (tgt := 1486) dL_law_40 (by decide) (by decide) rfl (by decide) (law_29 hrel h1 h2 h3 h4 @hK)
      | 30, _ => exact r_tableIn (off := 1538) (tgt := 1578) dL_law_40 (by decide) (by decide) rfl (by decide) (law_30 hrel h1 h2 h3 @hK)
      | 31, _ => exact r_tableIn (off := 1618) (tgt := 1658) dL_law_40 (by decide) (by decide) rfl (by decide) (law_31 hrel h1 h2 h3 @hK)
      | 32, _ => exact r_tableIn (off := 1698) (tgt := 1738) dL_law_40 (by decide) (by decide) rfl (by decide) (law_32 hrel h1 @hK)
      | 33, _ => exact r_tableIn (off := 1754) (tgt := 1794) dL_law_40 (by decide) (by decide) rfl (by decide) (law_33 hrel h1 @hK)
      | 34, _ => exact r_tableIn (off := 1817) (tgt := 1857) dL_law_40 (by decide) (by decide) rfl (by decide) (law_34 hrel h1 @hK)
      | 35, _ => exact r_tableIn (off := 1873) (tgt := 1913) dL_law_40 (by decide) (by decide) rfl (by decide) (law_35 hrel h1 @hK)
      | 36, _ => exact r_tableIn (off := 1929) (tgt := 1969) dL_law_40 (by decide) (by decide) rfl (by decide) (law_36 hrel  @hK)
      | 37, _ => exact r_tableIn (off := 1942) (tgt := 1982) dL_law_40 (by decide) (by decide) rfl (by decide) (law_37 hrel  @hK)
      | 38, _ => exact r_tableIn (off := 1955) (tgt := 1995) dL_law_40 (by decide) (by decide) rfl (by decide) (law_38 hrel  @hK)
      | 39, _ => exact r_tableIn (off := 1996) (tgt := 2036) dL_law_40 (by decide) (by decide) rfl (by decide) (law_39 hrel  @hK)
      | k + 40, hk => exact absurd hk (by omega)
      · refine r_tableOut (tgt := 2050) dL_law_40 hv (by decide) ?_
        refine r_less (x := 15 * n) (y := 2701 * n) (by omega) (by omega) ?_
        exact hK hrel
set_option maxRecDepth 20000 in
set_option maxHeartbeats 4000000 in
theorem law_run {nm : String} {g : GG} {Q : Rs → va_W → Prop} (hL : gL g ≤ 3072) (hQ : ∀ ws, Q (.inl (some (.int 1))) ws) : R g (mL_law nm) 1400 7880 1402912 0 [(0, .ref (gb g))] [] [] Q := by
  refine r_less (x := 15 * 512 + 1 + 24 + 1 + 76 + 1) (y := 2701 * 512 + 1 + 7524 + 23 + 6678 + 8) (by decide) (by decide) ?_
  refine r_new (x := 15 * 512 + 1 + 24 + 1 + 76) (y := 2701 * 512 + 1 + 7524 + 23 + 6678) (N := 8) dL_law_0 nl_L_8 (fun q1 => ?_)
  refine r_dup dL_law_3 rfl ?_
  refine r_callI (x := 15 * 512 + 1 + 24 + 1) (y := 2701 * 512 + 1 + 7524 + 23) (a := 76) (b := 6678) (As := []) (rest := [.ref q1]) dL_law_4 ki_L_97 (ct_Main_init) Dx1.no rfl rfl (Nat.le_of_ble_eq_true rfl) (Nat.le_of_ble_eq_true rfl) (Nat.le_of_ble_eq_true rfl) (fun v9 w9 h9 => ?_)
  obtain ⟨h9, ad, ha, rfl⟩ := h9
  cases h9
  refine r_astore_n [(1, .ref q1), (0, .ref (gb g))] dL_law_7 (Nat.le_of_ble_eq_true rfl) rfl ?_
  refine r_new (x := 15 * 512 + 1 + 24) (y := 2701 * 512 + 1 + 7524) (N := 23) dL_law_8 nl_L_98 (fun q2 => ?_)
  refine r_dup dL_law_11 rfl ?_
  refine r_callI (x := 15 * 512 + 1) (y := 2701 * 512 + 1) (a := 24) (b := 7524) (As := []) (rest := [.ref q2]) dL_law_12 ki_L_100 (ct_M_init) Dx2.no rfl rfl (Nat.le_of_ble_eq_true rfl) (Nat.le_of_ble_eq_true rfl) (Nat.le_of_ble_eq_true rfl) (fun v9 w9 h9 => ?_)
  obtain ⟨h9, am, ap, hm, rfl⟩ := h9
  cases h9
  refine r_astore_n [(2, .ref q2), (1, .ref q1), (0, .ref (gb g))] dL_law_15 (Nat.le_of_ble_eq_true rfl) rfl ?_
  refine r_iconst (v := (1 : Int32)) dL_law_16 (by decide) ?_
  refine r_newJ (x := 15 * 512) (y := 2701 * 512) (N := 1) dL_law_17 kk_331 (by decide) (by decide) (by decide) (fun q3 => ?_)
  refine r_astore_n [(3, .ref q3), (2, .ref q2), (1, .ref q1), (0, .ref (gb g))] dL_law_19 (Nat.le_of_ble_eq_true rfl) rfl ?_
  refine r_iconst (v := (0 : Int32)) dL_law_20 (by decide) ?_
  refine r_istore [(4, .int 0), (3, .ref q3), (2, .ref q2), (1, .ref q1), (0, .ref (gb g))] dL_law_21 (Nat.le_of_ble_eq_true rfl) rfl ?_
  subst ha hm
  refine r_perm (pmL (B := wlO g (fun _ => q3) (fun _ => 0)) rfl _ _ _ _) ?_
  refine r_ls [4, 3, 2, 1, 0] (ls2 := [(0, .ref (gb g)), (1, .ref (ad 0)), (2, .ref (am 0)), (3, .ref ((fun _ => q3) 0)), (4, .int (nI (6 * 0)))]) rfl ?_
  exact law_all hL hQ 512 0 rfl rel_0
