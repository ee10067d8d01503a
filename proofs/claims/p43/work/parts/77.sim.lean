set_option maxRecDepth 20000 in
set_option maxHeartbeats 4000000 in
theorem cl_below {g : GG} {t : va_W} {v : Int32} {n : Nat} (h0 : 0 < n) (hn : n < 2147483648) : Ct g mL_below 1 0 0 [.int v, .int (nI n)] t (Dv (some (.int (nI (bw v n)))) t) := by
  refine Ct.ofR (by decide +kernel) rfl (Nat.le_of_ble_eq_true rfl) ?_
  show R g mL_below 1 0 0 0 [(0, .int v), (1, .int (nI n))] [] t _
  refine r_iload_n 0 dL_below_0 rfl ?_
  refine r_ldc dL_below_1 kk_1003 ?_
  refine r_iand dL_below_3 ?_
  refine r_top (w := .int (nI (v.toBitVec.toNat % 2147483648))) (by rw [bw_and]) ?_
  refine r_iload_n 1 dL_below_4 rfl ?_
  refine r_irem dL_below_5 (nI_ne0 h0 (by omega)) ?_
  refine r_top (w := .int (nI (bw v n))) (by rw [pk_rem (Nat.mod_lt _ (by decide)) h0 (by omega)]; rfl) ?_
  refine r_iret dL_below_6 rfl ?_
  exact ⟨rfl, rfl⟩
set_option maxRecDepth 20000 in
set_option maxHeartbeats 4000000 in
theorem cl_cell {g : GG} {t : va_W} {k : Nat} (hk : k < 10000) (hL : gL g ≤ 260) : Ct g mL_cell 1 0 0 [.ref (gb g), .int (nI k)] t (Dq (fun (z : Int32) => some (.int z)) (fun z => t) (fun z => True)) := by
  refine Ct.ofR (by decide +kernel) rfl (Nat.le_of_ble_eq_true rfl) ?_
  show R g mL_cell 1 0 0 0 [(0, .ref (gb g)), (1, .int (nI k))] [] t _
  refine r_iload_n 1 dL_cell_0 rfl ?_
  refine r_aload_n 0 dL_cell_1 rfl ?_
  refine r_slen dL_cell_2 ?_
  refine r_icmp_ge (tgt := 12) dL_cell_3 (by decide) (fun hc => ?_) (fun hc => ?_)
  · refine r_ldc dL_cell_12 kk_1007 ?_
    refine r_iload_n 1 dL_cell_14 rfl ?_
    refine r_iconst (v := (3 : Int32)) dL_cell_15 (by decide) ?_
    refine r_iadd dL_cell_16 ?_
    refine r_imul dL_cell_17 ?_
    refine r_iret dL_cell_18 rfl ?_
    exact Dq.mk _ rfl rfl trivial
  · have hk2 : k < gL g := by have : ¬ _ := fun h => hc ((nI_leI (a := gL g) (b := k) (by omega) (by omega)).mpr h); omega
    refine r_aload_n 0 dL_cell_6 rfl ?_
    refine r_iload_n 1 dL_cell_7 rfl ?_
    refine r_sld dL_cell_8 (ib_nI hk2 (by omega)) ?_
    refine r_goto (tgt := 18) dL_cell_9 (by decide) ?_
    refine r_iret dL_cell_18 rfl ?_
    exact Dq.mk _ rfl rfl trivial
set_option maxRecDepth 20000 in
set_option maxHeartbeats 4000000 in
theorem cl_contrary {g : GG} {t : va_W} {a b ne nt : Nat} {f h : Nat → Int32} (ma : (a, iA g 5 f) ∈ t) (mb : (b, iA g 5 h) ∈ t) (vf : CV1 ne nt f) (vh : CV1 ne nt h) : Ct g mX10_isContrary 1 0 0 [.ref a, .ref b] t (Dv (some (.int (bI (ctF f h)))) t) := by
  refine Ct.ofR (by decide +kernel) rfl (Nat.le_of_ble_eq_true rfl) ?_
  show R g mX10_isContrary 1 0 0 0 [(0, .ref a), (1, .ref b)] [] t _
  obtain ⟨vf0, -, -, vf3, vf4⟩ := vf
  obtain ⟨vh0, -, -, vh3, vh4⟩ := vh
  have T : (¬ f 0 = 0 ∨ ¬ h 0 = 0) → R g mX10_isContrary 1 0 0 58 [(0, .ref a), (1, .ref b)] [] t (Dv (some (.int (bI (ctF f h)))) t) := by
    intro hn
    refine r_aload_n 0 dX10_isContrary_58 rfl ?_
    refine r_iconst (v := (0 : Int32)) dX10_isContrary_59 (by decide) ?_
    refine r_ialdm (n := 5) (f := f) dX10_isContrary_60 ma (by decide) ?_
    refine r_top (w := .int (f 0)) (by rw [cl0]) ?_
    refine r_if_eq (tgt := 84) dX10_isContrary_61 (by decide) (fun h1 => ?_) (fun h1 => ?_)
    · refine r_iconst (v := (0 : Int32)) dX10_isContrary_84 (by decide) ?_
      refine r_zret dX10_isContrary_85 rfl (by decide) ?_
      refine ⟨?_, rfl⟩
      simp [ctF, ctB, bI, h1, hn] <;> simp_all
    · refine r_aload_n 1 dX10_isContrary_64 rfl ?_
      refine r_iconst (v := (0 : Int32)) dX10_isContrary_65 (by decide) ?_
      refine r_ialdm (n := 5) (f := h) dX10_isContrary_66 mb (by decide) ?_
      refine r_top (w := .int (h 0)) (by rw [cl0]) ?_
      refine r_if_eq (tgt := 84) dX10_isContrary_67 (by decide) (fun h2 => ?_) (fun h2 => ?_)
      · refine r_iconst (v := (0 : Int32)) dX10_isContrary_84 (by decide) ?_
        refine r_zret dX10_isContrary_85 rfl (by decide) ?_
        refine ⟨?_, rfl⟩
        simp [ctF, ctB, bI, h1, h2]
      · refine r_aload_n 0 dX10_isContrary_70 rfl ?_
        refine r_iconst (v := (0 : Int32)) dX10_isContrary_71 (by decide) ?_
        refine r_ialdm (n := 5) (f := f) dX10_isContrary_72 ma (by decide) ?_
        refine r_top (w := .int (f 0)) (by rw [cl0]) ?_
        refine r_iconst (v := (2 : Int32)) dX10_isContrary_73 (by decide) ?_
        refine r_icmp_ne (tgt := 86) dX10_isContrary_74 (by decide) (fun h3 => ?_) (fun h3 => ?_)
        · have J : ∀ z : Bool, z = (decide (f 2 = h 2) && decide (f 3 = h 3)) → ∀ y : Bool, y = (decide (f 2 = h 3) && decide (f 3 = h 2)) → R g mX10_isContrary 1 0 0 134 [(3, .int (bI y)), (2, .int (bI z)), (0, .ref a), (1, .ref b)] [] t (Dv (some (.int (bI (ctF f h)))) t) := by
            intro z hz y hy
            refine r_aload_n 2 dX10_isContrary_134 rfl ?_
            refine r_iconst (v := (0 : Int32)) dX10_isContrary_135 (by decide) ?_
            refine r_ialdm (n := 5) (f := f) dX10_isContrary_136 ma (by decide) ?_
            refine r_top (w := .int (f 0)) (by rw [cl0]) ?_
            refine r_aload_n 3 dX10_isContrary_137 rfl ?_
            refine r_iconst (v := (0 : Int32)) dX10_isContrary_138 (by decide) ?_
            refine r_ialdm (n := 5) (f := h) dX10_isContrary_139 mb (by decide) ?_
            refine r_top (w := .int (h 0)) (by rw [cl0]) ?_
            refine r_icmp_ne (tgt := 147) dX10_isContrary_140 (by decide) (fun h7 => ?_) (fun h7 => ?_)
            · refine r_iload_n 1 dX10_isContrary_147 rfl ?_
              refine r_if_ne (tgt := 155) dX10_isContrary_148 (by decide) (fun h8 => ?_) (fun h8 => ?_)
              · refine r_iconst (v := (1 : Int32)) dX10_isContrary_155 (by decide) ?_
                refine r_goto (tgt := 160) dX10_isContrary_156 (by decide) ?_
                refine r_zret dX10_isContrary_160 rfl (by decide) ?_
                refine ⟨?_, rfl⟩
                have e1 := fun e => h8 (bI_0.mpr e)
                have e2 : z = true := by cases z with | false => exact absurd rfl e1 | true => rfl
                rw [hz] at e2
                have e3 : ctF f h = true := by unfold ctF ctB; rw [if_neg h1, if_neg h2, if_neg h7, e2, Bool.or_true]
                rw [e3]; rfl
              · have e1 : z = false := bI_0.mp h8
                refine r_iload_n 0 dX10_isContrary_151 rfl ?_
                refine r_if_eq (tgt := 159) dX10_isContrary_152 (by decide) (fun h9 => ?_) (fun h9 => ?_)
                · refine r_iconst (v := (0 : Int32)) dX10_isContrary_159 (by decide) ?_
                  refine r_zret dX10_isContrary_160 rfl (by decide) ?_
                  refine ⟨?_, rfl⟩
                  have e2 : y = false := bI_0.mp h9
                  rw [hz] at e1
                  rw [hy] at e2
                  have e3 : ctF f h = false := by unfold ctF ctB; rw [if_neg h1, if_neg h2, if_neg h7, e1, e2]; rfl
                  rw [e3]; rfl
                · refine r_iconst (v := (1 : Int32)) dX10_isContrary_155 (by decide) ?_
                  refine r_goto (tgt := 160) dX10_isContrary_156 (by decide) ?_
                  refine r_zret dX10_isContrary_160 rfl (by decide) ?_
                  refine ⟨?_, rfl⟩
                  have e2 : y = true := by cases y with | false => exact absurd rfl h9 | true => rfl
                  rw [hy] at e2
                  have e3 : ctF f h = true := by unfold ctF ctB; rw [if_neg h1, if_neg h2, if_neg h7, e2, Bool.true_or]
                  rw [e3]; rfl
            · refine r_iload_n 0 dX10_isContrary_143 rfl ?_
              refine r_goto (tgt := 160) dX10_isContrary_144 (by decide) ?_
              refine r_zret dX10_isContrary_160 rfl (zB_n (bI_zB _)) ?_
              refine ⟨?_, rfl⟩
              have k1 : f 0 = 1 := by rcases vf0 with q | q | q <;> first | exact q | exact absurd q h1 | exact absurd q h3
              have e3 : ctF f h = y := by unfold ctF ctB; rw [if_neg h1, if_neg h2, if_pos h7, if_pos k1, hy]
              rw [e3]
          refine r_aload_n 0 dX10_isContrary_86 rfl ?_
          refine r_iconst (v := (2 : Int32)) dX10_isContrary_87 (by decide) ?_
          refine r_ialdm (n := 5) (f := f) dX10_isContrary_88 ma (by decide) ?_
          refine r_top (w := .int (f 2)) (by rw [cl2]) ?_
          refine r_aload_n 1 dX10_isContrary_89 rfl ?_
          refine r_iconst (v := (2 : Int32)) dX10_isContrary_90 (by decide) ?_
          refine r_ialdm (n := 5) (f := h) dX10_isContrary_91 mb (by decide) ?_
          refine r_top (w := .int (h 2)) (by rw [cl2]) ?_
          refine r_icmp_ne (tgt := 108) dX10_isContrary_92 (by decide) (fun g1 => ?_) (fun g1 => ?_)
          · refine r_iconst (v := (0 : Int32)) dX10_isContrary_108 (by decide) ?_
            refine r_top (w := .int (bI false)) (rfl) ?_
            refine r_istore_n [(2, .int (bI false)), (0, .ref a), (1, .ref b)] dX10_isContrary_109 (by decide) rfl ?_
            refine r_aload_n 1 dX10_isContrary_110 rfl ?_
            refine r_iconst (v := (2 : Int32)) dX10_isContrary_111 (by decide) ?_
            refine r_ialdm (n := 5) (f := f) dX10_isContrary_112 ma (by decide) ?_
            refine r_top (w := .int (f 2)) (by rw [cl2]) ?_
            refine r_aload_n 2 dX10_isContrary_113 rfl ?_
            refine r_iconst (v := (3 : Int32)) dX10_isContrary_114 (by decide) ?_
            refine r_ialdm (n := 5) (f := h) dX10_isContrary_115 mb (by decide) ?_
            refine r_top (w := .int (h 3)) (by rw [cl3]) ?_
            refine r_icmp_ne (tgt := 132) dX10_isContrary_116 (by decide) (fun g3 => ?_) (fun g3 => ?_)
            · refine r_iconst (v := (0 : Int32)) dX10_isContrary_132 (by decide) ?_
              refine r_top (w := .int (bI false)) (rfl) ?_
              refine r_istore_n [(3, .int (bI false)), (2, .int (bI false)), (0, .ref a), (1, .ref b)] dX10_isContrary_133 (by decide) rfl ?_
              exact J _ (by simp [g1]) _ (by simp [g3])
            · refine r_aload_n 1 dX10_isContrary_119 rfl ?_
              refine r_iconst (v := (3 : Int32)) dX10_isContrary_120 (by decide) ?_
              refine r_ialdm (n := 5) (f := f) dX10_isContrary_121 ma (by decide) ?_
              refine r_top (w := .int (f 3)) (by rw [cl3]) ?_
              refine r_aload_n 2 dX10_isContrary_122 rfl ?_
              refine r_iconst (v := (2 : Int32)) dX10_isContrary_123 (by decide) ?_
              refine r_ialdm (n := 5) (f := h) dX10_isContrary_124 mb (by decide) ?_
              refine r_top (w := .int (h 2)) (by rw [cl2]) ?_
              refine r_icmp_ne (tgt := 132) dX10_isContrary_125 (by decide) (fun g4 => ?_) (fun g4 => ?_)
              · refine r_iconst (v := (0 : Int32)) dX10_isContrary_132 (by decide) ?_
                refine r_top (w := .int (bI false)) (rfl) ?_
                refine r_istore_n [(3, .int (bI false)), (2, .int (bI false)), (0, .ref a), (1, .ref b)] dX10_isContrary_133 (by decide) rfl ?_
                exact J _ (by simp [g1]) _ (by simp [g3, g4])
              · refine r_iconst (v := (1 : Int32)) dX10_isContrary_128 (by decide) ?_
                refine r_goto (tgt := 133) dX10_isContrary_129 (by decide) ?_
                refine r_top (w := .int (bI true)) (rfl) ?_
                refine r_istore_n [(3, .int (bI true)), (2, .int (bI false)), (0, .ref a), (1, .ref b)] dX10_isContrary_133 (by decide) rfl ?_
                exact J _ (by simp [g1]) _ (by simp [g3, g4])
          · refine r_aload_n 0 dX10_isContrary_95 rfl ?_
            refine r_iconst (v := (3 : Int32)) dX10_isContrary_96 (by decide) ?_
            refine r_ialdm (n := 5) (f := f) dX10_isContrary_97 ma (by decide) ?_
            refine r_top (w := .int (f 3)) (by rw [cl3]) ?_
            refine r_aload_n 1 dX10_isContrary_98 rfl ?_
            refine r_iconst (v := (3 : Int32)) dX10_isContrary_99 (by decide) ?_
            refine r_ialdm (n := 5) (f := h) dX10_isContrary_100 mb (by decide) ?_
            refine r_top (w := .int (h 3)) (by rw [cl3]) ?_
            refine r_icmp_ne (tgt := 108) dX10_isContrary_101 (by decide) (fun g2 => ?_) (fun g2 => ?_)
            · refine r_iconst (v := (0 : Int32)) dX10_isContrary_108 (by decide) ?_
              refine r_top (w := .int (bI false)) (rfl) ?_
              refine r_istore_n [(2, .int (bI false)), (0, .ref a), (1, .ref b)] dX10_isContrary_109 (by decide) rfl ?_
              refine r_aload_n 1 dX10_isContrary_110 rfl ?_
              refine r_iconst (v := (2 : Int32)) dX10_isContrary_111 (by decide) ?_
              refine r_ialdm (n := 5) (f := f) dX10_isContrary_112 ma (by decide) ?_
              refine r_top (w := .int (f 2)) (by rw [cl2]) ?_
              refine r_aload_n 2 dX10_isContrary_113 rfl ?_
              refine r_iconst (v := (3 : Int32)) dX10_isContrary_114 (by decide) ?_
              refine r_ialdm (n := 5) (f := h) dX10_isContrary_115 mb (by decide) ?_
              refine r_top (w := .int (h 3)) (by rw [cl3]) ?_
              refine r_icmp_ne (tgt := 132) dX10_isContrary_116 (by decide) (fun g3 => ?_) (fun g3 => ?_)
              · refine r_iconst (v := (0 : Int32)) dX10_isContrary_132 (by decide) ?_
                refine r_top (w := .int (bI false)) (rfl) ?_
                refine r_istore_n [(3, .int (bI false)), (2, .int (bI false)), (0, .ref a), (1, .ref b)] dX10_isContrary_133 (by decide) rfl ?_
                exact J _ (by simp [g1, g2]) _ (by simp [g3])
              · refine r_aload_n 1 dX10_isContrary_119 rfl ?_
                refine r_iconst (v := (3 : Int32)) dX10_isContrary_120 (by decide) ?_
                refine r_ialdm (n := 5) (f := f) dX10_isContrary_121 ma (by decide) ?_
                refine r_top (w := .int (f 3)) (by rw [cl3]) ?_
                refine r_aload_n 2 dX10_isContrary_122 rfl ?_
                refine r_iconst (v := (2 : Int32)) dX10_isContrary_123 (by decide) ?_
                refine r_ialdm (n := 5) (f := h) dX10_isContrary_124 mb (by decide) ?_
                refine r_top (w := .int (h 2)) (by rw [cl2]) ?_
                refine r_icmp_ne (tgt := 132) dX10_isContrary_125 (by decide) (fun g4 => ?_) (fun g4 => ?_)
                · refine r_iconst (v := (0 : Int32)) dX10_isContrary_132 (by decide) ?_
                  refine r_top (w := .int (bI false)) (rfl) ?_
                  refine r_istore_n [(3, .int (bI false)), (2, .int (bI false)), (0, .ref a), (1, .ref b)] dX10_isContrary_133 (by decide) rfl ?_
                  exact J _ (by simp [g1, g2]) _ (by simp [g3, g4])
                · refine r_iconst (v := (1 : Int32)) dX10_isContrary_128 (by decide) ?_
                  refine r_goto (tgt := 133) dX10_isContrary_129 (by decide) ?_
                  refine r_top (w := .int (bI true)) (rfl) ?_
                  refine r_istore_n [(3, .int (bI true)), (2, .int (bI false)), (0, .ref a), (1, .ref b)] dX10_isContrary_133 (by decide) rfl ?_
                  exact J _ (by simp [g1, g2]) _ (by simp [g3, g4])
            · refine r_iconst (v := (1 : Int32)) dX10_isContrary_104 (by decide) ?_
              refine r_goto (tgt := 109) dX10_isContrary_105 (by decide) ?_
              refine r_top (w := .int (bI true)) (rfl) ?_
              refine r_istore_n [(2, .int (bI true)), (0, .ref a), (1, .ref b)] dX10_isContrary_109 (by decide) rfl ?_
              refine r_aload_n 1 dX10_isContrary_110 rfl ?_
              refine r_iconst (v := (2 : Int32)) dX10_isContrary_111 (by decide) ?_
              refine r_ialdm (n := 5) (f := f) dX10_isContrary_112 ma (by decide) ?_
              refine r_top (w := .int (f 2)) (by rw [cl2]) ?_
              refine r_aload_n 2 dX10_isContrary_113 rfl ?_
              refine r_iconst (v := (3 : Int32)) dX10_isContrary_114 (by decide) ?_
              refine r_ialdm (n := 5) (f := h) dX10_isContrary_115 mb (by decide) ?_
              refine r_top (w := .int (h 3)) (by rw [cl3]) ?_
              refine r_icmp_ne (tgt := 132) dX10_isContrary_116 (by decide) (fun g3 => ?_) (fun g3 => ?_)
              · refine r_iconst (v := (0 : Int32)) dX10_isContrary_132 (by decide) ?_
                refine r_top (w := .int (bI false)) (rfl) ?_
                refine r_istore_n [(3, .int (bI false)), (2, .int (bI true)), (0, .ref a), (1, .ref b)] dX10_isContrary_133 (by decide) rfl ?_
                exact J _ (by simp [g1, g2]) _ (by simp [g3])
              · refine r_aload_n 1 dX10_isContrary_119 rfl ?_
                refine r_iconst (v := (3 : Int32)) dX10_isContrary_120 (by decide) ?_
                refine r_ialdm (n := 5) (f := f) dX10_isContrary_121 ma (by decide) ?_
                refine r_top (w := .int (f 3)) (by rw [cl3]) ?_
                refine r_aload_n 2 dX10_isContrary_122 rfl ?_
                refine r_iconst (v := (2 : Int32)) dX10_isContrary_123 (by decide) ?_
                refine r_ialdm (n := 5) (f := h) dX10_isContrary_124 mb (by decide) ?_
                refine r_top (w := .int (h 2)) (by rw [cl2]) ?_
                refine r_icmp_ne (tgt := 132) dX10_isContrary_125 (by decide) (fun g4 => ?_) (fun g4 => ?_)
                · refine r_iconst (v := (0 : Int32)) dX10_isContrary_132 (by decide) ?_
                  refine r_top (w := .int (bI false)) (rfl) ?_
                  refine r_istore_n [(3, .int (bI false)), (2, .int (bI true)), (0, .ref a), (1, .ref b)] dX10_isContrary_133 (by decide) rfl ?_
                  exact J _ (by simp [g1, g2]) _ (by simp [g3, g4])
                · refine r_iconst (v := (1 : Int32)) dX10_isContrary_128 (by decide) ?_
                  refine r_goto (tgt := 133) dX10_isContrary_129 (by decide) ?_
                  refine r_top (w := .int (bI true)) (rfl) ?_
                  refine r_istore_n [(3, .int (bI true)), (2, .int (bI true)), (0, .ref a), (1, .ref b)] dX10_isContrary_133 (by decide) rfl ?_
                  exact J _ (by simp [g1, g2]) _ (by simp [g3, g4])
        · refine r_aload_n 1 dX10_isContrary_77 rfl ?_
          refine r_iconst (v := (0 : Int32)) dX10_isContrary_78 (by decide) ?_
          refine r_ialdm (n := 5) (f := h) dX10_isContrary_79 mb (by decide) ?_
          refine r_top (w := .int (h 0)) (by rw [cl0]) ?_
          refine r_iconst (v := (2 : Int32)) dX10_isContrary_80 (by decide) ?_
          refine r_icmp_ne (tgt := 86) dX10_isContrary_81 (by decide) (fun h4 => ?_) (fun h4 => ?_)
          · have J : ∀ z : Bool, z = (decide (f 2 = h 2) && decide (f 3 = h 3)) → ∀ y : Bool, y = (decide (f 2 = h 3) && decide (f 3 = h 2)) → R g mX10_isContrary 1 0 0 134 [(3, .int (bI y)), (2, .int (bI z)), (0, .ref a), (1, .ref b)] [] t (Dv (some (.int (bI (ctF f h)))) t) := by
              intro z hz y hy
              refine r_aload_n 2 dX10_isContrary_134 rfl ?_
              refine r_iconst (v := (0 : Int32)) dX10_isContrary_135 (by decide) ?_
              refine r_ialdm (n := 5) (f := f) dX10_isContrary_136 ma (by decide) ?_
              refine r_top (w := .int (f 0)) (by rw [cl0]) ?_
              refine r_aload_n 3 dX10_isContrary_137 rfl ?_
              refine r_iconst (v := (0 : Int32)) dX10_isContrary_138 (by decide) ?_
              refine r_ialdm (n := 5) (f := h) dX10_isContrary_139 mb (by decide) ?_
              refine r_top (w := .int (h 0)) (by rw [cl0]) ?_
              refine r_icmp_ne (tgt := 147) dX10_isContrary_140 (by decide) (fun h7 => ?_) (fun h7 => ?_)
              · refine r_iload_n 1 dX10_isContrary_147 rfl ?_
                refine r_if_ne (tgt := 155) dX10_isContrary_148 (by decide) (fun h8 => ?_) (fun h8 => ?_)
                · refine r_iconst (v := (1 : Int32)) dX10_isContrary_155 (by decide) ?_
                  refine r_goto (tgt := 160) dX10_isContrary_156 (by decide) ?_
                  refine r_zret dX10_isContrary_160 rfl (by decide) ?_
                  refine ⟨?_, rfl⟩
                  have e1 := fun e => h8 (bI_0.mpr e)
                  have e2 : z = true := by cases z with | false => exact absurd rfl e1 | true => rfl
                  rw [hz] at e2
                  have e3 : ctF f h = true := by unfold ctF ctB; rw [if_neg h1, if_neg h2, if_neg h7, e2, Bool.or_true]
                  rw [e3]; rfl
                · have e1 : z = false := bI_0.mp h8
                  refine r_iload_n 0 dX10_isContrary_151 rfl ?_
                  refine r_if_eq (tgt := 159) dX10_isContrary_152 (by decide) (fun h9 => ?_) (fun h9 => ?_)
                  · refine r_iconst (v := (0 : Int32)) dX10_isContrary_159 (by decide) ?_
                    refine r_zret dX10_isContrary_160 rfl (by decide) ?_
                    refine ⟨?_, rfl⟩
                    have e2 : y = false := bI_0.mp h9
                    rw [hz] at e1
                    rw [hy] at e2
                    have e3 : ctF f h = false := by unfold ctF ctB; rw [if_neg h1, if_neg h2, if_neg h7, e1, e2]; rfl
                    rw [e3]; rfl
                  · refine r_iconst (v := (1 : Int32)) dX10_isContrary_155 (by decide) ?_
                    refine r_goto (tgt := 160) dX10_isContrary_156 (by decide) ?_
                    refine r_zret dX10_isContrary_160 rfl (by decide) ?_
                    refine ⟨?_, rfl⟩
                    have e2 : y = true := by cases y with | false => exact absurd rfl h9 | true => rfl
                    rw [hy] at e2
                    have e3 : ctF f h = true := by unfold ctF ctB; rw [if_neg h1, if_neg h2, if_neg h7, e2, Bool.true_or]
                    rw [e3]; rfl
              · refine r_iload_n 0 dX10_isContrary_143 rfl ?_
                refine r_goto (tgt := 160) dX10_isContrary_144 (by decide) ?_
                refine r_zret dX10_isContrary_160 rfl (zB_n (bI_zB _)) ?_
                refine ⟨?_, rfl⟩
                have k1 : f 0 = 1 := by rcases vh0 with q | q | q <;> first | exact h7.trans q | exact absurd q h2 | exact absurd q h4
                have e3 : ctF f h = y := by unfold ctF ctB; rw [if_neg h1, if_neg h2, if_pos h7, if_pos k1, hy]
                rw [e3]
            refine r_aload_n 0 dX10_isContrary_86 rfl ?_
            refine r_iconst (v := (2 : Int32)) dX10_isContrary_87 (by decide) ?_
            refine r_ialdm (n := 5) (f := f) dX10_isContrary_88 ma (by decide) ?_
            refine r_top (w := .int (f 2)) (by rw [cl2]) ?_
            refine r_aload_n 1 dX10_isContrary_89 rfl ?_
            refine r_iconst (v := (2 : Int32)) dX10_isContrary_90 (by decide) ?_
            refine r_ialdm (n := 5) (f := h) dX10_isContrary_91 mb (by decide) ?_
            refine r_top (w := .int (h 2)) (by rw [cl2]) ?_
            refine r_icmp_ne (tgt := 108) dX10_isContrary_92 (by decide) (fun g1 => ?_) (fun g1 => ?_)
            · refine r_iconst (v := (0 : Int32)) dX10_isContrary_108 (by decide) ?_
              refine r_top (w := .int (bI false)) (rfl) ?_
              refine r_istore_n [(2, .int (bI false)), (0, .ref a), (1, .ref b)] dX10_isContrary_109 (by decide) rfl ?_
              refine r_aload_n 1 dX10_isContrary_110 rfl ?_
              refine r_iconst (v := (2 : Int32)) dX10_isContrary_111 (by decide) ?_
              refine r_ialdm (n := 5) (f := f) dX10_isContrary_112 ma (by decide) ?_
              refine r_top (w := .int (f 2)) (by rw [cl2]) ?_
              refine r_aload_n 2 dX10_isContrary_113 rfl ?_
              refine r_iconst (v := (3 : Int32)) dX10_isContrary_114 (by decide) ?_
              refine r_ialdm (n := 5) (f := h) dX10_isContrary_115 mb (by decide) ?_
              refine r_top (w := .int (h 3)) (by rw [cl3]) ?_
              refine r_icmp_ne (tgt := 132) dX10_isContrary_116 (by decide) (fun g3 => ?_) (fun g3 => ?_)
              · refine r_iconst (v := (0 : Int32)) dX10_isContrary_132 (by decide) ?_
                refine r_top (w := .int (bI false)) (rfl) ?_
                refine r_istore_n [(3, .int (bI false)), (2, .int (bI false)), (0, .ref a), (1, .ref b)] dX10_isContrary_133 (by decide) rfl ?_
                exact J _ (by simp [g1]) _ (by simp [g3])
              · refine r_aload_n 1 dX10_isContrary_119 rfl ?_
                refine r_iconst (v := (3 : Int32)) dX10_isContrary_120 (by decide) ?_
                refine r_ialdm (n := 5) (f := f) dX10_isContrary_121 ma (by decide) ?_
                refine r_top (w := .int (f 3)) (by rw [cl3]) ?_
                refine r_aload_n 2 dX10_isContrary_122 rfl ?_
                refine r_iconst (v := (2 : Int32)) dX10_isContrary_123 (by decide) ?_
                refine r_ialdm (n := 5) (f := h) dX10_isContrary_124 mb (by decide) ?_
                refine r_top (w := .int (h 2)) (by rw [cl2]) ?_
                refine r_icmp_ne (tgt := 132) dX10_isContrary_125 (by decide) (fun g4 => ?_) (fun g4 => ?_)
                · refine r_iconst (v := (0 : Int32)) dX10_isContrary_132 (by decide) ?_
                  refine r_top (w := .int (bI false)) (rfl) ?_
                  refine r_istore_n [(3, .int (bI false)), (2, .int (bI false)), (0, .ref a), (1, .ref b)] dX10_isContrary_133 (by decide) rfl ?_
                  exact J _ (by simp [g1]) _ (by simp [g3, g4])
                · refine r_iconst (v := (1 : Int32)) dX10_isContrary_128 (by decide) ?_
                  refine r_goto (tgt := 133) dX10_isContrary_129 (by decide) ?_
                  refine r_top (w := .int (bI true)) (rfl) ?_
                  refine r_istore_n [(3, .int (bI true)), (2, .int (bI false)), (0, .ref a), (1, .ref b)] dX10_isContrary_133 (by decide) rfl ?_
                  exact J _ (by simp [g1]) _ (by simp [g3, g4])
            · refine r_aload_n 0 dX10_isContrary_95 rfl ?_
              refine r_iconst (v := (3 : Int32)) dX10_isContrary_96 (by decide) ?_
              refine r_ialdm (n := 5) (f := f) dX10_isContrary_97 ma (by decide) ?_
              refine r_top (w := .int (f 3)) (by rw [cl3]) ?_
              refine r_aload_n 1 dX10_isContrary_98 rfl ?_
              refine r_iconst (v := (3 : Int32)) dX10_isContrary_99 (by decide) ?_
              refine r_ialdm (n := 5) (f := h) dX10_isContrary_100 mb (by decide) ?_
              refine r_top (w := .int (h 3)) (by rw [cl3]) ?_
              refine r_icmp_ne (tgt := 108) dX10_isContrary_101 (by decide) (fun g2 => ?_) (fun g2 => ?_)
              · refine r_iconst (v := (0 : Int32)) dX10_isContrary_108 (by decide) ?_
                refine r_top (w := .int (bI false)) (rfl) ?_
                refine r_istore_n [(2, .int (bI false)), (0, .ref a), (1, .ref b)] dX10_isContrary_109 (by decide) rfl ?_
                refine r_aload_n 1 dX10_isContrary_110 rfl ?_
                refine r_iconst (v := (2 : Int32)) dX10_isContrary_111 (by decide) ?_
                refine r_ialdm (n := 5) (f := f) dX10_isContrary_112 ma (by decide) ?_
                refine r_top (w := .int (f 2)) (by rw [cl2]) ?_
                refine r_aload_n 2 dX10_isContrary_113 rfl ?_
                refine r_iconst (v := (3 : Int32)) dX10_isContrary_114 (by decide) ?_
                refine r_ialdm (n := 5) (f := h) dX10_isContrary_115 mb (by decide) ?_
                refine r_top (w := .int (h 3)) (by rw [cl3]) ?_
                refine r_icmp_ne (tgt := 132) dX10_isContrary_116 (by decide) (fun g3 => ?_) (fun g3 => ?_)
                · refine r_iconst (v := (0 : Int32)) dX10_isContrary_132 (by decide) ?_
                  refine r_top (w := .int (bI false)) (rfl) ?_
                  refine r_istore_n [(3, .int (bI false)), (2, .int (bI false)), (0, .ref a), (1, .ref b)] dX10_isContrary_133 (by decide) rfl ?_
                  exact J _ (by simp [g1, g2]) _ (by simp [g3])
                · refine r_aload_n 1 dX10_isContrary_119 rfl ?_
                  refine r_iconst (v := (3 : Int32)) dX10_isContrary_120 (by decide) ?_
                  refine r_ialdm (n := 5) (f := f) dX10_isContrary_121 ma (by decide) ?_
                  refine r_top (w := .int (f 3)) (by rw [cl3]) ?_
                  refine r_aload_n 2 dX10_isContrary_122 rfl ?_
                  refine r_iconst (v := (2 : Int32)) dX10_isContrary_123 (by decide) ?_
                  refine r_ialdm (n := 5) (f := h) dX10_isContrary_124 mb (by decide) ?_
                  refine r_top (w := .int (h 2)) (by rw [cl2]) ?_
                  refine r_icmp_ne (tgt := 132) dX10_isContrary_125 (by decide) (fun g4 => ?_) (fun g4 => ?_)
                  · refine r_iconst (v := (0 : Int32)) dX10_isContrary_132 (by decide) ?_
                    refine r_top (w := .int (bI false)) (rfl) ?_
                    refine r_istore_n [(3, .int (bI false)), (2, .int (bI false)), (0, .ref a), (1, .ref b)] dX10_isContrary_133 (by decide) rfl ?_
                    exact J _ (by simp [g1, g2]) _ (by simp [g3, g4])
                  · refine r_iconst (v := (1 : Int32)) dX10_isContrary_128 (by decide) ?_
                    refine r_goto (tgt := 133) dX10_isContrary_129 (by decide) ?_
                    refine r_top (w := .int (bI true)) (rfl) ?_
                    refine r_istore_n [(3, .int (bI true)), (2, .int (bI false)), (0, .ref a), (1, .ref b)] dX10_isContrary_133 (by decide) rfl ?_
                    exact J _ (by simp [g1, g2]) _ (by simp [g3, g4])
              · refine r_iconst (v := (1 : Int32)) dX10_isContrary_104 (by decide) ?_
                refine r_goto (tgt := 109) dX10_isContrary_105 (by decide) ?_
                refine r_top (w := .int (bI true)) (rfl) ?_
                refine r_istore_n [(2, .int (bI true)), (0, .ref a), (1, .ref b)] dX10_isContrary_109 (by decide) rfl ?_
                refine r_aload_n 1 dX10_isContrary_110 rfl ?_
                refine r_iconst (v := (2 : Int32)) dX10_isContrary_111 (by decide) ?_
                refine r_ialdm (n := 5) (f := f) dX10_isContrary_112 ma (by decide) ?_
                refine r_top (w := .int (f 2)) (by rw [cl2]) ?_
                refine r_aload_n 2 dX10_isContrary_113 rfl ?_
                refine r_iconst (v := (3 : Int32)) dX10_isContrary_114 (by decide) ?_
                refine r_ialdm (n := 5) (f := h) dX10_isContrary_115 mb (by decide) ?_
                refine r_top (w := .int (h 3)) (by rw [cl3]) ?_
                refine r_icmp_ne (tgt := 132) dX10_isContrary_116 (by decide) (fun g3 => ?_) (fun g3 => ?_)
                · refine r_iconst (v := (0 : Int32)) dX10_isContrary_132 (by decide) ?_
                  refine r_top (w := .int (bI false)) (rfl) ?_
                  refine r_istore_n [(3, .int (bI false)), (2, .int (bI true)), (0, .ref a), (1, .ref b)] dX10_isContrary_133 (by decide) rfl ?_
                  exact J _ (by simp [g1, g2]) _ (by simp [g3])
                · refine r_aload_n 1 dX10_isContrary_119 rfl ?_
                  refine r_iconst (v := (3 : Int32)) dX10_isContrary_120 (by decide) ?_
                  refine r_ialdm (n := 5) (f := f) dX10_isContrary_121 ma (by decide) ?_
                  refine r_top (w := .int (f 3)) (by rw [cl3]) ?_
                  refine r_aload_n 2 dX10_isContrary_122 rfl ?_
                  refine r_iconst (v := (2 : Int32)) dX10_isContrary_123 (by decide) ?_
                  refine r_ialdm (n := 5) (f := h) dX10_isContrary_124 mb (by decide) ?_
                  refine r_top (w := .int (h 2)) (by rw [cl2]) ?_
                  refine r_icmp_ne (tgt := 132) dX10_isContrary_125 (by decide) (fun g4 => ?_) (fun g4 => ?_)
                  · refine r_iconst (v := (0 : Int32)) dX10_isContrary_132 (by decide) ?_
                    refine r_top (w := .int (bI false)) (rfl) ?_
                    refine r_istore_n [(3, .int (bI false)), (2, .int (bI true)), (0, .ref a), (1, .ref b)] dX10_isContrary_133 (by decide) rfl ?_
                    exact J _ (by simp [g1, g2]) _ (by simp [g3, g4])
                  · refine r_iconst (v := (1 : Int32)) dX10_isContrary_128 (by decide) ?_
                    refine r_goto (tgt := 133) dX10_isContrary_129 (by decide) ?_
                    refine r_top (w := .int (bI true)) (rfl) ?_
                    refine r_istore_n [(3, .int (bI true)), (2, .int (bI true)), (0, .ref a), (1, .ref b)] dX10_isContrary_133 (by decide) rfl ?_
                    exact J _ (by simp [g1, g2]) _ (by simp [g3, g4])
          · refine r_iconst (v := (0 : Int32)) dX10_isContrary_84 (by decide) ?_
            refine r_zret dX10_isContrary_85 rfl (by decide) ?_
            refine ⟨?_, rfl⟩
            simp [ctF, ctB, bI, h3, h4]
  refine r_aload_n 0 dX10_isContrary_0 rfl ?_
  refine r_iconst (v := (0 : Int32)) dX10_isContrary_1 (by decide) ?_
  refine r_ialdm (n := 5) (f := f) dX10_isContrary_2 ma (by decide) ?_
  refine r_top (w := .int (f 0)) (by rw [cl0]) ?_
  refine r_if_ne (tgt := 58) dX10_isContrary_3 (by decide) (fun h1 => ?_) (fun h1 => ?_)
  · exact T (Or.inl h1)
  · refine r_aload_n 1 dX10_isContrary_6 rfl ?_
    refine r_iconst (v := (0 : Int32)) dX10_isContrary_7 (by decide) ?_
    refine r_ialdm (n := 5) (f := h) dX10_isContrary_8 mb (by decide) ?_
    refine r_top (w := .int (h 0)) (by rw [cl0]) ?_
    refine r_if_ne (tgt := 58) dX10_isContrary_9 (by decide) (fun h2 => ?_) (fun h2 => ?_)
    · exact T (Or.inr h2)
    · obtain ⟨x, y, xy, y1, fx, fy⟩ := vf4 h1
      obtain ⟨u, v, uv, v1, hu, hv⟩ := vh4 h2
      refine r_aload_n 0 dX10_isContrary_12 rfl ?_
      refine r_iconst (v := (2 : Int32)) dX10_isContrary_13 (by decide) ?_
      refine r_ialdm (n := 5) (f := f) dX10_isContrary_14 ma (by decide) ?_
      refine r_top (w := .int (f 2)) (by rw [cl2]) ?_
      refine r_aload_n 1 dX10_isContrary_15 rfl ?_
      refine r_iconst (v := (2 : Int32)) dX10_isContrary_16 (by decide) ?_
      refine r_ialdm (n := 5) (f := h) dX10_isContrary_17 mb (by decide) ?_
      refine r_top (w := .int (h 2)) (by rw [cl2]) ?_
      refine r_icmp_eq (tgt := 23) dX10_isContrary_18 (by decide) (fun h3 => ?_) (fun h3 => ?_)
      · have E : ctF f h = (decide (y < u) || decide (v < x)) := by
          have e1 : decide (f 4 < h 3) = decide (y < u) := by rw [fy, hu]; exact decide_eq_decide.mpr (nI_ltI (by omega) (by omega))
          have e2 : decide (h 4 < f 3) = decide (v < x) := by rw [hv, fx]; exact decide_eq_decide.mpr (nI_ltI (by omega) (by omega))
          unfold ctF ctB
          rw [if_pos h1, if_pos h2, decide_eq_true h3, Bool.true_and, e1, e2]
        refine r_aload_n 0 dX10_isContrary_23 rfl ?_
        refine r_iconst (v := (3 : Int32)) dX10_isContrary_24 (by decide) ?_
        refine r_ialdm (n := 5) (f := f) dX10_isContrary_25 ma (by decide) ?_
        refine r_top (w := .int (nI x)) (by rw [cl3, fx]) ?_
        refine r_istore_n [(2, .int (nI x)), (0, .ref a), (1, .ref b)] dX10_isContrary_26 (by decide) rfl ?_
        have L : ∀ n j, n + j = y + 1 → x ≤ j → (∀ i, x ≤ i → i < j → ¬ (u ≤ i ∧ i ≤ v)) → R g mX10_isContrary 1 0 0 27 [(2, .int (nI j)), (0, .ref a), (1, .ref b)] [] t (Dv (some (.int (bI (ctF f h)))) t) := by
          intro n
          induction n with
          | zero =>
            intro j hj hx hno
            refine r_iload_n 0 dX10_isContrary_27 rfl ?_
            refine r_aload_n 1 dX10_isContrary_28 rfl ?_
            refine r_iconst (v := (4 : Int32)) dX10_isContrary_29 (by decide) ?_
            refine r_ialdm (n := 5) (f := f) dX10_isContrary_30 ma (by decide) ?_
            refine r_top (w := .int (nI y)) (by rw [cl4, fy]) ?_
            refine r_icmp_gt (tgt := 56) dX10_isContrary_31 (by decide) (fun _ => ?_) (fun hc => absurd (nI_lt (by omega) (by omega)) hc)
            refine r_iconst (v := (1 : Int32)) dX10_isContrary_56 (by decide) ?_
            refine r_zret dX10_isContrary_57 rfl (by decide) ?_
            refine ⟨?_, rfl⟩
            have e : ctF f h = true := by
              rw [E]
              by_cases c1 : y < u
              · rw [decide_eq_true c1]; rfl
              · by_cases c2 : v < x
                · rw [decide_eq_true c2, Bool.or_true]
                · exact absurd ⟨by omega, by omega⟩ (hno (max x u) (by omega) (by omega))
            rw [e]; rfl
          | succ n ih =>
            intro j hj hx hno
            refine r_iload_n 0 dX10_isContrary_27 rfl ?_
            refine r_aload_n 1 dX10_isContrary_28 rfl ?_
            refine r_iconst (v := (4 : Int32)) dX10_isContrary_29 (by decide) ?_
            refine r_ialdm (n := 5) (f := f) dX10_isContrary_30 ma (by decide) ?_
            refine r_top (w := .int (nI y)) (by rw [cl4, fy]) ?_
            refine r_icmp_gt (tgt := 56) dX10_isContrary_31 (by decide) (fun hc => absurd hc (nI_nlt (by omega) (by omega))) (fun _ => ?_)
            refine r_iload_n 0 dX10_isContrary_34 rfl ?_
            refine r_aload_n 2 dX10_isContrary_35 rfl ?_
            refine r_iconst (v := (3 : Int32)) dX10_isContrary_36 (by decide) ?_
            refine r_ialdm (n := 5) (f := h) dX10_isContrary_37 mb (by decide) ?_
            refine r_top (w := .int (nI u)) (by rw [cl3, hu]) ?_
            refine r_icmp_lt (tgt := 50) dX10_isContrary_38 (by decide) (fun h5 => ?_) (fun h5 => ?_)
            · refine r_iinc (v2 := (nI (j + 1))) 0 [(2, .int (nI (j + 1))), (0, .ref a), (1, .ref b)] dX10_isContrary_50 rfl (nI_1 j) (by decide) rfl ?_
              refine r_goto (tgt := 27) dX10_isContrary_53 (by decide) ?_
              exact ih (j + 1) (by omega) (by omega) (fun i h6 h7 => by
                by_cases h8 : i < j
                · exact hno i h6 h8
                · have h9 : i = j := by omega
                  subst h9
                  have := (nI_ltI (by omega) (by omega)).mp h5
                  omega)
            · refine r_iload_n 0 dX10_isContrary_41 rfl ?_
              refine r_aload_n 2 dX10_isContrary_42 rfl ?_
              refine r_iconst (v := (4 : Int32)) dX10_isContrary_43 (by decide) ?_
              refine r_ialdm (n := 5) (f := h) dX10_isContrary_44 mb (by decide) ?_
              refine r_top (w := .int (nI v)) (by rw [cl4, hv]) ?_
              refine r_icmp_gt (tgt := 50) dX10_isContrary_45 (by decide) (fun h6 => ?_) (fun h6 => ?_)
              · refine r_iinc (v2 := (nI (j + 1))) 0 [(2, .int (nI (j + 1))), (0, .ref a), (1, .ref b)] dX10_isContrary_50 rfl (nI_1 j) (by decide) rfl ?_
                refine r_goto (tgt := 27) dX10_isContrary_53 (by decide) ?_
                exact ih (j + 1) (by omega) (by omega) (fun i h6 h7 => by
                  by_cases h8 : i < j
                  · exact hno i h6 h8
                  · have h9 : i = j := by omega
                    subst h9
                    have := (nI_ltI (by omega) (by omega)).mp h6
                    omega)
              · refine r_iconst (v := (0 : Int32)) dX10_isContrary_48 (by decide) ?_
                refine r_zret dX10_isContrary_49 rfl (by decide) ?_
                refine ⟨?_, rfl⟩
                have g1 : ¬ j < u := fun h => h5 (nI_lt h (by omega))
                have g2 : ¬ v < j := fun h => h6 (nI_lt h (by omega))
                have e : ctF f h = false := by rw [E, decide_eq_false (by omega), decide_eq_false (by omega)]; rfl
                rw [e]; rfl
        exact L (y + 1 - x) x (by omega) (Nat.le_refl _) (fun i h6 h7 => by omega)
      · refine r_iconst (v := (0 : Int32)) dX10_isContrary_21 (by decide) ?_
        refine r_zret dX10_isContrary_22 rfl (by decide) ?_
        refine ⟨?_, rfl⟩
        simp [ctF, ctB, bI, h1, h2, h3]
set_option maxRecDepth 20000 in
set_option maxHeartbeats 4000000 in
theorem cl_claimsOf {g : GG} {t : va_W} {s aC aD aO aT ne nt : Nat} {ev cr : Int32} {ca : List Nat} {cl : List (Nat → Int32)} {d : Nat} {p : Int32} (hS : SimM g t s aC aD aO aT ne nt ev cr ca cl d) (hV : CV ne nt ca cl) : Ct g mX10_claimsOf 1 0 0 [.ref s, .int p] t (Dv (some (.int (nI (cntS cl p cl.length)))) t) := by
  refine Ct.ofR (by decide +kernel) rfl (Nat.le_of_ble_eq_true rfl) ?_
  show R g mX10_claimsOf 1 0 0 0 [(0, .ref s), (1, .int p)] [] t _
  obtain ⟨hlen, h40, -⟩ := hV
  refine r_iconst (v := (0 : Int32)) dX10_claimsOf_0 (by decide) ?_
  refine r_top (w := .int (nI 0)) (rfl) ?_
  refine r_istore_n [(2, .int (nI 0)), (0, .ref s), (1, .int p)] dX10_claimsOf_1 (by decide) rfl ?_
  refine r_aload_n 1 dX10_claimsOf_2 rfl ?_
  refine r_getm (v := .ref aC) (ci := 10) (fs := [.int (nI ne), .int (nI nt), .ref aC, .ref aD, .ref aO, .ref aT, .int ev, .int cr]) dX10_claimsOf_3 fl_X10_9 hS.1 rfl ?_
  refine r_astore_n [(3, .ref aC), (2, .int (nI 0)), (0, .ref s), (1, .int p)] dX10_claimsOf_6 (by decide) rfl ?_
  refine r_aload_n 0 dX10_claimsOf_7 rfl ?_
  refine r_alenm (t := 4) (v := (nI ca.length)) dX10_claimsOf_8 rfl hS.2.1 (by rfl) ?_
  refine r_istore [(4, .int (nI ca.length)), (3, .ref aC), (2, .int (nI 0)), (0, .ref s), (1, .int p)] dX10_claimsOf_9 (by decide) rfl ?_
  refine r_iconst (v := (0 : Int32)) dX10_claimsOf_11 (by decide) ?_
  refine r_top (w := .int (nI 0)) (rfl) ?_
  refine r_istore [(5, .int (nI 0)), (4, .int (nI ca.length)), (3, .ref aC), (2, .int (nI 0)), (0, .ref s), (1, .int p)] dX10_claimsOf_12 (by decide) rfl ?_
  have L : ∀ n k, n + k = ca.length → R g mX10_claimsOf 1 0 0 14 [(5, .int (nI k)), (4, .int (nI ca.length)), (3, .ref aC), (2, .int (nI (cntS cl p k))), (0, .ref s), (1, .int p)] [] t (Dv (some (.int (nI (cntS cl p cl.length)))) t) := by
    intro n
    induction n with
    | zero =>
      intro k hk
      have ek : k = cl.length := by omega
      refine r_iload 0 dX10_claimsOf_14 rfl ?_
      refine r_iload 1 dX10_claimsOf_16 rfl ?_
      refine r_icmp_ge (tgt := 49) dX10_claimsOf_18 (by decide) (fun _ => ?_) (fun hc => absurd (nI_le (by omega) (by omega)) hc)
      refine r_iload_n 3 dX10_claimsOf_49 rfl ?_
      refine r_iret dX10_claimsOf_50 rfl ?_
      exact ⟨by rw [ek], rfl⟩
    | succ n ih =>
      intro k hk
      have hk2 : k < ca.length := by omega
      have hc := cnt_le cl p k
      refine r_iload 0 dX10_claimsOf_14 rfl ?_
      refine r_iload 1 dX10_claimsOf_16 rfl ?_
      refine r_icmp_ge (tgt := 49) dX10_claimsOf_18 (by decide) (fun hc => absurd hc (nI_ge (by omega) (by omega))) (fun _ => ?_)
      refine r_aload_n 2 dX10_claimsOf_21 rfl ?_
      refine r_iload 0 dX10_claimsOf_22 rfl ?_
      refine r_aaldm (t := 4) (n := ca.length) (f := (fun k => ca[k]?)) (v := .ref (ca.getD k 0)) dX10_claimsOf_24 rfl rfl hS.2.1 (ib_nI (hk2) (by omega)) (by rw [nI_clamp (by omega), List.getD_eq_getElem?_getD, List.getElem?_eq_getElem (hk2)]; rfl) ?_
      refine r_astore [(6, .ref (ca.getD k 0)), (5, .int (nI k)), (4, .int (nI ca.length)), (3, .ref aC), (2, .int (nI (cntS cl p k))), (0, .ref s), (1, .int p)] dX10_claimsOf_25 (by decide) rfl ?_
      refine r_iload_n 4 dX10_claimsOf_27 rfl ?_
      refine r_aload 0 dX10_claimsOf_28 rfl ?_
      refine r_iconst (v := (1 : Int32)) dX10_claimsOf_30 (by decide) ?_
      refine r_ialdm (n := 5) (f := (rw5 cl k)) dX10_claimsOf_31 (hS.2.2.1 k (hk2)) (by decide) ?_
      refine r_top (w := .int (rw5 cl k 1)) (by rw [cl1]) ?_
      refine r_iload_n 6 dX10_claimsOf_32 rfl ?_
      refine r_icmp_ne (tgt := 40) dX10_claimsOf_33 (by decide) (fun h1 => ?_) (fun h1 => ?_)
      · refine r_iconst (v := (0 : Int32)) dX10_claimsOf_40 (by decide) ?_
        refine r_iadd dX10_claimsOf_41 ?_
        refine r_top (w := .int (nI (cntS cl p (k + 1)))) (by show Value.int (nI (cntS cl p k) + 0) = Value.int (nI (cntS cl p k + b1 (decide (rw5 cl k 1 = p)))); rw [decide_eq_false h1]; exact congrArg Value.int (Int32.add_zero _)) ?_
        refine r_istore_n [(2, .int (nI (cntS cl p (k + 1)))), (6, .ref (ca.getD k 0)), (5, .int (nI k)), (4, .int (nI ca.length)), (3, .ref aC), (0, .ref s), (1, .int p)] dX10_claimsOf_42 (by decide) rfl ?_
        refine r_iinc (v2 := (nI (k + 1))) 2 [(5, .int (nI (k + 1))), (2, .int (nI (cntS cl p (k + 1)))), (6, .ref (ca.getD k 0)), (4, .int (nI ca.length)), (3, .ref aC), (0, .ref s), (1, .int p)] dX10_claimsOf_43 rfl (nI_1 k) (by decide) rfl ?_
        refine r_goto (tgt := 14) dX10_claimsOf_46 (by decide) ?_
        refine r_ls [0, 3, 4, 1, 5, 6] (ls2 := [(5, .int (nI (k + 1))), (4, .int (nI ca.length)), (3, .ref aC), (2, .int (nI (cntS cl p (k + 1)))), (0, .ref s), (1, .int p)]) rfl ?_
        exact ih (k + 1) (by omega)
      · refine r_iconst (v := (1 : Int32)) dX10_claimsOf_36 (by decide) ?_
        refine r_goto (tgt := 41) dX10_claimsOf_37 (by decide) ?_
        refine r_iadd dX10_claimsOf_41 ?_
        refine r_top (w := .int (nI (cntS cl p (k + 1)))) (by show Value.int (nI (cntS cl p k) + 1) = Value.int (nI (cntS cl p k + b1 (decide (rw5 cl k 1 = p)))); rw [decide_eq_true h1]; exact congrArg Value.int (nI_1 _)) ?_
        refine r_istore_n [(2, .int (nI (cntS cl p (k + 1)))), (6, .ref (ca.getD k 0)), (5, .int (nI k)), (4, .int (nI ca.length)), (3, .ref aC), (0, .ref s), (1, .int p)] dX10_claimsOf_42 (by decide) rfl ?_
        refine r_iinc (v2 := (nI (k + 1))) 2 [(5, .int (nI (k + 1))), (2, .int (nI (cntS cl p (k + 1)))), (6, .ref (ca.getD k 0)), (4, .int (nI ca.length)), (3, .ref aC), (0, .ref s), (1, .int p)] dX10_claimsOf_43 rfl (nI_1 k) (by decide) rfl ?_
        refine r_goto (tgt := 14) dX10_claimsOf_46 (by decide) ?_
        refine r_ls [0, 3, 4, 1, 5, 6] (ls2 := [(5, .int (nI (k + 1))), (4, .int (nI ca.length)), (3, .ref aC), (2, .int (nI (cntS cl p (k + 1)))), (0, .ref s), (1, .int p)]) rfl ?_
        exact ih (k + 1) (by omega)
  exact L ca.length 0 (by omega)
set_option maxRecDepth 20000 in
set_option maxHeartbeats 4000000 in
theorem cl_pairs {g : GG} {t : va_W} {s aC aD aO aT ne nt : Nat} {ev cr : Int32} {ca : List Nat} {cl : List (Nat → Int32)} {d : Nat} {p q : Int32} (hS : SimM g t s aC aD aO aT ne nt ev cr ca cl d) (hV : CV ne nt ca cl) : Ct g mX10_pairs 2 0 0 [.ref s, .int p, .int q] t (Dv (some (.int (nI (prsS cl p q cl.length)))) t) := by
  refine Ct.ofR (by decide +kernel) rfl (Nat.le_of_ble_eq_true rfl) ?_
  show R g mX10_pairs 2 0 0 0 [(0, .ref s), (1, .int p), (2, .int q)] [] t _
  obtain ⟨hlen, h40, hV1⟩ := hV
  refine r_iconst (v := (0 : Int32)) dX10_pairs_0 (by decide) ?_
  refine r_top (w := .int (nI 0)) (rfl) ?_
  refine r_istore_n [(3, .int (nI 0)), (0, .ref s), (1, .int p), (2, .int q)] dX10_pairs_1 (by decide) rfl ?_
  refine r_iconst (v := (0 : Int32)) dX10_pairs_2 (by decide) ?_
  refine r_top (w := .int (nI 0)) (rfl) ?_
  refine r_istore [(4, .int (nI 0)), (3, .int (nI 0)), (0, .ref s), (1, .int p), (2, .int q)] dX10_pairs_3 (by decide) rfl ?_
  have L : ∀ n k, n + k = ca.length → R g mX10_pairs 2 0 0 5 [(4, .int (nI k)), (3, .int (nI (prsS cl p q k))), (0, .ref s), (1, .int p), (2, .int q)] [] t (Dv (some (.int (nI (prsS cl p q cl.length)))) t) := by
    intro n
    induction n with
    | zero =>
      intro k hk
      have ek : k = cl.length := by omega
      refine r_iload 0 dX10_pairs_5 rfl ?_
      refine r_aload_n 2 dX10_pairs_7 rfl ?_
      refine r_getm (v := .ref aC) (ci := 10) (fs := [.int (nI ne), .int (nI nt), .ref aC, .ref aD, .ref aO, .ref aT, .int ev, .int cr]) dX10_pairs_8 fl_X10_9 hS.1 rfl ?_
      refine r_alenm (t := 4) (v := (nI ca.length)) dX10_pairs_11 rfl hS.2.1 (by rfl) ?_
      refine r_icmp_ge (tgt := 130) dX10_pairs_12 (by decide) (fun _ => ?_) (fun hc => absurd (nI_le (by omega) (by omega)) hc)
      refine r_iload_n 1 dX10_pairs_130 rfl ?_
      refine r_iret dX10_pairs_131 rfl ?_
      exact ⟨by rw [ek], rfl⟩
    | succ n ih =>
      intro k hk
      have hk2 : k < ca.length := by omega
      have hc := prs_le cl p q k
      have hc1 : k * cl.length ≤ 40 * 40 := Nat.mul_le_mul (by omega) h40
      refine r_iload 0 dX10_pairs_5 rfl ?_
      refine r_aload_n 2 dX10_pairs_7 rfl ?_
      refine r_getm (v := .ref aC) (ci := 10) (fs := [.int (nI ne), .int (nI nt), .ref aC, .ref aD, .ref aO, .ref aT, .int ev, .int cr]) dX10_pairs_8 fl_X10_9 hS.1 rfl ?_
      refine r_alenm (t := 4) (v := (nI ca.length)) dX10_pairs_11 rfl hS.2.1 (by rfl) ?_
      refine r_icmp_ge (tgt := 130) dX10_pairs_12 (by decide) (fun hc => absurd hc (nI_ge (by omega) (by omega))) (fun _ => ?_)
      refine r_iload 0 dX10_pairs_15 rfl ?_
      refine r_iconst (v := (1 : Int32)) dX10_pairs_17 (by decide) ?_
      refine r_iadd dX10_pairs_18 ?_
      refine r_top (w := .int (nI (k + 1))) (by rw [← nI_1]) ?_
      refine r_istore [(5, .int (nI (k + 1))), (4, .int (nI k)), (3, .int (nI (prsS cl p q k))), (0, .ref s), (1, .int p), (2, .int q)] dX10_pairs_19 (by decide) rfl ?_
      have L2 : ∀ m j, m + j = ca.length → k < j → R g mX10_pairs 2 0 0 21 [(5, .int (nI j)), (4, .int (nI k)), (3, .int (nI (prsS cl p q k + pinS cl p q k j))), (0, .ref s), (1, .int p), (2, .int q)] [] t (Dv (some (.int (nI (prsS cl p q cl.length)))) t) := by
        intro m
        induction m with
        | zero =>
          intro j hj hkj
          have ej : j = cl.length := by omega
          rw [ej]
          refine r_iload 0 dX10_pairs_21 rfl ?_
          refine r_aload_n 3 dX10_pairs_23 rfl ?_
          refine r_getm (v := .ref aC) (ci := 10) (fs := [.int (nI ne), .int (nI nt), .ref aC, .ref aD, .ref aO, .ref aT, .int ev, .int cr]) dX10_pairs_24 fl_X10_9 hS.1 rfl ?_
          refine r_alenm (t := 4) (v := (nI ca.length)) dX10_pairs_27 rfl hS.2.1 (by rfl) ?_
          refine r_icmp_ge (tgt := 124) dX10_pairs_28 (by decide) (fun _ => ?_) (fun hc => absurd (nI_le (by omega) (by omega)) hc)
          refine r_iinc (v2 := (nI (k + 1))) 1 [(4, .int (nI (k + 1))), (5, .int (nI cl.length)), (3, .int (nI (prsS cl p q k + pinS cl p q k cl.length))), (0, .ref s), (1, .int p), (2, .int q)] dX10_pairs_124 rfl (nI_1 k) (by decide) rfl ?_
          refine r_goto (tgt := 5) dX10_pairs_127 (by decide) ?_
          refine r_ls [0, 2, 3, 4, 5] (ls2 := [(4, .int (nI (k + 1))), (3, .int (nI (prsS cl p q k + pinS cl p q k cl.length))), (0, .ref s), (1, .int p), (2, .int q)]) rfl ?_
          exact ih (k + 1) (by omega)
        | succ m ih2 =>
          intro j hj hkj
          have hj2 : j < ca.length := by omega
          have hc2 := pin_le cl p q k j
          refine r_iload 0 dX10_pairs_21 rfl ?_
          refine r_aload_n 3 dX10_pairs_23 rfl ?_
          refine r_getm (v := .ref aC) (ci := 10) (fs := [.int (nI ne), .int (nI nt), .ref aC, .ref aD, .ref aO, .ref aT, .int ev, .int cr]) dX10_pairs_24 fl_X10_9 hS.1 rfl ?_
          refine r_alenm (t := 4) (v := (nI ca.length)) dX10_pairs_27 rfl hS.2.1 (by rfl) ?_
          refine r_icmp_ge (tgt := 124) dX10_pairs_28 (by decide) (fun hc => absurd hc (nI_ge (by omega) (by omega))) (fun _ => ?_)
          have J : ∀ b : Bool, b = pP (rwK cl 1) p q k j → R g mX10_pairs 2 0 0 88 [(5, .int (nI j)), (4, .int (nI k)), (3, .int (nI (prsS cl p q k + pinS cl p q k j))), (0, .ref s), (1, .int p), (2, .int q)] [.int (bI b)] t (Dv (some (.int (nI (prsS cl p q cl.length)))) t) := by
            intro b hb
            refine r_istore [(6, .int (bI b)), (5, .int (nI j)), (4, .int (nI k)), (3, .int (nI (prsS cl p q k + pinS cl p q k j))), (0, .ref s), (1, .int p), (2, .int q)] dX10_pairs_88 (by decide) rfl ?_
            refine r_iload 0 dX10_pairs_90 rfl ?_
            refine r_if_eq (tgt := 118) dX10_pairs_92 (by decide) (fun h1 => ?_) (fun h1 => ?_)
            · have e9 : pinS cl p q k (j + 1) = pinS cl p q k j + 0 := by
                show pinS cl p q k j + b1 (decide (k < j) && pP (rwK cl 1) p q k j && ctF (rw5 cl k) (rw5 cl j)) = _
                rw [← hb, bI_0.mp h1, Bool.and_false, Bool.false_and]; rfl
              refine r_iinc (v2 := (nI (j + 1))) 1 [(5, .int (nI (j + 1))), (6, .int (bI b)), (4, .int (nI k)), (3, .int (nI (prsS cl p q k + pinS cl p q k j))), (0, .ref s), (1, .int p), (2, .int q)] dX10_pairs_118 rfl (nI_1 j) (by decide) rfl ?_
              refine r_goto (tgt := 21) dX10_pairs_121 (by decide) ?_
              refine r_ls [0, 2, 3, 4, 5, 6] (ls2 := [(5, .int (nI (j + 1))), (4, .int (nI k)), (3, .int (nI (prsS cl p q k + pinS cl p q k j))), (0, .ref s), (1, .int p), (2, .int q)]) rfl ?_
              have K := ih2 (j + 1) (by omega) (by omega)
              rw [e9] at K
              exact K
            · have hbt : b = true := by cases b with | false => exact absurd rfl h1 | true => rfl
              refine r_aload_n 4 dX10_pairs_95 rfl ?_
              refine r_getm (v := .ref aC) (ci := 10) (fs := [.int (nI ne), .int (nI nt), .ref aC, .ref aD, .ref aO, .ref aT, .int ev, .int cr]) dX10_pairs_96 fl_X10_9 hS.1 rfl ?_
              refine r_iload 2 dX10_pairs_99 rfl ?_
              refine r_aaldm (t := 4) (n := ca.length) (f := (fun k => ca[k]?)) (v := .ref (ca.getD k 0)) dX10_pairs_101 rfl rfl hS.2.1 (ib_nI (hk2) (by omega)) (by rw [nI_clamp (by omega), List.getD_eq_getElem?_getD, List.getElem?_eq_getElem (hk2)]; rfl) ?_
              refine r_aload_n 4 dX10_pairs_102 rfl ?_
              refine r_getm (v := .ref aC) (ci := 10) (fs := [.int (nI ne), .int (nI nt), .ref aC, .ref aD, .ref aO, .ref aT, .int ev, .int cr]) dX10_pairs_103 fl_X10_9 hS.1 rfl ?_
              refine r_iload 1 dX10_pairs_106 rfl ?_
              refine r_aaldm (t := 4) (n := ca.length) (f := (fun k => ca[k]?)) (v := .ref (ca.getD j 0)) dX10_pairs_108 rfl rfl hS.2.1 (ib_nI (hj2) (by omega)) (by rw [nI_clamp (by omega), List.getD_eq_getElem?_getD, List.getElem?_eq_getElem (hj2)]; rfl) ?_
              refine k_S (x := 0) (y := 0) (rest := []) dX10_pairs_109 ks_X10_46 ((cl_contrary (hS.2.2.1 k hk2) (hS.2.2.1 j hj2) (hV1 k (by omega)) (hV1 j (by omega))).dq) rfl rfl (Nat.le_of_ble_eq_true rfl) (by decide) (by decide) ?_
              rintro ⟨⟩ -
              show R g mX10_pairs 2 0 0 112 [(6, .int (bI b)), (5, .int (nI j)), (4, .int (nI k)), (3, .int (nI (prsS cl p q k + pinS cl p q k j))), (0, .ref s), (1, .int p), (2, .int q)] [.int (bI (ctF (rw5 cl k) (rw5 cl j)))] t _
              refine r_if_eq (tgt := 118) dX10_pairs_112 (by decide) (fun h2 => ?_) (fun h2 => ?_)
              · have e9 : pinS cl p q k (j + 1) = pinS cl p q k j + 0 := by
                  show pinS cl p q k j + b1 (decide (k < j) && pP (rwK cl 1) p q k j && ctF (rw5 cl k) (rw5 cl j)) = _
                  rw [bI_0.mp h2, Bool.and_false]; rfl
                refine r_iinc (v2 := (nI (j + 1))) 1 [(5, .int (nI (j + 1))), (6, .int (bI b)), (4, .int (nI k)), (3, .int (nI (prsS cl p q k + pinS cl p q k j))), (0, .ref s), (1, .int p), (2, .int q)] dX10_pairs_118 rfl (nI_1 j) (by decide) rfl ?_
                refine r_goto (tgt := 21) dX10_pairs_121 (by decide) ?_
                refine r_ls [0, 2, 3, 4, 5, 6] (ls2 := [(5, .int (nI (j + 1))), (4, .int (nI k)), (3, .int (nI (prsS cl p q k + pinS cl p q k j))), (0, .ref s), (1, .int p), (2, .int q)]) rfl ?_
                have K := ih2 (j + 1) (by omega) (by omega)
                rw [e9] at K
                exact K
              · have hct : ctF (rw5 cl k) (rw5 cl j) = true := by cases h9 : ctF (rw5 cl k) (rw5 cl j) with | false => rw [h9] at h2; exact absurd rfl h2 | true => rfl
                have e9 : pinS cl p q k (j + 1) = pinS cl p q k j + 1 := by
                  show pinS cl p q k j + b1 (decide (k < j) && pP (rwK cl 1) p q k j && ctF (rw5 cl k) (rw5 cl j)) = _
                  rw [← hb, hbt, hct, decide_eq_true hkj]; rfl
                refine r_iinc (v2 := (nI (prsS cl p q k + pinS cl p q k j + 1))) 3 [(3, .int (nI (prsS cl p q k + pinS cl p q k j + 1))), (6, .int (bI b)), (5, .int (nI j)), (4, .int (nI k)), (0, .ref s), (1, .int p), (2, .int q)] dX10_pairs_115 rfl (nI_1 _) (by decide) rfl ?_
                refine r_iinc (v2 := (nI (j + 1))) 2 [(5, .int (nI (j + 1))), (3, .int (nI (prsS cl p q k + pinS cl p q k j + 1))), (6, .int (bI b)), (4, .int (nI k)), (0, .ref s), (1, .int p), (2, .int q)] dX10_pairs_118 rfl (nI_1 j) (by decide) rfl ?_
                refine r_goto (tgt := 21) dX10_pairs_121 (by decide) ?_
                refine r_ls [0, 3, 1, 4, 5, 6] (ls2 := [(5, .int (nI (j + 1))), (4, .int (nI k)), (3, .int (nI (prsS cl p q k + pinS cl p q k j + 1))), (0, .ref s), (1, .int p), (2, .int q)]) rfl ?_
                have K := ih2 (j + 1) (by omega) (by omega)
                rw [e9] at K
                exact K
          refine r_aload_n 3 dX10_pairs_31 rfl ?_
          refine r_getm (v := .ref aC) (ci := 10) (fs := [.int (nI ne), .int (nI nt), .ref aC, .ref aD, .ref aO, .ref aT, .int ev, .int cr]) dX10_pairs_32 fl_X10_9 hS.1 rfl ?_
          refine r_iload 1 dX10_pairs_35 rfl ?_
          refine r_aaldm (t := 4) (n := ca.length) (f := (fun k => ca[k]?)) (v := .ref (ca.getD k 0)) dX10_pairs_37 rfl rfl hS.2.1 (ib_nI (hk2) (by omega)) (by rw [nI_clamp (by omega), List.getD_eq_getElem?_getD, List.getElem?_eq_getElem (hk2)]; rfl) ?_
          refine r_iconst (v := (1 : Int32)) dX10_pairs_38 (by decide) ?_
          refine r_ialdm (n := 5) (f := (rw5 cl k)) dX10_pairs_39 (hS.2.2.1 k (hk2)) (by decide) ?_
          refine r_top (w := .int (rw5 cl k 1)) (by rw [cl1]) ?_
          refine r_iload_n 4 dX10_pairs_40 rfl ?_
          refine r_icmp_ne (tgt := 57) dX10_pairs_41 (by decide) (fun c1 => ?_) (fun c1 => ?_)
          · refine r_aload_n 3 dX10_pairs_57 rfl ?_
            refine r_getm (v := .ref aC) (ci := 10) (fs := [.int (nI ne), .int (nI nt), .ref aC, .ref aD, .ref aO, .ref aT, .int ev, .int cr]) dX10_pairs_58 fl_X10_9 hS.1 rfl ?_
            refine r_iload 1 dX10_pairs_61 rfl ?_
            refine r_aaldm (t := 4) (n := ca.length) (f := (fun k => ca[k]?)) (v := .ref (ca.getD k 0)) dX10_pairs_63 rfl rfl hS.2.1 (ib_nI (hk2) (by omega)) (by rw [nI_clamp (by omega), List.getD_eq_getElem?_getD, List.getElem?_eq_getElem (hk2)]; rfl) ?_
            refine r_iconst (v := (1 : Int32)) dX10_pairs_64 (by decide) ?_
            refine r_ialdm (n := 5) (f := (rw5 cl k)) dX10_pairs_65 (hS.2.2.1 k (hk2)) (by decide) ?_
            refine r_top (w := .int (rw5 cl k 1)) (by rw [cl1]) ?_
            refine r_iload_n 5 dX10_pairs_66 rfl ?_
            refine r_icmp_ne (tgt := 87) dX10_pairs_67 (by decide) (fun c3 => ?_) (fun c3 => ?_)
            · refine r_iconst (v := (0 : Int32)) dX10_pairs_87 (by decide) ?_
              refine r_top (w := .int (bI false)) (rfl) ?_
              exact J _ (by show _ = ((decide (rw5 cl k 1 = p) && decide (rw5 cl j 1 = q)) || (decide (rw5 cl k 1 = q) && decide (rw5 cl j 1 = p))); simp only [eq_false c1, eq_false c3, decide_true, decide_false, Bool.and_true, Bool.true_and, Bool.and_false, Bool.false_and, Bool.or_true, Bool.true_or, Bool.or_false, Bool.false_or])
            · refine r_aload_n 3 dX10_pairs_70 rfl ?_
              refine r_getm (v := .ref aC) (ci := 10) (fs := [.int (nI ne), .int (nI nt), .ref aC, .ref aD, .ref aO, .ref aT, .int ev, .int cr]) dX10_pairs_71 fl_X10_9 hS.1 rfl ?_
              refine r_iload 0 dX10_pairs_74 rfl ?_
              refine r_aaldm (t := 4) (n := ca.length) (f := (fun k => ca[k]?)) (v := .ref (ca.getD j 0)) dX10_pairs_76 rfl rfl hS.2.1 (ib_nI (hj2) (by omega)) (by rw [nI_clamp (by omega), List.getD_eq_getElem?_getD, List.getElem?_eq_getElem (hj2)]; rfl) ?_
              refine r_iconst (v := (1 : Int32)) dX10_pairs_77 (by decide) ?_
              refine r_ialdm (n := 5) (f := (rw5 cl j)) dX10_pairs_78 (hS.2.2.1 j (hj2)) (by decide) ?_
              refine r_top (w := .int (rw5 cl j 1)) (by rw [cl1]) ?_
              refine r_iload_n 4 dX10_pairs_79 rfl ?_
              refine r_icmp_ne (tgt := 87) dX10_pairs_80 (by decide) (fun c4 => ?_) (fun c4 => ?_)
              · refine r_iconst (v := (0 : Int32)) dX10_pairs_87 (by decide) ?_
                refine r_top (w := .int (bI false)) (rfl) ?_
                exact J _ (by show _ = ((decide (rw5 cl k 1 = p) && decide (rw5 cl j 1 = q)) || (decide (rw5 cl k 1 = q) && decide (rw5 cl j 1 = p))); simp only [eq_false c1, eq_true c3, eq_false c4, decide_true, decide_false, Bool.and_true, Bool.true_and, Bool.and_false, Bool.false_and, Bool.or_true, Bool.true_or, Bool.or_false, Bool.false_or])
              · refine r_iconst (v := (1 : Int32)) dX10_pairs_83 (by decide) ?_
                refine r_goto (tgt := 88) dX10_pairs_84 (by decide) ?_
                refine r_top (w := .int (bI true)) (rfl) ?_
                exact J _ (by show _ = ((decide (rw5 cl k 1 = p) && decide (rw5 cl j 1 = q)) || (decide (rw5 cl k 1 = q) && decide (rw5 cl j 1 = p))); simp only [eq_false c1, eq_true c3, eq_true c4, decide_true, decide_false, Bool.and_true, Bool.true_and, Bool.and_false, Bool.false_and, Bool.or_true, Bool.true_or, Bool.or_false, Bool.false_or])
          · refine r_aload_n 3 dX10_pairs_44 rfl ?_
            refine r_getm (v := .ref aC) (ci := 10) (fs := [.int (nI ne), .int (nI nt), .ref aC, .ref aD, .ref aO, .ref aT, .int ev, .int cr]) dX10_pairs_45 fl_X10_9 hS.1 rfl ?_
            refine r_iload 0 dX10_pairs_48 rfl ?_
            refine r_aaldm (t := 4) (n := ca.length) (f := (fun k => ca[k]?)) (v := .ref (ca.getD j 0)) dX10_pairs_50 rfl rfl hS.2.1 (ib_nI (hj2) (by omega)) (by rw [nI_clamp (by omega), List.getD_eq_getElem?_getD, List.getElem?_eq_getElem (hj2)]; rfl) ?_
            refine r_iconst (v := (1 : Int32)) dX10_pairs_51 (by decide) ?_
            refine r_ialdm (n := 5) (f := (rw5 cl j)) dX10_pairs_52 (hS.2.2.1 j (hj2)) (by decide) ?_
            refine r_top (w := .int (rw5 cl j 1)) (by rw [cl1]) ?_
            refine r_iload_n 5 dX10_pairs_53 rfl ?_
            refine r_icmp_eq (tgt := 83) dX10_pairs_54 (by decide) (fun c2 => ?_) (fun c2 => ?_)
            · refine r_iconst (v := (1 : Int32)) dX10_pairs_83 (by decide) ?_
              refine r_goto (tgt := 88) dX10_pairs_84 (by decide) ?_
              refine r_top (w := .int (bI true)) (rfl) ?_
              exact J _ (by show _ = ((decide (rw5 cl k 1 = p) && decide (rw5 cl j 1 = q)) || (decide (rw5 cl k 1 = q) && decide (rw5 cl j 1 = p))); simp only [eq_true c1, eq_true c2, decide_true, decide_false, Bool.and_true, Bool.true_and, Bool.and_false, Bool.false_and, Bool.or_true, Bool.true_or, Bool.or_false, Bool.false_or])
            · refine r_aload_n 3 dX10_pairs_57 rfl ?_
              refine r_getm (v := .ref aC) (ci := 10) (fs := [.int (nI ne), .int (nI nt), .ref aC, .ref aD, .ref aO, .ref aT, .int ev, .int cr]) dX10_pairs_58 fl_X10_9 hS.1 rfl ?_
              refine r_iload 1 dX10_pairs_61 rfl ?_
              refine r_aaldm (t := 4) (n := ca.length) (f := (fun k => ca[k]?)) (v := .ref (ca.getD k 0)) dX10_pairs_63 rfl rfl hS.2.1 (ib_nI (hk2) (by omega)) (by rw [nI_clamp (by omega), List.getD_eq_getElem?_getD, List.getElem?_eq_getElem (hk2)]; rfl) ?_
              refine r_iconst (v := (1 : Int32)) dX10_pairs_64 (by decide) ?_
              refine r_ialdm (n := 5) (f := (rw5 cl k)) dX10_pairs_65 (hS.2.2.1 k (hk2)) (by decide) ?_
              refine r_top (w := .int (rw5 cl k 1)) (by rw [cl1]) ?_
              refine r_iload_n 5 dX10_pairs_66 rfl ?_
              refine r_icmp_ne (tgt := 87) dX10_pairs_67 (by decide) (fun c3 => ?_) (fun c3 => ?_)
              · refine r_iconst (v := (0 : Int32)) dX10_pairs_87 (by decide) ?_
                refine r_top (w := .int (bI false)) (rfl) ?_
                exact J _ (by show _ = ((decide (rw5 cl k 1 = p) && decide (rw5 cl j 1 = q)) || (decide (rw5 cl k 1 = q) && decide (rw5 cl j 1 = p))); simp only [eq_true c1, eq_false c2, eq_false c3, decide_true, decide_false, Bool.and_true, Bool.true_and, Bool.and_false, Bool.false_and, Bool.or_true, Bool.true_or, Bool.or_false, Bool.false_or])
              · refine r_aload_n 3 dX10_pairs_70 rfl ?_
                refine r_getm (v := .ref aC) (ci := 10) (fs := [.int (nI ne), .int (nI nt), .ref aC, .ref aD, .ref aO, .ref aT, .int ev, .int cr]) dX10_pairs_71 fl_X10_9 hS.1 rfl ?_
                refine r_iload 0 dX10_pairs_74 rfl ?_
                refine r_aaldm (t := 4) (n := ca.length) (f := (fun k => ca[k]?)) (v := .ref (ca.getD j 0)) dX10_pairs_76 rfl rfl hS.2.1 (ib_nI (hj2) (by omega)) (by rw [nI_clamp (by omega), List.getD_eq_getElem?_getD, List.getElem?_eq_getElem (hj2)]; rfl) ?_
                refine r_iconst (v := (1 : Int32)) dX10_pairs_77 (by decide) ?_
                refine r_ialdm (n := 5) (f := (rw5 cl j)) dX10_pairs_78 (hS.2.2.1 j (hj2)) (by decide) ?_
                refine r_top (w := .int (rw5 cl j 1)) (by rw [cl1]) ?_
                refine r_iload_n 4 dX10_pairs_79 rfl ?_
                refine r_icmp_ne (tgt := 87) dX10_pairs_80 (by decide) (fun c4 => ?_) (fun c4 => ?_)
                · refine r_iconst (v := (0 : Int32)) dX10_pairs_87 (by decide) ?_
                  refine r_top (w := .int (bI false)) (rfl) ?_
                  exact J _ (by show _ = ((decide (rw5 cl k 1 = p) && decide (rw5 cl j 1 = q)) || (decide (rw5 cl k 1 = q) && decide (rw5 cl j 1 = p))); simp only [eq_true c1, eq_false c2, eq_true c3, eq_false c4, decide_true, decide_false, Bool.and_true, Bool.true_and, Bool.and_false, Bool.false_and, Bool.or_true, Bool.true_or, Bool.or_false, Bool.false_or])
                · refine r_iconst (v := (1 : Int32)) dX10_pairs_83 (by decide) ?_
                  refine r_goto (tgt := 88) dX10_pairs_84 (by decide) ?_
                  refine r_top (w := .int (bI true)) (rfl) ?_
                  exact J _ (by show _ = ((decide (rw5 cl k 1 = p) && decide (rw5 cl j 1 = q)) || (decide (rw5 cl k 1 = q) && decide (rw5 cl j 1 = p))); simp only [eq_true c1, eq_false c2, eq_true c3, eq_true c4, decide_true, decide_false, Bool.and_true, Bool.true_and, Bool.and_false, Bool.false_and, Bool.or_true, Bool.true_or, Bool.or_false, Bool.false_or])
      have K := L2 (ca.length - (k + 1)) (k + 1) (by omega) (by omega)
      rw [pin_0, Nat.add_zero] at K
      refine r_ls [0, 1, 2, 3, 4, 5] (ls2 := [(5, .int (nI (k + 1))), (4, .int (nI k)), (3, .int (nI (prsS cl p q k))), (0, .ref s), (1, .int p), (2, .int q)]) rfl ?_
      exact K
  exact L ca.length 0 (by omega)
set_option maxRecDepth 20000 in
set_option maxHeartbeats 4000000 in
theorem cl_contradict {g : GG} {t : va_W} {s aC aD aO aT ne nt : Nat} {ev cr : Int32} {ca : List Nat} {cl : List (Nat → Int32)} {d : Nat} {a b : Nat} (hS : SimM g t s aC aD aO aT ne nt ev cr ca cl d) (hV : CV ne nt ca cl) (ha : a < 10) (hb : b < 10) : Ct g mX10_contradict 3 0 0 [.ref s, .int (nI a), .int (nI b)] t (Dv (some (.int (bI (conS cl d a b)))) t) := by
  refine Ct.ofR (by decide +kernel) rfl (Nat.le_of_ble_eq_true rfl) ?_
  show R g mX10_contradict 3 0 0 0 [(0, .ref s), (1, .int (nI a)), (2, .int (nI b))] [] t _
  have hc := prs_le cl (nI a) (nI b) cl.length
  have hc1 : cl.length * cl.length ≤ 40 * 40 := Nat.mul_le_mul hV.2.1 hV.2.1
  refine r_aload_n 0 dX10_contradict_0 rfl ?_
  refine r_getm (v := .ref aD) (ci := 10) (fs := [.int (nI ne), .int (nI nt), .ref aC, .ref aD, .ref aO, .ref aT, .int ev, .int cr]) dX10_contradict_1 fl_X10_15 hS.1 rfl ?_
  refine r_iload_n 1 dX10_contradict_4 rfl ?_
  refine r_zaldm (n := 10) (f := (dbF d)) dX10_contradict_5 hS.2.2.2 (ib_nI ha (by decide)) ?_
  refine r_top (w := .int (dbF d a)) (by rw [nI_clamp (by omega)]) ?_
  refine r_if_ne (tgt := 31) dX10_contradict_6 (by decide) (fun h1 => ?_) (fun h1 => ?_)
  · have e1 : d.testBit a = true := by cases h9 : d.testBit a with | false => exact absurd (dbF_0.mpr h9) h1 | true => rfl
    refine r_iconst (v := (0 : Int32)) dX10_contradict_31 (by decide) ?_
    refine r_zret dX10_contradict_32 rfl (by decide) ?_
    exact ⟨by rw [show conS cl d a b = false from by unfold conS; simp [e1]]; rfl, rfl⟩
  · have e1 : d.testBit a = false := dbF_0.mp h1
    refine r_aload_n 0 dX10_contradict_9 rfl ?_
    refine r_getm (v := .ref aD) (ci := 10) (fs := [.int (nI ne), .int (nI nt), .ref aC, .ref aD, .ref aO, .ref aT, .int ev, .int cr]) dX10_contradict_10 fl_X10_15 hS.1 rfl ?_
    refine r_iload_n 2 dX10_contradict_13 rfl ?_
    refine r_zaldm (n := 10) (f := (dbF d)) dX10_contradict_14 hS.2.2.2 (ib_nI hb (by decide)) ?_
    refine r_top (w := .int (dbF d b)) (by rw [nI_clamp (by omega)]) ?_
    refine r_if_ne (tgt := 31) dX10_contradict_15 (by decide) (fun h2 => ?_) (fun h2 => ?_)
    · have e2 : d.testBit b = true := by cases h9 : d.testBit b with | false => exact absurd (dbF_0.mpr h9) h2 | true => rfl
      refine r_iconst (v := (0 : Int32)) dX10_contradict_31 (by decide) ?_
      refine r_zret dX10_contradict_32 rfl (by decide) ?_
      exact ⟨by rw [show conS cl d a b = false from by unfold conS; simp [e2]]; rfl, rfl⟩
    · have e2 : d.testBit b = false := dbF_0.mp h2
      refine r_aload_n 0 dX10_contradict_18 rfl ?_
      refine r_iload_n 1 dX10_contradict_19 rfl ?_
      refine r_iload_n 2 dX10_contradict_20 rfl ?_
      refine k_Vm (x := 0) (y := 0) (rest := []) dX10_contradict_21 kv_X10_50 ((cl_pairs hS hV).dq) rfl rfl hS.1 rfl (Nat.le_of_ble_eq_true rfl) (by decide) (by decide) ?_
      rintro ⟨⟩ -
      show R g mX10_contradict 3 0 0 24 [(0, .ref s), (1, .int (nI a)), (2, .int (nI b))] [.int (nI (prsS cl (nI a) (nI b) cl.length))] t _
      refine r_if_le (tgt := 31) dX10_contradict_24 (by decide) (fun h3 => ?_) (fun h3 => ?_)
      · have e3 : prsS cl (nI a) (nI b) cl.length = 0 := by
          have := (nI_leI (a := prsS cl (nI a) (nI b) cl.length) (b := 0) (by omega) (by decide)).mp h3
          omega
        refine r_iconst (v := (0 : Int32)) dX10_contradict_31 (by decide) ?_
        refine r_zret dX10_contradict_32 rfl (by decide) ?_
        exact ⟨by rw [show conS cl d a b = false from by unfold conS; simp [e3]]; rfl, rfl⟩
      · have e3 : 0 < prsS cl (nI a) (nI b) cl.length := by
          have : ¬ _ := fun h => h3 ((nI_leI (a := prsS cl (nI a) (nI b) cl.length) (b := 0) (by omega) (by decide)).mpr h)
          omega
        refine r_iconst (v := (1 : Int32)) dX10_contradict_27 (by decide) ?_
        refine r_goto (tgt := 32) dX10_contradict_28 (by decide) ?_
        refine r_zret dX10_contradict_32 rfl (by decide) ?_
        exact ⟨by rw [show conS cl d a b = true from by unfold conS; simp [e1, e2, e3]]; rfl, rfl⟩
set_option maxRecDepth 20000 in
set_option maxHeartbeats 4000000 in
theorem cl_pairs1 {g : GG} {t : va_W} {s aC aD aO aT ne nt : Nat} {ev cr : Int32} {ca : List Nat} {cl : List (Nat → Int32)} {d : Nat} (hS : SimM g t s aC aD aO aT ne nt ev cr ca cl d) (hV : CV ne nt ca cl) (hn : nt ≤ 10) : Ct g mX10_pairs_ 4 0 0 [.ref s, .int (-1 : Int32)] t (Dv (some (.int (nI (pnS cl d nt nt)))) t) := by
  refine Ct.ofR (by decide +kernel) rfl (Nat.le_of_ble_eq_true rfl) ?_
  show R g mX10_pairs_ 4 0 0 0 [(0, .ref s), (1, .int (-1 : Int32))] [] t _
  refine r_iconst (v := (0 : Int32)) dX10_pairs__0 (by decide) ?_
  refine r_top (w := .int (nI 0)) (rfl) ?_
  refine r_istore_n [(2, .int (nI 0)), (0, .ref s), (1, .int (-1 : Int32))] dX10_pairs__1 (by decide) rfl ?_
  refine r_iconst (v := (0 : Int32)) dX10_pairs__2 (by decide) ?_
  refine r_top (w := .int (nI 0)) (rfl) ?_
  refine r_istore_n [(3, .int (nI 0)), (2, .int (nI 0)), (0, .ref s), (1, .int (-1 : Int32))] dX10_pairs__3 (by decide) rfl ?_
  have L : ∀ n k, n + k = nt → R g mX10_pairs_ 4 0 0 4 [(3, .int (nI k)), (2, .int (nI (pnS cl d nt k))), (0, .ref s), (1, .int (-1 : Int32))] [] t (Dv (some (.int (nI (pnS cl d nt nt)))) t) := by
    intro n
    induction n with
    | zero =>
      intro k hk
      have ek : k = nt := by omega
      rw [ek]
      refine r_iload_n 0 dX10_pairs__4 rfl ?_
      refine r_aload_n 2 dX10_pairs__5 rfl ?_
      refine r_getm (v := .int (nI nt)) (ci := 10) (fs := [.int (nI ne), .int (nI nt), .ref aC, .ref aD, .ref aO, .ref aT, .int ev, .int cr]) dX10_pairs__6 fl_X10_33 hS.1 rfl ?_
      refine r_icmp_ge (tgt := 67) dX10_pairs__9 (by decide) (fun _ => ?_) (fun hc => absurd (nI_le (by omega) (by omega)) hc)
      refine r_iload_n 1 dX10_pairs__67 rfl ?_
      refine r_iret dX10_pairs__68 rfl ?_
      exact ⟨rfl, rfl⟩
    | succ n ih =>
      intro k hk
      have hk2 : k < nt := by omega
      have hc := pnS_le cl d nt k
      have hc1 : k * nt ≤ 10 * 10 := Nat.mul_le_mul (by omega) hn
      refine r_iload_n 0 dX10_pairs__4 rfl ?_
      refine r_aload_n 2 dX10_pairs__5 rfl ?_
      refine r_getm (v := .int (nI nt)) (ci := 10) (fs := [.int (nI ne), .int (nI nt), .ref aC, .ref aD, .ref aO, .ref aT, .int ev, .int cr]) dX10_pairs__6 fl_X10_33 hS.1 rfl ?_
      refine r_icmp_ge (tgt := 67) dX10_pairs__9 (by decide) (fun hc => absurd hc (nI_ge (by omega) (by omega))) (fun _ => ?_)
      refine r_iload_n 0 dX10_pairs__12 rfl ?_
      refine r_iconst (v := (1 : Int32)) dX10_pairs__13 (by decide) ?_
      refine r_iadd dX10_pairs__14 ?_
      refine r_top (w := .int (nI (k + 1))) (by rw [← nI_1]) ?_
      refine r_istore [(4, .int (nI (k + 1))), (3, .int (nI k)), (2, .int (nI (pnS cl d nt k))), (0, .ref s), (1, .int (-1 : Int32))] dX10_pairs__15 (by decide) rfl ?_
      have L2 : ∀ m j, m + j = nt → k < j → R g mX10_pairs_ 4 0 0 17 [(4, .int (nI j)), (3, .int (nI k)), (2, .int (nI (pnS cl d nt k + pnIn cl d k j))), (0, .ref s), (1, .int (-1 : Int32))] [] t (Dv (some (.int (nI (pnS cl d nt nt)))) t) := by
        intro m
        induction m with
        | zero =>
          intro j hj hkj
          have ej : j = nt := by omega
          rw [ej]
          refine r_iload 0 dX10_pairs__17 rfl ?_
          refine r_aload_n 3 dX10_pairs__19 rfl ?_
          refine r_getm (v := .int (nI nt)) (ci := 10) (fs := [.int (nI ne), .int (nI nt), .ref aC, .ref aD, .ref aO, .ref aT, .int ev, .int cr]) dX10_pairs__20 fl_X10_33 hS.1 rfl ?_
          refine r_icmp_ge (tgt := 61) dX10_pairs__23 (by decide) (fun _ => ?_) (fun hc => absurd (nI_le (by omega) (by omega)) hc)
          refine r_iinc (v2 := (nI (k + 1))) 1 [(3, .int (nI (k + 1))), (4, .int (nI nt)), (2, .int (nI (pnS cl d nt k + pnIn cl d k nt))), (0, .ref s), (1, .int (-1 : Int32))] dX10_pairs__61 rfl (nI_1 k) (by decide) rfl ?_
          refine r_goto (tgt := 4) dX10_pairs__64 (by decide) ?_
          refine r_ls [0, 2, 3, 4] (ls2 := [(3, .int (nI (k + 1))), (2, .int (nI (pnS cl d nt k + pnIn cl d k nt))), (0, .ref s), (1, .int (-1 : Int32))]) rfl ?_
          exact ih (k + 1) (by omega)
        | succ m ih2 =>
          intro j hj hkj
          have hj2 : j < nt := by omega
          have hc2 := pnIn_le cl d k j
          have nm : ∀ q, q < 10 → ¬ nI q = (-1 : Int32) := by decide +kernel
          refine r_iload 0 dX10_pairs__17 rfl ?_
          refine r_aload_n 3 dX10_pairs__19 rfl ?_
          refine r_getm (v := .int (nI nt)) (ci := 10) (fs := [.int (nI ne), .int (nI nt), .ref aC, .ref aD, .ref aO, .ref aT, .int ev, .int cr]) dX10_pairs__20 fl_X10_33 hS.1 rfl ?_
          refine r_icmp_ge (tgt := 61) dX10_pairs__23 (by decide) (fun hc => absurd hc (nI_ge (by omega) (by omega))) (fun _ => ?_)
          refine r_iload_n 2 dX10_pairs__26 rfl ?_
          refine r_iload_n 1 dX10_pairs__27 rfl ?_
          refine r_iload_n 4 dX10_pairs__28 rfl ?_
          refine r_icmp_eq (tgt := 52) dX10_pairs__29 (by decide) (fun hc => absurd hc (nm k (by omega))) (fun _ => ?_)
          refine r_iload 0 dX10_pairs__32 rfl ?_
          refine r_iload_n 4 dX10_pairs__34 rfl ?_
          refine r_icmp_eq (tgt := 52) dX10_pairs__35 (by decide) (fun hc => absurd hc (nm j (by omega))) (fun _ => ?_)
          refine r_aload_n 3 dX10_pairs__38 rfl ?_
          refine r_iload_n 1 dX10_pairs__39 rfl ?_
          refine r_iload 0 dX10_pairs__40 rfl ?_
          refine k_Vm (x := 0) (y := 0) (rest := [.int (nI (pnS cl d nt k + pnIn cl d k j))]) dX10_pairs__42 kv_X10_54 ((cl_contradict hS hV (by omega) (by omega)).dq) rfl rfl hS.1 rfl (Nat.le_of_ble_eq_true rfl) (by decide) (by decide) ?_
          rintro ⟨⟩ -
          show R g mX10_pairs_ 4 0 0 45 [(4, .int (nI j)), (3, .int (nI k)), (2, .int (nI (pnS cl d nt k + pnIn cl d k j))), (0, .ref s), (1, .int (-1 : Int32))] [.int (bI (conS cl d k j)), .int (nI (pnS cl d nt k + pnIn cl d k j))] t _
          refine r_if_eq (tgt := 52) dX10_pairs__45 (by decide) (fun h1 => ?_) (fun h1 => ?_)
          · have e9 : pnIn cl d k (j + 1) = pnIn cl d k j + 0 := by
              show pnIn cl d k j + b1 (decide (k < j) && conS cl d k j) = _
              rw [bI_0.mp h1, Bool.and_false]; rfl
            refine r_iconst (v := (0 : Int32)) dX10_pairs__52 (by decide) ?_
            refine r_iadd dX10_pairs__53 ?_
            refine r_top (w := .int (nI (pnS cl d nt k + pnIn cl d k (j + 1)))) (by rw [e9]; exact congrArg Value.int (Int32.add_zero _)) ?_
            refine r_istore_n [(2, .int (nI (pnS cl d nt k + pnIn cl d k (j + 1)))), (4, .int (nI j)), (3, .int (nI k)), (0, .ref s), (1, .int (-1 : Int32))] dX10_pairs__54 (by decide) rfl ?_
            refine r_iinc (v2 := (nI (j + 1))) 1 [(4, .int (nI (j + 1))), (2, .int (nI (pnS cl d nt k + pnIn cl d k (j + 1)))), (3, .int (nI k)), (0, .ref s), (1, .int (-1 : Int32))] dX10_pairs__55 rfl (nI_1 j) (by decide) rfl ?_
            refine r_goto (tgt := 17) dX10_pairs__58 (by decide) ?_
            refine r_ls [0, 2, 1, 3, 4] (ls2 := [(4, .int (nI (j + 1))), (3, .int (nI k)), (2, .int (nI (pnS cl d nt k + pnIn cl d k (j + 1)))), (0, .ref s), (1, .int (-1 : Int32))]) rfl ?_
            exact ih2 (j + 1) (by omega) (by omega)
          · have hct : conS cl d k j = true := by cases h9 : conS cl d k j with | false => rw [h9] at h1; exact absurd rfl h1 | true => rfl
            have e9 : pnIn cl d k (j + 1) = pnIn cl d k j + 1 := by
              show pnIn cl d k j + b1 (decide (k < j) && conS cl d k j) = _
              rw [hct, decide_eq_true hkj]; rfl
            refine r_iconst (v := (1 : Int32)) dX10_pairs__48 (by decide) ?_
            refine r_goto (tgt := 53) dX10_pairs__49 (by decide) ?_
            refine r_iadd dX10_pairs__53 ?_
            refine r_top (w := .int (nI (pnS cl d nt k + pnIn cl d k (j + 1)))) (by rw [e9]; exact congrArg Value.int (nI_1 _)) ?_
            refine r_istore_n [(2, .int (nI (pnS cl d nt k + pnIn cl d k (j + 1)))), (4, .int (nI j)), (3, .int (nI k)), (0, .ref s), (1, .int (-1 : Int32))] dX10_pairs__54 (by decide) rfl ?_
            refine r_iinc (v2 := (nI (j + 1))) 1 [(4, .int (nI (j + 1))), (2, .int (nI (pnS cl d nt k + pnIn cl d k (j + 1)))), (3, .int (nI k)), (0, .ref s), (1, .int (-1 : Int32))] dX10_pairs__55 rfl (nI_1 j) (by decide) rfl ?_
            refine r_goto (tgt := 17) dX10_pairs__58 (by decide) ?_
            refine r_ls [0, 2, 1, 3, 4] (ls2 := [(4, .int (nI (j + 1))), (3, .int (nI k)), (2, .int (nI (pnS cl d nt k + pnIn cl d k (j + 1)))), (0, .ref s), (1, .int (-1 : Int32))]) rfl ?_
            exact ih2 (j + 1) (by omega) (by omega)
      have K := L2 (nt - (k + 1)) (k + 1) (by omega) (by omega)
      rw [pnIn_0, Nat.add_zero] at K
      refine r_ls [0, 1, 2, 3, 4] (ls2 := [(4, .int (nI (k + 1))), (3, .int (nI k)), (2, .int (nI (pnS cl d nt k))), (0, .ref s), (1, .int (-1 : Int32))]) rfl ?_
      exact K
  exact L nt 0 (by omega)
set_option maxRecDepth 20000 in
set_option maxHeartbeats 4000000 in
theorem cl_count {g : GG} {t : va_W} {s q n : Nat} {f : Nat → Int32} (hq : (q, iA g n f) ∈ t) (hn : n < 1000) : Ct g mX10_count 1 0 0 [.ref s, .ref q] t (Dv (some (.int (suS f n))) t) := by
  refine Ct.ofR (by decide +kernel) rfl (Nat.le_of_ble_eq_true rfl) ?_
  show R g mX10_count 1 0 0 0 [(0, .ref s), (1, .ref q)] [] t _
  refine r_iconst (v := (0 : Int32)) dX10_count_0 (by decide) ?_
  refine r_top (w := .int (suS f 0)) (rfl) ?_
  refine r_istore_n [(2, .int (suS f 0)), (0, .ref s), (1, .ref q)] dX10_count_1 (by decide) rfl ?_
  refine r_aload_n 2 dX10_count_2 rfl ?_
  refine r_astore_n [(3, .ref q), (2, .int (suS f 0)), (0, .ref s), (1, .ref q)] dX10_count_3 (by decide) rfl ?_
  refine r_aload_n 0 dX10_count_4 rfl ?_
  refine r_alenm (t := 0) (v := (nI n)) dX10_count_5 rfl hq (by rfl) ?_
  refine r_istore [(4, .int (nI n)), (3, .ref q), (2, .int (suS f 0)), (0, .ref s), (1, .ref q)] dX10_count_6 (by decide) rfl ?_
  refine r_iconst (v := (0 : Int32)) dX10_count_8 (by decide) ?_
  refine r_top (w := .int (nI 0)) (rfl) ?_
  refine r_istore [(5, .int (nI 0)), (4, .int (nI n)), (3, .ref q), (2, .int (suS f 0)), (0, .ref s), (1, .ref q)] dX10_count_9 (by decide) rfl ?_
  have L : ∀ m k, m + k = n → R g mX10_count 1 0 0 11 [(5, .int (nI k)), (4, .int (nI n)), (3, .ref q), (2, .int (suS f k)), (0, .ref s), (1, .ref q)] [] t (Dv (some (.int (suS f n))) t) := by
    intro m
    induction m with
    | zero =>
      intro k hk
      have ek : k = n := by omega
      rw [ek]
      refine r_iload 0 dX10_count_11 rfl ?_
      refine r_iload 1 dX10_count_13 rfl ?_
      refine r_icmp_ge (tgt := 35) dX10_count_15 (by decide) (fun _ => ?_) (fun hc => absurd (nI_le (by omega) (by omega)) hc)
      refine r_iload_n 3 dX10_count_35 rfl ?_
      refine r_iret dX10_count_36 rfl ?_
      exact ⟨rfl, rfl⟩
    | succ m ih =>
      intro k hk
      refine r_iload 0 dX10_count_11 rfl ?_
      refine r_iload 1 dX10_count_13 rfl ?_
      refine r_icmp_ge (tgt := 35) dX10_count_15 (by decide) (fun hc => absurd hc (nI_ge (by omega) (by omega))) (fun _ => ?_)
      refine r_aload_n 2 dX10_count_18 rfl ?_
      refine r_iload 0 dX10_count_19 rfl ?_
      refine r_ialdm (n := n) (f := f) dX10_count_21 hq (ib_nI (by omega) (by omega)) ?_
      refine r_top (w := .int (f k)) (by rw [nI_clamp (by omega)]) ?_
      refine r_istore [(6, .int (f k)), (5, .int (nI k)), (4, .int (nI n)), (3, .ref q), (2, .int (suS f k)), (0, .ref s), (1, .ref q)] dX10_count_22 (by decide) rfl ?_
      refine r_iload_n 4 dX10_count_24 rfl ?_
      refine r_iload 0 dX10_count_25 rfl ?_
      refine r_iadd dX10_count_27 ?_
      refine r_top (w := .int (suS f (k + 1))) (rfl) ?_
      refine r_istore_n [(2, .int (suS f (k + 1))), (6, .int (f k)), (5, .int (nI k)), (4, .int (nI n)), (3, .ref q), (0, .ref s), (1, .ref q)] dX10_count_28 (by decide) rfl ?_
      refine r_iinc (v2 := (nI (k + 1))) 2 [(5, .int (nI (k + 1))), (2, .int (suS f (k + 1))), (6, .int (f k)), (4, .int (nI n)), (3, .ref q), (0, .ref s), (1, .ref q)] dX10_count_29 rfl (nI_1 k) (by decide) rfl ?_
      refine r_goto (tgt := 11) dX10_count_32 (by decide) ?_
      refine r_ls [0, 3, 4, 1, 5, 6] (ls2 := [(5, .int (nI (k + 1))), (4, .int (nI n)), (3, .ref q), (2, .int (suS f (k + 1))), (0, .ref s), (1, .ref q)]) rfl ?_
      exact ih (k + 1) (by omega)
  exact L n 0 (by omega)
