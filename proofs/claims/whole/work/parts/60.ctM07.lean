set_option maxRecDepth 20000 in
set_option maxHeartbeats 4000000 in
theorem rt_M_endOf {g : GG} {am : Nat → Nat} {pm : Nat} {t : va_W} {m0 m2 m3 m4 m5 m6 m7 m8 m9 m10 m11 m12 : Int32} {m14 m15 m16 m18 m19 m20 m21 : Nat → Int32} {m17 : Nat → Int64} {N : Nat} {M_size : Int32} {M_tape : Nat → Int32} {p1 : Int32} {o : Int32} {Q : Rs → va_W → Prop} (h : f_M_endOf N M_size M_tape p1 = some o) (hq : Q (.inl (some (.int o))) (wlM g am pm m0 M_size m2 m3 m4 m5 m6 m7 m8 m9 m10 m11 m12 M_tape m14 m15 m16 m17 m18 m19 m20 m21 ++ t)) : R g mX11_endOf 2 0 0 0 [(0, .ref (am 0)), (1, .int p1)] [] (wlM g am pm m0 M_size m2 m3 m4 m5 m6 m7 m8 m9 m10 m11 m12 M_tape m14 m15 m16 m17 m18 m19 m20 m21 ++ t) Q := by
  unfold f_M_endOf at h
  refine r_aload_n 0 dX11_endOf_0 rfl ?_
  refine r_iload_n 1 dX11_endOf_1 rfl ?_
  obtain ⟨r1776, hc1777, h⟩ := ob (fun z9 => z9) rfl h
  refine c_V (rest := []) 0 0 _ dX11_endOf_2 kv_X11_209 (ct_M_byteOf hc1777) rfl rfl lM_0 rfl (Nat.le_of_ble_eq_true rfl) (by decide) (by decide) ?_
  refine r_istore_n [(2, .int r1776), (0, .ref (am 0)), (1, .int p1)] dX11_endOf_5 (by decide) rfl ?_
  refine r_iload_n 2 dX11_endOf_6 rfl ?_
  refine r_iconst (v := (1 : Int32)) dX11_endOf_7 (by decide) ?_
  refine r_iadd dX11_endOf_8 ?_
  refine r_istore_n [(3, .int (p1 + (1 : Int32))), (2, .int r1776), (0, .ref (am 0)), (1, .int p1)] dX11_endOf_9 (by decide) rfl ?_
  refine r_iload_n 1 dX11_endOf_10 rfl ?_
  refine c_S (rest := []) 0 0 dX11_endOf_11 ks_X11_212 (ct_M_isSmall rfl) rfl rfl (Nat.le_of_ble_eq_true rfl) (by decide) (by decide) ?_
  refine r_if_eq (tgt := 45) dX11_endOf_14 (by decide) (fun hc1778 => ?_) (fun hc1778 => ?_)
  · have h := ip (fun z9 => z9) hc1778 h
    refine r_iload_n 1 dX11_endOf_45 rfl ?_
    refine c_S (rest := []) 0 0 dX11_endOf_46 ks_X11_215 (ct_M_isDigit rfl) rfl rfl (Nat.le_of_ble_eq_true rfl) (by decide) (by decide) ?_
    refine r_if_eq (tgt := 69) dX11_endOf_49 (by decide) (fun hc1779 => ?_) (fun hc1779 => ?_)
    · have h := ip (fun z9 => z9) hc1779 h
      refine r_iload_n 1 dX11_endOf_69 rfl ?_
      refine r_bipush (v := (60 : Int32)) dX11_endOf_70 (by decide) ?_
      refine r_icmp_eq (tgt := 81) dX11_endOf_72 (by decide) (fun hc1780 => ?_) (fun hc1780 => ?_)
      · have h := ip (fun z9 => z9) hc1780 h
        refine r_aload_n 2 dX11_endOf_81 rfl ?_
        refine r_iload_n 0 dX11_endOf_82 rfl ?_
        obtain ⟨r1781, hc1782, h⟩ := ob (fun z9 => z9) rfl h
        refine c_V (rest := []) 0 0 _ dX11_endOf_83 kv_X11_209 (ct_M_byteOf hc1782) rfl rfl lM_0 rfl (Nat.le_of_ble_eq_true rfl) (by decide) (by decide) ?_
        refine r_bipush (v := (61 : Int32)) dX11_endOf_86 (by decide) ?_
        refine r_icmp_ne (tgt := 94) dX11_endOf_88 (by decide) (fun hc1783 => ?_) (fun hc1783 => ?_)
        · have h := iq (fun z9 => z9) hc1783 h
          refine r_iload_n 0 dX11_endOf_94 rfl ?_
          refine r_iret dX11_endOf_95 rfl ?_
          have h := Option.some.inj (show some _ = some o from h)
          subst h
          exact hq
        · have h := ip (fun z9 => z9) hc1783 h
          refine r_iinc (v2 := ((p1 + (1 : Int32)) + (1 : Int32))) 0 [(3, .int ((p1 + (1 : Int32)) + (1 : Int32))), (2, .int r1776), (0, .ref (am 0)), (1, .int p1)] dX11_endOf_91 rfl rfl (by decide) rfl ?_
          refine r_iload_n 0 dX11_endOf_94 rfl ?_
          refine r_iret dX11_endOf_95 rfl ?_
          have h := Option.some.inj (show some _ = some o from h)
          subst h
          exact hq
      · have h := iq (fun z9 => z9) hc1780 h
        refine r_iload_n 1 dX11_endOf_75 rfl ?_
        refine r_bipush (v := (62 : Int32)) dX11_endOf_76 (by decide) ?_
        refine r_icmp_ne (tgt := 94) dX11_endOf_78 (by decide) (fun hc1784 => ?_) (fun hc1784 => ?_)
        · have h := iq (fun z9 => z9) hc1784 h
          refine r_iload_n 0 dX11_endOf_94 rfl ?_
          refine r_iret dX11_endOf_95 rfl ?_
          have h := Option.some.inj (show some _ = some o from h)
          subst h
          exact hq
        · have h := ip (fun z9 => z9) hc1784 h
          refine r_aload_n 2 dX11_endOf_81 rfl ?_
          refine r_iload_n 0 dX11_endOf_82 rfl ?_
          obtain ⟨r1785, hc1786, h⟩ := ob (fun z9 => z9) rfl h
          refine c_V (rest := []) 0 0 _ dX11_endOf_83 kv_X11_209 (ct_M_byteOf hc1786) rfl rfl lM_0 rfl (Nat.le_of_ble_eq_true rfl) (by decide) (by decide) ?_
          refine r_bipush (v := (61 : Int32)) dX11_endOf_86 (by decide) ?_
          refine r_icmp_ne (tgt := 94) dX11_endOf_88 (by decide) (fun hc1787 => ?_) (fun hc1787 => ?_)
          · have h := iq (fun z9 => z9) hc1787 h
            refine r_iload_n 0 dX11_endOf_94 rfl ?_
            refine r_iret dX11_endOf_95 rfl ?_
            have h := Option.some.inj (show some _ = some o from h)
            subst h
            exact hq
          · have h := ip (fun z9 => z9) hc1787 h
            refine r_iinc (v2 := ((p1 + (1 : Int32)) + (1 : Int32))) 0 [(3, .int ((p1 + (1 : Int32)) + (1 : Int32))), (2, .int r1776), (0, .ref (am 0)), (1, .int p1)] dX11_endOf_91 rfl rfl (by decide) rfl ?_
            refine r_iload_n 0 dX11_endOf_94 rfl ?_
            refine r_iret dX11_endOf_95 rfl ?_
            have h := Option.some.inj (show some _ = some o from h)
            subst h
            exact hq
    · have h := iq (fun z9 => z9) hc1779 h
      refine r_ls [2, 1, 0] (ls2 := [(0, .ref (am 0)), (2, .int r1776), (3, .int (p1 + (1 : Int32)))]) rfl ?_
      have L1 : ∀ (n1 : Nat) (l3_1 : Int32), (fun z9 => z9) (lpS (f_M_endOf_L52 M_size M_tape r1776) none n1 l3_1) = some o → R g mX11_endOf 2 0 0 52 [(0, .ref (am 0)), (2, .int r1776), (3, .int l3_1)] [] (wlM g am pm m0 M_size m2 m3 m4 m5 m6 m7 m8 m9 m10 m11 m12 M_tape m14 m15 m16 m17 m18 m19 m20 m21 ++ t) Q := by
        intro n1
        induction n1 with
        | zero => intro l3_1 h; exact nomatch (show (none : Option _) = some _ from h)
        | succ n1 ih1 =>
          intro l3_1 h
          have h : (fun z9 => (lC (f_M_endOf_L52 M_size M_tape r1776) none n1 z9)) (f_M_endOf_L52 M_size M_tape r1776 l3_1) = some o := h
          unfold f_M_endOf_L52 at h
          try dsimp only at h
          refine r_aload_n 0 dX11_endOf_52 rfl ?_
          refine r_iload_n 2 dX11_endOf_53 rfl ?_
          obtain ⟨r1788, hc1789, h⟩ := ob (fun z9 => (lC (f_M_endOf_L52 M_size M_tape r1776) none n1 z9)) rfl h
          refine c_V (rest := []) 0 0 _ dX11_endOf_54 kv_X11_209 (ct_M_byteOf hc1789) rfl rfl lM_0 rfl (Nat.le_of_ble_eq_true rfl) (by decide) (by decide) ?_
          refine c_S (rest := []) 0 0 dX11_endOf_57 ks_X11_215 (ct_M_isDigit rfl) rfl rfl (Nat.le_of_ble_eq_true rfl) (by decide) (by decide) ?_
          refine r_if_eq (tgt := 69) dX11_endOf_60 (by decide) (fun hc1790 => ?_) (fun hc1790 => ?_)
          · have h := ip (fun z9 => (lC (f_M_endOf_L52 M_size M_tape r1776) none n1 z9)) hc1790 h
            refine r_iload_n 1 dX11_endOf_69 rfl ?_
            refine r_bipush (v := (60 : Int32)) dX11_endOf_70 (by decide) ?_
            refine r_icmp_eq (tgt := 81) dX11_endOf_72 (by decide) (fun hc1791 => ?_) (fun hc1791 => ?_)
            · have h := ip (fun z9 => (lC (f_M_endOf_L52 M_size M_tape r1776) none n1 z9)) hc1791 h
              refine r_aload_n 0 dX11_endOf_81 rfl ?_
              refine r_iload_n 2 dX11_endOf_82 rfl ?_
              obtain ⟨r1792, hc1793, h⟩ := ob (fun z9 => (lC (f_M_endOf_L52 M_size M_tape r1776) none n1 z9)) rfl h
              refine c_V (rest := []) 0 0 _ dX11_endOf_83 kv_X11_209 (ct_M_byteOf hc1793) rfl rfl lM_0 rfl (Nat.le_of_ble_eq_true rfl) (by decide) (by decide) ?_
              refine r_bipush (v := (61 : Int32)) dX11_endOf_86 (by decide) ?_
              refine r_icmp_ne (tgt := 94) dX11_endOf_88 (by decide) (fun hc1794 => ?_) (fun hc1794 => ?_)
              · have h := iq (fun z9 => (lC (f_M_endOf_L52 M_size M_tape r1776) none n1 z9)) hc1794 h
                refine r_iload_n 2 dX11_endOf_94 rfl ?_
                refine r_iret dX11_endOf_95 rfl ?_
                have h := Option.some.inj (show some _ = some o from h)
                subst h
                exact hq
              · have h := ip (fun z9 => (lC (f_M_endOf_L52 M_size M_tape r1776) none n1 z9)) hc1794 h
                refine r_iinc (v2 := (l3_1 + (1 : Int32))) 2 [(3, .int (l3_1 + (1 : Int32))), (0, .ref (am 0)), (2, .int r1776)] dX11_endOf_91 rfl rfl (by decide) rfl ?_
                refine r_iload_n 0 dX11_endOf_94 rfl ?_
                refine r_iret dX11_endOf_95 rfl ?_
                have h := Option.some.inj (show some _ = some o from h)
                subst h
                exact hq
            · have h := iq (fun z9 => (lC (f_M_endOf_L52 M_size M_tape r1776) none n1 z9)) hc1791 h
              refine r_iload_n 1 dX11_endOf_75 rfl ?_
              refine r_bipush (v := (62 : Int32)) dX11_endOf_76 (by decide) ?_
              refine r_icmp_ne (tgt := 94) dX11_endOf_78 (by decide) (fun hc1795 => ?_) (fun hc1795 => ?_)
              · have h := iq (fun z9 => (lC (f_M_endOf_L52 M_size M_tape r1776) none n1 z9)) hc1795 h
                refine r_iload_n 2 dX11_endOf_94 rfl ?_
                refine r_iret dX11_endOf_95 rfl ?_
                have h := Option.some.inj (show some _ = some o from h)
                subst h
                exact hq
              · have h := ip (fun z9 => (lC (f_M_endOf_L52 M_size M_tape r1776) none n1 z9)) hc1795 h
                refine r_aload_n 0 dX11_endOf_81 rfl ?_
                refine r_iload_n 2 dX11_endOf_82 rfl ?_
                obtain ⟨r1796, hc1797, h⟩ := ob (fun z9 => (lC (f_M_endOf_L52 M_size M_tape r1776) none n1 z9)) rfl h
                refine c_V (rest := []) 0 0 _ dX11_endOf_83 kv_X11_209 (ct_M_byteOf hc1797) rfl rfl lM_0 rfl (Nat.le_of_ble_eq_true rfl) (by decide) (by decide) ?_
                refine r_bipush (v := (61 : Int32)) dX11_endOf_86 (by decide) ?_
                refine r_icmp_ne (tgt := 94) dX11_endOf_88 (by decide) (fun hc1798 => ?_) (fun hc1798 => ?_)
                · have h := iq (fun z9 => (lC (f_M_endOf_L52 M_size M_tape r1776) none n1 z9)) hc1798 h
                  refine r_iload_n 2 dX11_endOf_94 rfl ?_
                  refine r_iret dX11_endOf_95 rfl ?_
                  have h := Option.some.inj (show some _ = some o from h)
                  subst h
                  exact hq
                · have h := ip (fun z9 => (lC (f_M_endOf_L52 M_size M_tape r1776) none n1 z9)) hc1798 h
                  refine r_iinc (v2 := (l3_1 + (1 : Int32))) 2 [(3, .int (l3_1 + (1 : Int32))), (0, .ref (am 0)), (2, .int r1776)] dX11_endOf_91 rfl rfl (by decide) rfl ?_
                  refine r_iload_n 0 dX11_endOf_94 rfl ?_
                  refine r_iret dX11_endOf_95 rfl ?_
                  have h := Option.some.inj (show some _ = some o from h)
                  subst h
                  exact hq
          · have h := iq (fun z9 => (lC (f_M_endOf_L52 M_size M_tape r1776) none n1 z9)) hc1790 h
            refine r_iinc (v2 := (l3_1 + (1 : Int32))) 2 [(3, .int (l3_1 + (1 : Int32))), (0, .ref (am 0)), (2, .int r1776)] dX11_endOf_63 rfl rfl (by decide) rfl ?_
            refine r_goto (tgt := 52) dX11_endOf_66 (by decide) ?_
            refine r_ls [1, 2, 0] (ls2 := [(0, .ref (am 0)), (2, .int r1776), (3, .int (l3_1 + (1 : Int32)))]) rfl ?_
            exact ih1 (l3_1 + (1 : Int32)) h
      exact L1 _ (p1 + (1 : Int32)) h
  · have h := iq (fun z9 => z9) hc1778 h
    refine r_ls [2, 1, 0] (ls2 := [(0, .ref (am 0)), (2, .int r1776), (3, .int (p1 + (1 : Int32)))]) rfl ?_
    have L2 : ∀ (n2 : Nat) (l3_2 : Int32), (fun z9 => z9) (lpS (f_M_endOf_L17 N M_size M_tape r1776) none n2 l3_2) = some o → R g mX11_endOf 2 0 0 17 [(0, .ref (am 0)), (2, .int r1776), (3, .int l3_2)] [] (wlM g am pm m0 M_size m2 m3 m4 m5 m6 m7 m8 m9 m10 m11 m12 M_tape m14 m15 m16 m17 m18 m19 m20 m21 ++ t) Q := by
      intro n2
      induction n2 with
      | zero => intro l3_2 h; exact nomatch (show (none : Option _) = some _ from h)
      | succ n2 ih2 =>
        intro l3_2 h
        have h : (fun z9 => (lC (f_M_endOf_L17 N M_size M_tape r1776) none n2 z9)) (f_M_endOf_L17 N M_size M_tape r1776 l3_2) = some o := h
        unfold f_M_endOf_L17 at h
        try dsimp only at h
        refine r_aload_n 0 dX11_endOf_17 rfl ?_
        refine r_iload_n 2 dX11_endOf_18 rfl ?_
        obtain ⟨r1799, hc1800, h⟩ := ob (fun z9 => (lC (f_M_endOf_L17 N M_size M_tape r1776) none n2 z9)) rfl h
        refine c_V (rest := []) 0 0 _ dX11_endOf_19 kv_X11_209 (ct_M_byteOf hc1800) rfl rfl lM_0 rfl (Nat.le_of_ble_eq_true rfl) (by decide) (by decide) ?_
        refine c_S (rest := []) 0 0 dX11_endOf_22 ks_X11_212 (ct_M_isSmall rfl) rfl rfl (Nat.le_of_ble_eq_true rfl) (by decide) (by decide) ?_
        refine r_if_ne (tgt := 39) dX11_endOf_25 (by decide) (fun hc1801 => ?_) (fun hc1801 => ?_)
        · have h := iq (fun z9 => (lC (f_M_endOf_L17 N M_size M_tape r1776) none n2 z9)) hc1801 h
          refine r_iinc (v2 := (l3_2 + (1 : Int32))) 2 [(3, .int (l3_2 + (1 : Int32))), (0, .ref (am 0)), (2, .int r1776)] dX11_endOf_39 rfl rfl (by decide) rfl ?_
          refine r_goto (tgt := 17) dX11_endOf_42 (by decide) ?_
          refine r_ls [1, 2, 0] (ls2 := [(0, .ref (am 0)), (2, .int r1776), (3, .int (l3_2 + (1 : Int32)))]) rfl ?_
          exact ih2 (l3_2 + (1 : Int32)) h
        · have h := ip (fun z9 => (lC (f_M_endOf_L17 N M_size M_tape r1776) none n2 z9)) hc1801 h
          refine r_aload_n 0 dX11_endOf_28 rfl ?_
          refine r_iload_n 2 dX11_endOf_29 rfl ?_
          obtain ⟨r1802, hc1803, h⟩ := ob (fun z9 => (lC (f_M_endOf_L17 N M_size M_tape r1776) none n2 z9)) rfl h
          refine c_V (rest := []) 0 0 _ dX11_endOf_30 kv_X11_209 (ct_M_byteOf hc1803) rfl rfl lM_0 rfl (Nat.le_of_ble_eq_true rfl) (by decide) (by decide) ?_
          refine c_S (rest := []) 0 0 dX11_endOf_33 ks_X11_215 (ct_M_isDigit rfl) rfl rfl (Nat.le_of_ble_eq_true rfl) (by decide) (by decide) ?_
          refine r_if_eq (tgt := 45) dX11_endOf_36 (by decide) (fun hc1804 => ?_) (fun hc1804 => ?_)
          · have h := ip (fun z9 => (lC (f_M_endOf_L17 N M_size M_tape r1776) none n2 z9)) hc1804 h
            refine r_iload_n 1 dX11_endOf_45 rfl ?_
            refine c_S (rest := []) 0 0 dX11_endOf_46 ks_X11_215 (ct_M_isDigit rfl) rfl rfl (Nat.le_of_ble_eq_true rfl) (by decide) (by decide) ?_
            refine r_if_eq (tgt := 69) dX11_endOf_49 (by decide) (fun hc1805 => ?_) (fun hc1805 => ?_)
            · have h := ip (fun z9 => (lC (f_M_endOf_L17 N M_size M_tape r1776) none n2 z9)) hc1805 h
              refine r_iload_n 1 dX11_endOf_69 rfl ?_
              refine r_bipush (v := (60 : Int32)) dX11_endOf_70 (by decide) ?_
              refine r_icmp_eq (tgt := 81) dX11_endOf_72 (by decide) (fun hc1806 => ?_) (fun hc1806 => ?_)
              · have h := ip (fun z9 => (lC (f_M_endOf_L17 N M_size M_tape r1776) none n2 z9)) hc1806 h
                refine r_aload_n 0 dX11_endOf_81 rfl ?_
                refine r_iload_n 2 dX11_endOf_82 rfl ?_
                obtain ⟨r1807, hc1808, h⟩ := ob (fun z9 => (lC (f_M_endOf_L17 N M_size M_tape r1776) none n2 z9)) rfl h
                refine c_V (rest := []) 0 0 _ dX11_endOf_83 kv_X11_209 (ct_M_byteOf hc1808) rfl rfl lM_0 rfl (Nat.le_of_ble_eq_true rfl) (by decide) (by decide) ?_
                refine r_bipush (v := (61 : Int32)) dX11_endOf_86 (by decide) ?_
                refine r_icmp_ne (tgt := 94) dX11_endOf_88 (by decide) (fun hc1809 => ?_) (fun hc1809 => ?_)
                · have h := iq (fun z9 => (lC (f_M_endOf_L17 N M_size M_tape r1776) none n2 z9)) hc1809 h
                  refine r_iload_n 2 dX11_endOf_94 rfl ?_
                  refine r_iret dX11_endOf_95 rfl ?_
                  have h := Option.some.inj (show some _ = some o from h)
                  subst h
                  exact hq
                · have h := ip (fun z9 => (lC (f_M_endOf_L17 N M_size M_tape r1776) none n2 z9)) hc1809 h
                  refine r_iinc (v2 := (l3_2 + (1 : Int32))) 2 [(3, .int (l3_2 + (1 : Int32))), (0, .ref (am 0)), (2, .int r1776)] dX11_endOf_91 rfl rfl (by decide) rfl ?_
                  refine r_iload_n 0 dX11_endOf_94 rfl ?_
                  refine r_iret dX11_endOf_95 rfl ?_
                  have h := Option.some.inj (show some _ = some o from h)
                  subst h
                  exact hq
              · have h := iq (fun z9 => (lC (f_M_endOf_L17 N M_size M_tape r1776) none n2 z9)) hc1806 h
                refine r_iload_n 1 dX11_endOf_75 rfl ?_
                refine r_bipush (v := (62 : Int32)) dX11_endOf_76 (by decide) ?_
                refine r_icmp_ne (tgt := 94) dX11_endOf_78 (by decide) (fun hc1810 => ?_) (fun hc1810 => ?_)
                · have h := iq (fun z9 => (lC (f_M_endOf_L17 N M_size M_tape r1776) none n2 z9)) hc1810 h
                  refine r_iload_n 2 dX11_endOf_94 rfl ?_
                  refine r_iret dX11_endOf_95 rfl ?_
                  have h := Option.some.inj (show some _ = some o from h)
                  subst h
                  exact hq
                · have h := ip (fun z9 => (lC (f_M_endOf_L17 N M_size M_tape r1776) none n2 z9)) hc1810 h
                  refine r_aload_n 0 dX11_endOf_81 rfl ?_
                  refine r_iload_n 2 dX11_endOf_82 rfl ?_
                  obtain ⟨r1811, hc1812, h⟩ := ob (fun z9 => (lC (f_M_endOf_L17 N M_size M_tape r1776) none n2 z9)) rfl h
                  refine c_V (rest := []) 0 0 _ dX11_endOf_83 kv_X11_209 (ct_M_byteOf hc1812) rfl rfl lM_0 rfl (Nat.le_of_ble_eq_true rfl) (by decide) (by decide) ?_
                  refine r_bipush (v := (61 : Int32)) dX11_endOf_86 (by decide) ?_
                  refine r_icmp_ne (tgt := 94) dX11_endOf_88 (by decide) (fun hc1813 => ?_) (fun hc1813 => ?_)
                  · have h := iq (fun z9 => (lC (f_M_endOf_L17 N M_size M_tape r1776) none n2 z9)) hc1813 h
                    refine r_iload_n 2 dX11_endOf_94 rfl ?_
                    refine r_iret dX11_endOf_95 rfl ?_
                    have h := Option.some.inj (show some _ = some o from h)
                    subst h
                    exact hq
                  · have h := ip (fun z9 => (lC (f_M_endOf_L17 N M_size M_tape r1776) none n2 z9)) hc1813 h
                    refine r_iinc (v2 := (l3_2 + (1 : Int32))) 2 [(3, .int (l3_2 + (1 : Int32))), (0, .ref (am 0)), (2, .int r1776)] dX11_endOf_91 rfl rfl (by decide) rfl ?_
                    refine r_iload_n 0 dX11_endOf_94 rfl ?_
                    refine r_iret dX11_endOf_95 rfl ?_
                    have h := Option.some.inj (show some _ = some o from h)
                    subst h
                    exact hq
            · have h := iq (fun z9 => (lC (f_M_endOf_L17 N M_size M_tape r1776) none n2 z9)) hc1805 h
              refine r_ls [0, 1, 2] (ls2 := [(0, .ref (am 0)), (2, .int r1776), (3, .int l3_2)]) rfl ?_
              have L3 : ∀ (n3 : Nat) (l3_3 : Int32), (fun z9 => (lC (f_M_endOf_L17 N M_size M_tape r1776) none n2 z9)) (lpS (f_M_endOf_L52_3 M_size M_tape r1776) (.inr none) n3 l3_3) = some o → R g mX11_endOf 2 0 0 52 [(0, .ref (am 0)), (2, .int r1776), (3, .int l3_3)] [] (wlM g am pm m0 M_size m2 m3 m4 m5 m6 m7 m8 m9 m10 m11 m12 M_tape m14 m15 m16 m17 m18 m19 m20 m21 ++ t) Q := by
                intro n3
                induction n3 with
                | zero => intro l3_3 h; exact nomatch (show (none : Option _) = some _ from h)
                | succ n3 ih3 =>
                  intro l3_3 h
                  have h : (fun z9 => (lC (f_M_endOf_L17 N M_size M_tape r1776) none n2 (lC (f_M_endOf_L52_3 M_size M_tape r1776) (.inr none) n3 z9))) (f_M_endOf_L52_3 M_size M_tape r1776 l3_3) = some o := h
                  unfold f_M_endOf_L52_3 at h
                  try dsimp only at h
                  refine r_aload_n 0 dX11_endOf_52 rfl ?_
                  refine r_iload_n 2 dX11_endOf_53 rfl ?_
                  obtain ⟨r1814, hc1815, h⟩ := ob (fun z9 => (lC (f_M_endOf_L17 N M_size M_tape r1776) none n2 (lC (f_M_endOf_L52_3 M_size M_tape r1776) (.inr none) n3 z9))) rfl h
                  refine c_V (rest := []) 0 0 _ dX11_endOf_54 kv_X11_209 (ct_M_byteOf hc1815) rfl rfl lM_0 rfl (Nat.le_of_ble_eq_true rfl) (by decide) (by decide) ?_
                  refine c_S (rest := []) 0 0 dX11_endOf_57 ks_X11_215 (ct_M_isDigit rfl) rfl rfl (Nat.le_of_ble_eq_true rfl) (by decide) (by decide) ?_
                  refine r_if_eq (tgt := 69) dX11_endOf_60 (by decide) (fun hc1816 => ?_) (fun hc1816 => ?_)
                  · have h := ip (fun z9 => (lC (f_M_endOf_L17 N M_size M_tape r1776) none n2 (lC (f_M_endOf_L52_3 M_size M_tape r1776) (.inr none) n3 z9))) hc1816 h
                    refine r_iload_n 1 dX11_endOf_69 rfl ?_
                    refine r_bipush (v := (60 : Int32)) dX11_endOf_70 (by decide) ?_
                    refine r_icmp_eq (tgt := 81) dX11_endOf_72 (by decide) (fun hc1817 => ?_) (fun hc1817 => ?_)
                    · have h := ip (fun z9 => (lC (f_M_endOf_L17 N M_size M_tape r1776) none n2 (lC (f_M_endOf_L52_3 M_size M_tape r1776) (.inr none) n3 z9))) hc1817 h
                      refine r_aload_n 0 dX11_endOf_81 rfl ?_
                      refine r_iload_n 2 dX11_endOf_82 rfl ?_
                      obtain ⟨r1818, hc1819, h⟩ := ob (fun z9 => (lC (f_M_endOf_L17 N M_size M_tape r1776) none n2 (lC (f_M_endOf_L52_3 M_size M_tape r1776) (.inr none) n3 z9))) rfl h
                      refine c_V (rest := []) 0 0 _ dX11_endOf_83 kv_X11_209 (ct_M_byteOf hc1819) rfl rfl lM_0 rfl (Nat.le_of_ble_eq_true rfl) (by decide) (by decide) ?_
                      refine r_bipush (v := (61 : Int32)) dX11_endOf_86 (by decide) ?_
                      refine r_icmp_ne (tgt := 94) dX11_endOf_88 (by decide) (fun hc1820 => ?_) (fun hc1820 => ?_)
                      · have h := iq (fun z9 => (lC (f_M_endOf_L17 N M_size M_tape r1776) none n2 (lC (f_M_endOf_L52_3 M_size M_tape r1776) (.inr none) n3 z9))) hc1820 h
                        refine r_iload_n 2 dX11_endOf_94 rfl ?_
                        refine r_iret dX11_endOf_95 rfl ?_
                        have h := Option.some.inj (show some _ = some o from h)
                        subst h
                        exact hq
                      · have h := ip (fun z9 => (lC (f_M_endOf_L17 N M_size M_tape r1776) none n2 (lC (f_M_endOf_L52_3 M_size M_tape r1776) (.inr none) n3 z9))) hc1820 h
                        refine r_iinc (v2 := (l3_3 + (1 : Int32))) 2 [(3, .int (l3_3 + (1 : Int32))), (0, .ref (am 0)), (2, .int r1776)] dX11_endOf_91 rfl rfl (by decide) rfl ?_
                        refine r_iload_n 0 dX11_endOf_94 rfl ?_
                        refine r_iret dX11_endOf_95 rfl ?_
                        have h := Option.some.inj (show some _ = some o from h)
                        subst h
                        exact hq
                    · have h := iq (fun z9 => (lC (f_M_endOf_L17 N M_size M_tape r1776) none n2 (lC (f_M_endOf_L52_3 M_size M_tape r1776) (.inr none) n3 z9))) hc1817 h
                      refine r_iload_n 1 dX11_endOf_75 rfl ?_
                      refine r_bipush (v := (62 : Int32)) dX11_endOf_76 (by decide) ?_
                      refine r_icmp_ne (tgt := 94) dX11_endOf_78 (by decide) (fun hc1821 => ?_) (fun hc1821 => ?_)
                      · have h := iq (fun z9 => (lC (f_M_endOf_L17 N M_size M_tape r1776) none n2 (lC (f_M_endOf_L52_3 M_size M_tape r1776) (.inr none) n3 z9))) hc1821 h
                        refine r_iload_n 2 dX11_endOf_94 rfl ?_
                        refine r_iret dX11_endOf_95 rfl ?_
                        have h := Option.some.inj (show some _ = some o from h)
                        subst h
                        exact hq
                      · have h := ip (fun z9 => (lC (f_M_endOf_L17 N M_size M_tape r1776) none n2 (lC (f_M_endOf_L52_3 M_size M_tape r1776) (.inr none) n3 z9))) hc1821 h
                        refine r_aload_n 0 dX11_endOf_81 rfl ?_
                        refine r_iload_n 2 dX11_endOf_82 rfl ?_
                        obtain ⟨r1822, hc1823, h⟩ := ob (fun z9 => (lC (f_M_endOf_L17 N M_size M_tape r1776) none n2 (lC (f_M_endOf_L52_3 M_size M_tape r1776) (.inr none) n3 z9))) rfl h
                        refine c_V (rest := []) 0 0 _ dX11_endOf_83 kv_X11_209 (ct_M_byteOf hc1823) rfl rfl lM_0 rfl (Nat.le_of_ble_eq_true rfl) (by decide) (by decide) ?_
                        refine r_bipush (v := (61 : Int32)) dX11_endOf_86 (by decide) ?_
                        refine r_icmp_ne (tgt := 94) dX11_endOf_88 (by decide) (fun hc1824 => ?_) (fun hc1824 => ?_)
                        · have h := iq (fun z9 => (lC (f_M_endOf_L17 N M_size M_tape r1776) none n2 (lC (f_M_endOf_L52_3 M_size M_tape r1776) (.inr none) n3 z9))) hc1824 h
                          refine r_iload_n 2 dX11_endOf_94 rfl ?_
                          refine r_iret dX11_endOf_95 rfl ?_
                          have h := Option.some.inj (show some _ = some o from h)
                          subst h
                          exact hq
                        · have h := ip (fun z9 => (lC (f_M_endOf_L17 N M_size M_tape r1776) none n2 (lC (f_M_endOf_L52_3 M_size M_tape r1776) (.inr none) n3 z9))) hc1824 h
                          refine r_iinc (v2 := (l3_3 + (1 : Int32))) 2 [(3, .int (l3_3 + (1 : Int32))), (0, .ref (am 0)), (2, .int r1776)] dX11_endOf_91 rfl rfl (by decide) rfl ?_
                          refine r_iload_n 0 dX11_endOf_94 rfl ?_
                          refine r_iret dX11_endOf_95 rfl ?_
                          have h := Option.some.inj (show some _ = some o from h)
                          subst h
                          exact hq
                  · have h := iq (fun z9 => (lC (f_M_endOf_L17 N M_size M_tape r1776) none n2 (lC (f_M_endOf_L52_3 M_size M_tape r1776) (.inr none) n3 z9))) hc1816 h
                    refine r_iinc (v2 := (l3_3 + (1 : Int32))) 2 [(3, .int (l3_3 + (1 : Int32))), (0, .ref (am 0)), (2, .int r1776)] dX11_endOf_63 rfl rfl (by decide) rfl ?_
                    refine r_goto (tgt := 52) dX11_endOf_66 (by decide) ?_
                    refine r_ls [1, 2, 0] (ls2 := [(0, .ref (am 0)), (2, .int r1776), (3, .int (l3_3 + (1 : Int32)))]) rfl ?_
                    exact ih3 (l3_3 + (1 : Int32)) h
              exact L3 _ l3_2 h
          · have h := iq (fun z9 => (lC (f_M_endOf_L17 N M_size M_tape r1776) none n2 z9)) hc1804 h
            refine r_iinc (v2 := (l3_2 + (1 : Int32))) 2 [(3, .int (l3_2 + (1 : Int32))), (0, .ref (am 0)), (2, .int r1776)] dX11_endOf_39 rfl rfl (by decide) rfl ?_
            refine r_goto (tgt := 17) dX11_endOf_42 (by decide) ?_
            refine r_ls [1, 2, 0] (ls2 := [(0, .ref (am 0)), (2, .int r1776), (3, .int (l3_2 + (1 : Int32)))]) rfl ?_
            exact ih2 (l3_2 + (1 : Int32)) h
    exact L2 _ (p1 + (1 : Int32)) h
theorem ct_M_endOf {g : GG} {am : Nat → Nat} {pm : Nat} {t : va_W} {m0 m2 m3 m4 m5 m6 m7 m8 m9 m10 m11 m12 : Int32} {m14 m15 m16 m18 m19 m20 m21 : Nat → Int32} {m17 : Nat → Int64} {N : Nat} {M_size : Int32} {M_tape : Nat → Int32} {p1 : Int32} {o : Int32} (h : f_M_endOf N M_size M_tape p1 = some o) : Ct g mX11_endOf 2 0 0 [.ref (am 0), .int p1] (wlM g am pm m0 M_size m2 m3 m4 m5 m6 m7 m8 m9 m10 m11 m12 M_tape m14 m15 m16 m17 m18 m19 m20 m21 ++ t) (Dv (some (.int o)) (wlM g am pm m0 M_size m2 m3 m4 m5 m6 m7 m8 m9 m10 m11 m12 M_tape m14 m15 m16 m17 m18 m19 m20 m21 ++ t)) := Ct.ofR (by decide +kernel) rfl (Nat.le_of_ble_eq_true rfl) (rt_M_endOf h ⟨rfl, rfl⟩)
set_option maxRecDepth 20000 in
set_option maxHeartbeats 4000000 in
theorem rt_J1_charAt_3b067 {g : GG}  {t : va_W}  {i : Nat} {p1 : Int32} {o : Int32} {Q : Rs → va_W → Prop} (h : f_J1_charAt_3b067 i p1 = some o) (hi0 : i < 41) (hq : Q (.inl (some (.int o))) t) : R g mJ1_charAt_3b067 3 0 0 0 [(0, .ref (gV g i)), (1, .int p1)] [] t Q := by
  unfold f_J1_charAt_3b067 at h
  refine r_iload_n 1 dJ1_charAt_3b067_0 rfl ?_
  refine r_aload_n 0 dJ1_charAt_3b067_1 rfl ?_
  refine r_alenV hi0 dJ1_charAt_3b067_2 ?_
  obtain ⟨hb1825, h⟩ := gd (fun z9 => z9) rfl h
  refine c_Sv (rest := []) 0 0 dJ1_charAt_3b067_3 ks_J1_9 (ct_ckIdx hb1825) rfl rfl (Nat.le_of_ble_eq_true rfl) (by decide) (by decide) ?_
  refine r_aload_n 0 dJ1_charAt_3b067_6 rfl ?_
  refine r_iload_n 1 dJ1_charAt_3b067_7 rfl ?_
  obtain ⟨hb1826, h⟩ := gd (fun z9 => z9) rfl h
  refine r_bald hi0 dJ1_charAt_3b067_8 hb1826 ?_
  refine r_sipush (v := (255 : Int32)) dJ1_charAt_3b067_9 (by decide) ?_
  refine r_iand dJ1_charAt_3b067_12 ?_
  refine r_i2c dJ1_charAt_3b067_13 ?_
  obtain ⟨hb1827, h⟩ := gd (fun z9 => z9) rfl h
  refine r_zret dJ1_charAt_3b067_14 rfl (crB_n hb1827) ?_
  have h := Option.some.inj (show some _ = some o from h)
  subst h
  exact hq
theorem ct_J1_charAt_3b067 {g : GG}  {t : va_W}  {i : Nat} {p1 : Int32} {o : Int32} (h : f_J1_charAt_3b067 i p1 = some o) (hi0 : i < 41) : Ct g mJ1_charAt_3b067 3 0 0 [.ref (gV g i), .int p1] t (Dv (some (.int o)) t) := Ct.ofR (by decide +kernel) rfl (Nat.le_of_ble_eq_true rfl) (rt_J1_charAt_3b067 h hi0 ⟨rfl, rfl⟩)
set_option maxRecDepth 20000 in
set_option maxHeartbeats 4000000 in
theorem rt_J0_charAt_5068e {g : GG}  {t : va_W}  {i : Nat} {p1 : Int32} {o : Int32} {Q : Rs → va_W → Prop} (h : f_J0_charAt_5068e i p1 = some o) (hi0 : i < 41) (hq : Q (.inl (some (.int o))) t) : R g mJ0_charAt_5068e 4 0 0 0 [(0, .ref (gK g i)), (1, .int p1)] [] t Q := by
  unfold f_J0_charAt_5068e at h
  refine r_aload_n 0 dJ0_charAt_5068e_0 rfl ?_
  refine c_K (rest := []) 0 0 dJ0_charAt_5068e_1 kv_J0_492 rfl hi0 (ct_J0_isLatin1_aae02 (i := i) (o := 1) rfl hi0) rfl rfl (Nat.le_of_ble_eq_true rfl) (by decide) (by decide) ?_
  refine r_if_eq (tgt := 16) dJ0_charAt_5068e_4 (by decide) (fun hc => absurd hc (by decide)) (fun _ => ?_)
  refine r_aload_n 0 dJ0_charAt_5068e_7 rfl ?_
  refine r_getKv hi0 dJ0_charAt_5068e_8 kk_1967 ?_
  refine r_iload_n 1 dJ0_charAt_5068e_11 rfl ?_
  obtain ⟨r1828, hc1829, h⟩ := ob (fun z9 => z9) rfl h
  refine c_S (rest := []) 0 0 dJ0_charAt_5068e_12 ks_J0_495 (ct_J1_charAt_3b067 hc1829 hi0) rfl rfl (Nat.le_of_ble_eq_true rfl) (by decide) (by decide) ?_
  obtain ⟨hb1830, h⟩ := gd (fun z9 => z9) rfl h
  refine r_zret dJ0_charAt_5068e_15 rfl (crB_n hb1830) ?_
  have h := Option.some.inj (show some _ = some o from h)
  subst h
  exact hq
theorem ct_J0_charAt_5068e {g : GG}  {t : va_W}  {i : Nat} {p1 : Int32} {o : Int32} (h : f_J0_charAt_5068e i p1 = some o) (hi0 : i < 41) : Ct g mJ0_charAt_5068e 4 0 0 [.ref (gK g i), .int p1] t (Dv (some (.int o)) t) := Ct.ofR (by decide +kernel) rfl (Nat.le_of_ble_eq_true rfl) (rt_J0_charAt_5068e h hi0 ⟨rfl, rfl⟩)
set_option maxRecDepth 20000 in
set_option maxHeartbeats 4000000 in
theorem rt_M_letter {g : GG}  {t : va_W}  {p0 : Int32} {o : Int32} {Q : Rs → va_W → Prop} (h : f_M_letter p0 = o) (hq : Q (.inl (some (.int o))) t) : R g mX11_letter 2 0 0 0 [(0, .int p0)] [] t Q := by
  unfold f_M_letter at h
  refine r_iload_n 0 dX11_letter_0 rfl ?_
  refine c_S (rest := []) 0 0 dX11_letter_1 ks_X11_212 (ct_M_isSmall rfl) rfl rfl (Nat.le_of_ble_eq_true rfl) (by decide) (by decide) ?_
  refine r_if_eq (tgt := 16) dX11_letter_4 (by decide) (fun hc1831 => ?_) (fun hc1831 => ?_)
  · have h := ip (fun z9 => z9) hc1831 h
    refine r_iload_n 0 dX11_letter_16 rfl ?_
    refine r_bipush (v := (48 : Int32)) dX11_letter_17 (by decide) ?_
    refine r_isub dX11_letter_19 ?_
    refine r_bipush (v := (27 : Int32)) dX11_letter_20 (by decide) ?_
    refine r_iadd dX11_letter_22 ?_
    refine r_iret dX11_letter_23 rfl ?_
    have h : _ = o := h
    subst h
    exact hq
  · have h := iq (fun z9 => z9) hc1831 h
    refine r_iload_n 0 dX11_letter_7 rfl ?_
    refine r_bipush (v := (97 : Int32)) dX11_letter_8 (by decide) ?_
    refine r_isub dX11_letter_10 ?_
    refine r_iconst (v := (1 : Int32)) dX11_letter_11 (by decide) ?_
    refine r_iadd dX11_letter_12 ?_
    refine r_goto (tgt := 23) dX11_letter_13 (by decide) ?_
    refine r_iret dX11_letter_23 rfl ?_
    have h : _ = o := h
    subst h
    exact hq
theorem ct_M_letter {g : GG}  {t : va_W}  {p0 : Int32} {o : Int32} (h : f_M_letter p0 = o) : Ct g mX11_letter 2 0 0 [.int p0] t (Dv (some (.int o)) t) := Ct.ofR (by decide +kernel) rfl (Nat.le_of_ble_eq_true rfl) (rt_M_letter h ⟨rfl, rfl⟩)
set_option maxRecDepth 20000 in
set_option maxHeartbeats 4000000 in
theorem rt_M_nameOf {g : GG}  {t : va_W}  {N : Nat} {i : Nat} {o : Int64} {Q : Rs → va_W → Prop} (h : f_M_nameOf N i = some o) (hi0 : i < 41) (hq : Q (.inl (some (.long o))) t) : R g mX11_nameOf 5 0 0 0 [(0, .ref (gK g i))] [] t Q := by
  unfold f_M_nameOf at h
  refine r_lconst (v := (0 : Int64)) dX11_nameOf_0 (by decide) ?_
  refine r_lstore_n [(1, .long (0 : Int64)), (0, .ref (gK g i))] dX11_nameOf_1 (by decide) rfl ?_
  refine r_iconst (v := (0 : Int32)) dX11_nameOf_2 (by decide) ?_
  refine r_istore_n [(3, .int (0 : Int32)), (1, .long (0 : Int64)), (0, .ref (gK g i))] dX11_nameOf_3 (by decide) rfl ?_
  refine r_ls [2, 1, 0] (ls2 := [(0, .ref (gK g i)), (1, .long (0 : Int64)), (3, .int (0 : Int32))]) rfl ?_
  have L1 : ∀ (n1 : Nat) (l1_1 : Int64) (l3_1 : Int32), (fun z9 => z9) (lpS (f_M_nameOf_L4 i) none n1 (l1_1, l3_1)) = some o → R g mX11_nameOf 5 0 0 4 [(0, .ref (gK g i)), (1, .long l1_1), (3, .int l3_1)] [] t Q := by
    intro n1
    induction n1 with
    | zero => intro l1_1 l3_1 h; exact nomatch (show (none : Option _) = some _ from h)
    | succ n1 ih1 =>
      intro l1_1 l3_1 h
      have h : (fun z9 => (lC (f_M_nameOf_L4 i) none n1 z9)) (f_M_nameOf_L4 i (l1_1, l3_1)) = some o := h
      unfold f_M_nameOf_L4 at h
      try dsimp only at h
      refine r_iload_n 2 dX11_nameOf_4 rfl ?_
      refine r_aload_n 0 dX11_nameOf_5 rfl ?_
      refine c_K (rest := [.int l3_1]) 0 0 dX11_nameOf_6 kv_X11_224 rfl hi0 (ct_J0_length_8abf5 rfl hi0) rfl rfl (Nat.le_of_ble_eq_true rfl) (by decide) (by decide) ?_
      refine r_icmp_ge (tgt := 34) dX11_nameOf_9 (by decide) (fun hc1832 => ?_) (fun hc1832 => ?_)
      · have h := ip (fun z9 => (lC (f_M_nameOf_L4 i) none n1 z9)) hc1832 h
        refine r_lload_n 1 dX11_nameOf_34 rfl ?_
        refine r_lret dX11_nameOf_35 rfl ?_
        have h := Option.some.inj (show some _ = some o from h)
        subst h
        exact hq
      · have h := iq (fun z9 => (lC (f_M_nameOf_L4 i) none n1 z9)) hc1832 h
        refine r_ldc2 dX11_nameOf_12 kk_1560 ?_
        refine r_lload_n 1 dX11_nameOf_15 rfl ?_
        refine r_lmul dX11_nameOf_16 ?_
        refine r_aload_n 0 dX11_nameOf_17 rfl ?_
        refine r_iload_n 2 dX11_nameOf_18 rfl ?_
        obtain ⟨r1833, hc1834, h⟩ := ob (fun z9 => (lC (f_M_nameOf_L4 i) none n1 z9)) rfl h
        refine c_K (rest := [.long ((37 : Int64) * l1_1)]) 0 0 dX11_nameOf_19 kv_X11_231 rfl hi0 (ct_J0_charAt_5068e hc1834 hi0) rfl rfl (Nat.le_of_ble_eq_true rfl) (by decide) (by decide) ?_
        refine c_S (rest := [.long ((37 : Int64) * l1_1)]) 0 0 dX11_nameOf_22 ks_X11_235 (ct_M_letter rfl) rfl rfl (Nat.le_of_ble_eq_true rfl) (by decide) (by decide) ?_
        refine r_i2l dX11_nameOf_25 ?_
        refine r_ladd dX11_nameOf_26 ?_
        refine r_lstore_n [(1, .long (((37 : Int64) * l1_1) + (f_M_letter r1833).toInt64)), (0, .ref (gK g i)), (3, .int l3_1)] dX11_nameOf_27 (by decide) rfl ?_
        refine r_iinc (v2 := (l3_1 + (1 : Int32))) 2 [(3, .int (l3_1 + (1 : Int32))), (1, .long (((37 : Int64) * l1_1) + (f_M_letter r1833).toInt64)), (0, .ref (gK g i))] dX11_nameOf_28 rfl rfl (by decide) rfl ?_
        refine r_goto (tgt := 4) dX11_nameOf_31 (by decide) ?_
        refine r_ls [2, 1, 0] (ls2 := [(0, .ref (gK g i)), (1, .long (((37 : Int64) * l1_1) + (f_M_letter r1833).toInt64)), (3, .int (l3_1 + (1 : Int32)))]) rfl ?_
        exact ih1 (((37 : Int64) * l1_1) + (f_M_letter r1833).toInt64) (l3_1 + (1 : Int32)) h
  exact L1 _ (0 : Int64) (0 : Int32) h
theorem ct_M_nameOf {g : GG}  {t : va_W}  {N : Nat} {i : Nat} {o : Int64} (h : f_M_nameOf N i = some o) (hi0 : i < 41) : Ct g mX11_nameOf 5 0 0 [.ref (gK g i)] t (Dv (some (.long o)) t) := Ct.ofR (by decide +kernel) rfl (Nat.le_of_ble_eq_true rfl) (rt_M_nameOf h hi0 ⟨rfl, rfl⟩)
