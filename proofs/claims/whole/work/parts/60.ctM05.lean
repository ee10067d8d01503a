set_option maxRecDepth 20000 in
set_option maxHeartbeats 4000000 in
theorem rt_M_isAsked {g : GG}  {t : va_W}  {p0 : Int32} {o : Int32} {Q : Rs → va_W → Prop} (h : f_M_isAsked p0 = o) (hq : Q (.inl (some (.int o))) t) : R g mX11_isAsked 2 0 0 0 [(0, .int p0)] [] t Q := by
  unfold f_M_isAsked at h
  refine r_iload_n 0 dX11_isAsked_0 rfl ?_
  refine r_bipush (v := (100 : Int32)) dX11_isAsked_1 (by decide) ?_
  refine r_icmp_eq (tgt := 28) dX11_isAsked_3 (by decide) (fun hc1689 => ?_) (fun hc1689 => ?_)
  · have h := ip (fun z9 => z9) hc1689 h
    refine r_iconst (v := (1 : Int32)) dX11_isAsked_28 (by decide) ?_
    refine r_goto (tgt := 33) dX11_isAsked_29 (by decide) ?_
    refine r_zret dX11_isAsked_33 rfl (by decide) ?_
    have h : _ = o := h
    subst h
    exact hq
  · have h := iq (fun z9 => z9) hc1689 h
    refine r_iload_n 0 dX11_isAsked_6 rfl ?_
    refine r_bipush (v := (10 : Int32)) dX11_isAsked_7 (by decide) ?_
    refine r_bipush (v := (15 : Int32)) dX11_isAsked_9 (by decide) ?_
    refine c_S (rest := []) 0 0 dX11_isAsked_11 ks_X11_58 (ct_M_isIn rfl) rfl rfl (Nat.le_of_ble_eq_true rfl) (by decide) (by decide) ?_
    refine r_if_ne (tgt := 28) dX11_isAsked_14 (by decide) (fun hc1690 => ?_) (fun hc1690 => ?_)
    · have h := iq (fun z9 => z9) hc1690 h
      refine r_iconst (v := (1 : Int32)) dX11_isAsked_28 (by decide) ?_
      refine r_goto (tgt := 33) dX11_isAsked_29 (by decide) ?_
      refine r_zret dX11_isAsked_33 rfl (by decide) ?_
      have h : _ = o := h
      subst h
      exact hq
    · have h := ip (fun z9 => z9) hc1690 h
      refine r_iload_n 0 dX11_isAsked_17 rfl ?_
      refine r_bipush (v := (17 : Int32)) dX11_isAsked_18 (by decide) ?_
      refine r_bipush (v := (19 : Int32)) dX11_isAsked_20 (by decide) ?_
      refine c_S (rest := []) 0 0 dX11_isAsked_22 ks_X11_58 (ct_M_isIn rfl) rfl rfl (Nat.le_of_ble_eq_true rfl) (by decide) (by decide) ?_
      refine r_if_eq (tgt := 32) dX11_isAsked_25 (by decide) (fun hc1691 => ?_) (fun hc1691 => ?_)
      · have h := ip (fun z9 => z9) hc1691 h
        refine r_iconst (v := (0 : Int32)) dX11_isAsked_32 (by decide) ?_
        refine r_zret dX11_isAsked_33 rfl (by decide) ?_
        have h : _ = o := h
        subst h
        exact hq
      · have h := iq (fun z9 => z9) hc1691 h
        refine r_iconst (v := (1 : Int32)) dX11_isAsked_28 (by decide) ?_
        refine r_goto (tgt := 33) dX11_isAsked_29 (by decide) ?_
        refine r_zret dX11_isAsked_33 rfl (by decide) ?_
        have h : _ = o := h
        subst h
        exact hq
theorem ct_M_isAsked {g : GG}  {t : va_W}  {p0 : Int32} {o : Int32} (h : f_M_isAsked p0 = o) : Ct g mX11_isAsked 2 0 0 [.int p0] t (Dv (some (.int o)) t) := Ct.ofR (by decide +kernel) rfl (Nat.le_of_ble_eq_true rfl) (rt_M_isAsked h ⟨rfl, rfl⟩)
set_option maxRecDepth 20000 in
set_option maxHeartbeats 4000000 in
theorem rt_M_one {g : GG}  {t : va_W}  {p0 : Int32} {o : Int32} {Q : Rs → va_W → Prop} (h : f_M_one p0 = o) (hq : Q (.inl (some (.int o))) t) : R g mX11_one 1 0 0 0 [(0, .int p0)] [] t Q := by
  unfold f_M_one at h
  refine r_iload_n 0 dX11_one_0 rfl ?_
  refine r_if_eq (tgt := 8) dX11_one_1 (by decide) (fun hc1692 => ?_) (fun hc1692 => ?_)
  · have h := ip (fun z9 => z9) hc1692 h
    refine r_iconst (v := (0 : Int32)) dX11_one_8 (by decide) ?_
    refine r_iret dX11_one_9 rfl ?_
    have h : _ = o := h
    subst h
    exact hq
  · have h := iq (fun z9 => z9) hc1692 h
    refine r_iconst (v := (1 : Int32)) dX11_one_4 (by decide) ?_
    refine r_goto (tgt := 9) dX11_one_5 (by decide) ?_
    refine r_iret dX11_one_9 rfl ?_
    have h : _ = o := h
    subst h
    exact hq
theorem ct_M_one {g : GG}  {t : va_W}  {p0 : Int32} {o : Int32} (h : f_M_one p0 = o) : Ct g mX11_one 1 0 0 [.int p0] t (Dv (some (.int o)) t) := Ct.ofR (by decide +kernel) rfl (Nat.le_of_ble_eq_true rfl) (rt_M_one h ⟨rfl, rfl⟩)
set_option maxRecDepth 20000 in
set_option maxHeartbeats 4000000 in
theorem rt_M_reckon {g : GG}  {t : va_W}  {p0 : Int32} {p1 : Int32} {p2 : Int32} {o : Int32} {Q : Rs → va_W → Prop} (h : f_M_reckon p0 p1 p2 = o) (hq : Q (.inl (some (.int o))) t) : R g mX11_reckon 2 0 0 0 [(0, .int p0), (1, .int p1), (2, .int p2)] [] t Q := by
  unfold f_M_reckon at h
  refine r_iload_n 0 dX11_reckon_0 rfl ?_
  by_cases hc1693 : p0 = (21 : Int32)
  · have h := ip (fun z9 => z9) hc1693 h
    refine r_lookup (tgt := 214) dX11_reckon_1 (by decide) (lo_hit (v := (21 : Int32)) (by decide) hc1693) (by decide) ?_
    refine r_iload_n 1 dX11_reckon_214 rfl ?_
    refine r_iload_n 2 dX11_reckon_215 rfl ?_
    refine r_iand dX11_reckon_216 ?_
    refine r_iret dX11_reckon_217 rfl ?_
    have h : _ = o := h
    subst h
    exact hq
  have h := iq (fun z9 => z9) hc1693 h
  by_cases hc1694 : p0 = (23 : Int32)
  · have h := ip (fun z9 => z9) hc1694 h
    refine r_lookup (tgt := 132) dX11_reckon_1 (by decide) (lo_cons (v := (21 : Int32)) (by decide) hc1693 (lo_hit (v := (23 : Int32)) (by decide) hc1694)) (by decide) ?_
    refine r_iload_n 1 dX11_reckon_132 rfl ?_
    refine r_iload_n 2 dX11_reckon_133 rfl ?_
    refine c_mmin (rest := []) dX11_reckon_134 ks_X11_125 (Nat.le_of_ble_eq_true rfl) (by decide) ?_
    refine r_iret dX11_reckon_137 rfl ?_
    have h : _ = o := h
    subst h
    exact hq
  have h := iq (fun z9 => z9) hc1694 h
  by_cases hc1695 : p0 = (24 : Int32)
  · have h := ip (fun z9 => z9) hc1695 h
    refine r_lookup (tgt := 138) dX11_reckon_1 (by decide) (lo_cons (v := (21 : Int32)) (by decide) hc1693 (lo_cons (v := (23 : Int32)) (by decide) hc1694 (lo_hit (v := (24 : Int32)) (by decide) hc1695))) (by decide) ?_
    refine r_iload_n 1 dX11_reckon_138 rfl ?_
    refine r_iload_n 2 dX11_reckon_139 rfl ?_
    refine c_mmax (rest := []) dX11_reckon_140 ks_X11_119 (Nat.le_of_ble_eq_true rfl) (by decide) ?_
    refine r_iret dX11_reckon_143 rfl ?_
    have h : _ = o := h
    subst h
    exact hq
  have h := iq (fun z9 => z9) hc1695 h
  by_cases hc1696 : p0 = (101 : Int32)
  · have h := ip (fun z9 => z9) hc1696 h
    refine r_lookup (tgt := 108) dX11_reckon_1 (by decide) (lo_cons (v := (21 : Int32)) (by decide) hc1693 (lo_cons (v := (23 : Int32)) (by decide) hc1694 (lo_cons (v := (24 : Int32)) (by decide) hc1695 (lo_hit (v := (101 : Int32)) (by decide) hc1696)))) (by decide) ?_
    refine r_iload_n 1 dX11_reckon_108 rfl ?_
    refine r_iload_n 2 dX11_reckon_109 rfl ?_
    refine r_iadd dX11_reckon_110 ?_
    refine r_iret dX11_reckon_111 rfl ?_
    have h : _ = o := h
    subst h
    exact hq
  have h := iq (fun z9 => z9) hc1696 h
  by_cases hc1697 : p0 = (102 : Int32)
  · have h := ip (fun z9 => z9) hc1697 h
    refine r_lookup (tgt := 112) dX11_reckon_1 (by decide) (lo_cons (v := (21 : Int32)) (by decide) hc1693 (lo_cons (v := (23 : Int32)) (by decide) hc1694 (lo_cons (v := (24 : Int32)) (by decide) hc1695 (lo_cons (v := (101 : Int32)) (by decide) hc1696 (lo_hit (v := (102 : Int32)) (by decide) hc1697))))) (by decide) ?_
    refine r_iload_n 1 dX11_reckon_112 rfl ?_
    refine r_iload_n 2 dX11_reckon_113 rfl ?_
    refine r_isub dX11_reckon_114 ?_
    refine r_iret dX11_reckon_115 rfl ?_
    have h : _ = o := h
    subst h
    exact hq
  have h := iq (fun z9 => z9) hc1697 h
  by_cases hc1698 : p0 = (103 : Int32)
  · have h := ip (fun z9 => z9) hc1698 h
    refine r_lookup (tgt := 116) dX11_reckon_1 (by decide) (lo_cons (v := (21 : Int32)) (by decide) hc1693 (lo_cons (v := (23 : Int32)) (by decide) hc1694 (lo_cons (v := (24 : Int32)) (by decide) hc1695 (lo_cons (v := (101 : Int32)) (by decide) hc1696 (lo_cons (v := (102 : Int32)) (by decide) hc1697 (lo_hit (v := (103 : Int32)) (by decide) hc1698)))))) (by decide) ?_
    refine r_iload_n 1 dX11_reckon_116 rfl ?_
    refine r_iload_n 2 dX11_reckon_117 rfl ?_
    refine r_imul dX11_reckon_118 ?_
    refine r_iret dX11_reckon_119 rfl ?_
    have h : _ = o := h
    subst h
    exact hq
  have h := iq (fun z9 => z9) hc1698 h
  by_cases hc1699 : p0 = (104 : Int32)
  · have h := ip (fun z9 => z9) hc1699 h
    refine r_lookup (tgt := 120) dX11_reckon_1 (by decide) (lo_cons (v := (21 : Int32)) (by decide) hc1693 (lo_cons (v := (23 : Int32)) (by decide) hc1694 (lo_cons (v := (24 : Int32)) (by decide) hc1695 (lo_cons (v := (101 : Int32)) (by decide) hc1696 (lo_cons (v := (102 : Int32)) (by decide) hc1697 (lo_cons (v := (103 : Int32)) (by decide) hc1698 (lo_hit (v := (104 : Int32)) (by decide) hc1699))))))) (by decide) ?_
    refine r_iload_n 2 dX11_reckon_120 rfl ?_
    refine r_if_ne (tgt := 128) dX11_reckon_121 (by decide) (fun hc1705 => ?_) (fun hc1705 => ?_)
    · have h := iq (fun z9 => z9) hc1705 h
      refine r_iload_n 1 dX11_reckon_128 rfl ?_
      refine r_iload_n 2 dX11_reckon_129 rfl ?_
      refine r_idiv dX11_reckon_130 hc1705 ?_
      refine r_iret dX11_reckon_131 rfl ?_
      have h : _ = o := h
      subst h
      exact hq
    · have h := ip (fun z9 => z9) hc1705 h
      refine r_iconst (v := (0 : Int32)) dX11_reckon_124 (by decide) ?_
      refine r_goto (tgt := 131) dX11_reckon_125 (by decide) ?_
      refine r_iret dX11_reckon_131 rfl ?_
      have h : _ = o := h
      subst h
      exact hq
  have h := iq (fun z9 => z9) hc1699 h
  by_cases hc1700 : p0 = (106 : Int32)
  · have h := ip (fun z9 => z9) hc1700 h
    refine r_lookup (tgt := 144) dX11_reckon_1 (by decide) (lo_cons (v := (21 : Int32)) (by decide) hc1693 (lo_cons (v := (23 : Int32)) (by decide) hc1694 (lo_cons (v := (24 : Int32)) (by decide) hc1695 (lo_cons (v := (101 : Int32)) (by decide) hc1696 (lo_cons (v := (102 : Int32)) (by decide) hc1697 (lo_cons (v := (103 : Int32)) (by decide) hc1698 (lo_cons (v := (104 : Int32)) (by decide) hc1699 (lo_hit (v := (106 : Int32)) (by decide) hc1700)))))))) (by decide) ?_
    refine r_iload_n 1 dX11_reckon_144 rfl ?_
    refine r_iload_n 2 dX11_reckon_145 rfl ?_
    refine r_icmp_ge (tgt := 153) dX11_reckon_146 (by decide) (fun hc1707 => ?_) (fun hc1707 => ?_)
    · have h := ip (fun z9 => z9) hc1707 h
      refine r_iconst (v := (0 : Int32)) dX11_reckon_153 (by decide) ?_
      refine c_S (rest := []) 0 0 dX11_reckon_154 ks_X11_165 (ct_M_one rfl) rfl rfl (Nat.le_of_ble_eq_true rfl) (by decide) (by decide) ?_
      refine r_iret dX11_reckon_157 rfl ?_
      have h : _ = o := h
      subst h
      exact hq
    · have h := iq (fun z9 => z9) hc1707 h
      refine r_iconst (v := (1 : Int32)) dX11_reckon_149 (by decide) ?_
      refine r_goto (tgt := 154) dX11_reckon_150 (by decide) ?_
      refine c_S (rest := []) 0 0 dX11_reckon_154 ks_X11_165 (ct_M_one rfl) rfl rfl (Nat.le_of_ble_eq_true rfl) (by decide) (by decide) ?_
      refine r_iret dX11_reckon_157 rfl ?_
      have h : _ = o := h
      subst h
      exact hq
  have h := iq (fun z9 => z9) hc1700 h
  by_cases hc1701 : p0 = (107 : Int32)
  · have h := ip (fun z9 => z9) hc1701 h
    refine r_lookup (tgt := 158) dX11_reckon_1 (by decide) (lo_cons (v := (21 : Int32)) (by decide) hc1693 (lo_cons (v := (23 : Int32)) (by decide) hc1694 (lo_cons (v := (24 : Int32)) (by decide) hc1695 (lo_cons (v := (101 : Int32)) (by decide) hc1696 (lo_cons (v := (102 : Int32)) (by decide) hc1697 (lo_cons (v := (103 : Int32)) (by decide) hc1698 (lo_cons (v := (104 : Int32)) (by decide) hc1699 (lo_cons (v := (106 : Int32)) (by decide) hc1700 (lo_hit (v := (107 : Int32)) (by decide) hc1701))))))))) (by decide) ?_
    refine r_iload_n 1 dX11_reckon_158 rfl ?_
    refine r_iload_n 2 dX11_reckon_159 rfl ?_
    refine r_icmp_le (tgt := 167) dX11_reckon_160 (by decide) (fun hc1708 => ?_) (fun hc1708 => ?_)
    · have h := ip (fun z9 => z9) hc1708 h
      refine r_iconst (v := (0 : Int32)) dX11_reckon_167 (by decide) ?_
      refine c_S (rest := []) 0 0 dX11_reckon_168 ks_X11_165 (ct_M_one rfl) rfl rfl (Nat.le_of_ble_eq_true rfl) (by decide) (by decide) ?_
      refine r_iret dX11_reckon_171 rfl ?_
      have h : _ = o := h
      subst h
      exact hq
    · have h := iq (fun z9 => z9) hc1708 h
      refine r_iconst (v := (1 : Int32)) dX11_reckon_163 (by decide) ?_
      refine r_goto (tgt := 168) dX11_reckon_164 (by decide) ?_
      refine c_S (rest := []) 0 0 dX11_reckon_168 ks_X11_165 (ct_M_one rfl) rfl rfl (Nat.le_of_ble_eq_true rfl) (by decide) (by decide) ?_
      refine r_iret dX11_reckon_171 rfl ?_
      have h : _ = o := h
      subst h
      exact hq
  have h := iq (fun z9 => z9) hc1701 h
  by_cases hc1702 : p0 = (108 : Int32)
  · have h := ip (fun z9 => z9) hc1702 h
    refine r_lookup (tgt := 172) dX11_reckon_1 (by decide) (lo_cons (v := (21 : Int32)) (by decide) hc1693 (lo_cons (v := (23 : Int32)) (by decide) hc1694 (lo_cons (v := (24 : Int32)) (by decide) hc1695 (lo_cons (v := (101 : Int32)) (by decide) hc1696 (lo_cons (v := (102 : Int32)) (by decide) hc1697 (lo_cons (v := (103 : Int32)) (by decide) hc1698 (lo_cons (v := (104 : Int32)) (by decide) hc1699 (lo_cons (v := (106 : Int32)) (by decide) hc1700 (lo_cons (v := (107 : Int32)) (by decide) hc1701 (lo_hit (v := (108 : Int32)) (by decide) hc1702)))))))))) (by decide) ?_
    refine r_iload_n 1 dX11_reckon_172 rfl ?_
    refine r_iload_n 2 dX11_reckon_173 rfl ?_
    refine r_icmp_ne (tgt := 181) dX11_reckon_174 (by decide) (fun hc1709 => ?_) (fun hc1709 => ?_)
    · have h := iq (fun z9 => z9) hc1709 h
      refine r_iconst (v := (0 : Int32)) dX11_reckon_181 (by decide) ?_
      refine c_S (rest := []) 0 0 dX11_reckon_182 ks_X11_165 (ct_M_one rfl) rfl rfl (Nat.le_of_ble_eq_true rfl) (by decide) (by decide) ?_
      refine r_iret dX11_reckon_185 rfl ?_
      have h : _ = o := h
      subst h
      exact hq
    · have h := ip (fun z9 => z9) hc1709 h
      refine r_iconst (v := (1 : Int32)) dX11_reckon_177 (by decide) ?_
      refine r_goto (tgt := 182) dX11_reckon_178 (by decide) ?_
      refine c_S (rest := []) 0 0 dX11_reckon_182 ks_X11_165 (ct_M_one rfl) rfl rfl (Nat.le_of_ble_eq_true rfl) (by decide) (by decide) ?_
      refine r_iret dX11_reckon_185 rfl ?_
      have h : _ = o := h
      subst h
      exact hq
  have h := iq (fun z9 => z9) hc1702 h
  by_cases hc1703 : p0 = (109 : Int32)
  · have h := ip (fun z9 => z9) hc1703 h
    refine r_lookup (tgt := 186) dX11_reckon_1 (by decide) (lo_cons (v := (21 : Int32)) (by decide) hc1693 (lo_cons (v := (23 : Int32)) (by decide) hc1694 (lo_cons (v := (24 : Int32)) (by decide) hc1695 (lo_cons (v := (101 : Int32)) (by decide) hc1696 (lo_cons (v := (102 : Int32)) (by decide) hc1697 (lo_cons (v := (103 : Int32)) (by decide) hc1698 (lo_cons (v := (104 : Int32)) (by decide) hc1699 (lo_cons (v := (106 : Int32)) (by decide) hc1700 (lo_cons (v := (107 : Int32)) (by decide) hc1701 (lo_cons (v := (108 : Int32)) (by decide) hc1702 (lo_hit (v := (109 : Int32)) (by decide) hc1703))))))))))) (by decide) ?_
    refine r_iload_n 1 dX11_reckon_186 rfl ?_
    refine r_iload_n 2 dX11_reckon_187 rfl ?_
    refine r_icmp_gt (tgt := 195) dX11_reckon_188 (by decide) (fun hc1710 => ?_) (fun hc1710 => ?_)
    · have h := ip (fun z9 => z9) hc1710 h
      refine r_iconst (v := (0 : Int32)) dX11_reckon_195 (by decide) ?_
      refine c_S (rest := []) 0 0 dX11_reckon_196 ks_X11_165 (ct_M_one rfl) rfl rfl (Nat.le_of_ble_eq_true rfl) (by decide) (by decide) ?_
      refine r_iret dX11_reckon_199 rfl ?_
      have h : _ = o := h
      subst h
      exact hq
    · have h := iq (fun z9 => z9) hc1710 h
      refine r_iconst (v := (1 : Int32)) dX11_reckon_191 (by decide) ?_
      refine r_goto (tgt := 196) dX11_reckon_192 (by decide) ?_
      refine c_S (rest := []) 0 0 dX11_reckon_196 ks_X11_165 (ct_M_one rfl) rfl rfl (Nat.le_of_ble_eq_true rfl) (by decide) (by decide) ?_
      refine r_iret dX11_reckon_199 rfl ?_
      have h : _ = o := h
      subst h
      exact hq
  have h := iq (fun z9 => z9) hc1703 h
  by_cases hc1704 : p0 = (110 : Int32)
  · have h := ip (fun z9 => z9) hc1704 h
    refine r_lookup (tgt := 200) dX11_reckon_1 (by decide) (lo_cons (v := (21 : Int32)) (by decide) hc1693 (lo_cons (v := (23 : Int32)) (by decide) hc1694 (lo_cons (v := (24 : Int32)) (by decide) hc1695 (lo_cons (v := (101 : Int32)) (by decide) hc1696 (lo_cons (v := (102 : Int32)) (by decide) hc1697 (lo_cons (v := (103 : Int32)) (by decide) hc1698 (lo_cons (v := (104 : Int32)) (by decide) hc1699 (lo_cons (v := (106 : Int32)) (by decide) hc1700 (lo_cons (v := (107 : Int32)) (by decide) hc1701 (lo_cons (v := (108 : Int32)) (by decide) hc1702 (lo_cons (v := (109 : Int32)) (by decide) hc1703 (lo_hit (v := (110 : Int32)) (by decide) hc1704)))))))))))) (by decide) ?_
    refine r_iload_n 1 dX11_reckon_200 rfl ?_
    refine r_iload_n 2 dX11_reckon_201 rfl ?_
    refine r_icmp_lt (tgt := 209) dX11_reckon_202 (by decide) (fun hc1711 => ?_) (fun hc1711 => ?_)
    · have h := ip (fun z9 => z9) hc1711 h
      refine r_iconst (v := (0 : Int32)) dX11_reckon_209 (by decide) ?_
      refine c_S (rest := []) 0 0 dX11_reckon_210 ks_X11_165 (ct_M_one rfl) rfl rfl (Nat.le_of_ble_eq_true rfl) (by decide) (by decide) ?_
      refine r_iret dX11_reckon_213 rfl ?_
      have h : _ = o := h
      subst h
      exact hq
    · have h := iq (fun z9 => z9) hc1711 h
      refine r_iconst (v := (1 : Int32)) dX11_reckon_205 (by decide) ?_
      refine r_goto (tgt := 210) dX11_reckon_206 (by decide) ?_
      refine c_S (rest := []) 0 0 dX11_reckon_210 ks_X11_165 (ct_M_one rfl) rfl rfl (Nat.le_of_ble_eq_true rfl) (by decide) (by decide) ?_
      refine r_iret dX11_reckon_213 rfl ?_
      have h : _ = o := h
      subst h
      exact hq
  have h := iq (fun z9 => z9) hc1704 h
  refine r_lookup (tgt := 218) (off := 217) dX11_reckon_1 (by decide) (lo_cons (v := (21 : Int32)) (by decide) hc1693 (lo_cons (v := (23 : Int32)) (by decide) hc1694 (lo_cons (v := (24 : Int32)) (by decide) hc1695 (lo_cons (v := (101 : Int32)) (by decide) hc1696 (lo_cons (v := (102 : Int32)) (by decide) hc1697 (lo_cons (v := (103 : Int32)) (by decide) hc1698 (lo_cons (v := (104 : Int32)) (by decide) hc1699 (lo_cons (v := (106 : Int32)) (by decide) hc1700 (lo_cons (v := (107 : Int32)) (by decide) hc1701 (lo_cons (v := (108 : Int32)) (by decide) hc1702 (lo_cons (v := (109 : Int32)) (by decide) hc1703 (lo_cons (v := (110 : Int32)) (by decide) hc1704 rfl)))))))))))) (by decide) ?_
  refine r_iload_n 1 dX11_reckon_218 rfl ?_
  refine r_iload_n 2 dX11_reckon_219 rfl ?_
  refine r_ior dX11_reckon_220 ?_
  refine r_iret dX11_reckon_221 rfl ?_
  have h : _ = o := h
  subst h
  exact hq
theorem ct_M_reckon {g : GG}  {t : va_W}  {p0 : Int32} {p1 : Int32} {p2 : Int32} {o : Int32} (h : f_M_reckon p0 p1 p2 = o) : Ct g mX11_reckon 2 0 0 [.int p0, .int p1, .int p2] t (Dv (some (.int o)) t) := Ct.ofR (by decide +kernel) rfl (Nat.le_of_ble_eq_true rfl) (rt_M_reckon h ⟨rfl, rfl⟩)
set_option maxRecDepth 20000 in
set_option maxHeartbeats 4000000 in
theorem rt_M_claimsBy {g : GG} {am : Nat → Nat} {ap : Nat → Nat} {t : va_W} {m0 m1 m2 m3 m4 m5 m6 m7 m8 m9 m10 m11 m12 u0 u1 u3 u4 : Int32} {m13 m14 m15 m16 m18 m19 m20 m21 u7 u9 u10 u11 u12 u13 u14 u15 u16 u17 u18 : Nat → Int32} {m17 u5 u6 : Nat → Int64} {N : Nat} {P_claims : Int32} {P_by : Nat → Int32} {p1 : Int32} {o : Int32} {Q : Rs → va_W → Prop} (h : f_M_claimsBy N P_claims P_by p1 = some o) (hq : Q (.inl (some (.int o))) (wlM g am (ap 0) m0 m1 m2 m3 m4 m5 m6 m7 m8 m9 m10 m11 m12 m13 m14 m15 m16 m17 m18 m19 m20 m21 ++ (wlP g ap u0 u1 P_claims u3 u4 u5 u6 u7 P_by u9 u10 u11 u12 u13 u14 u15 u16 u17 u18 ++ t))) : R g mX11_claimsBy 1 0 0 0 [(0, .ref (am 0)), (1, .int p1)] [] (wlM g am (ap 0) m0 m1 m2 m3 m4 m5 m6 m7 m8 m9 m10 m11 m12 m13 m14 m15 m16 m17 m18 m19 m20 m21 ++ (wlP g ap u0 u1 P_claims u3 u4 u5 u6 u7 P_by u9 u10 u11 u12 u13 u14 u15 u16 u17 u18 ++ t)) Q := by
  unfold f_M_claimsBy at h
  refine r_iconst (v := (0 : Int32)) dX11_claimsBy_0 (by decide) ?_
  refine r_istore_n [(2, .int (0 : Int32)), (0, .ref (am 0)), (1, .int p1)] dX11_claimsBy_1 (by decide) rfl ?_
  refine r_iconst (v := (0 : Int32)) dX11_claimsBy_2 (by decide) ?_
  refine r_istore_n [(3, .int (0 : Int32)), (2, .int (0 : Int32)), (0, .ref (am 0)), (1, .int p1)] dX11_claimsBy_3 (by decide) rfl ?_
  refine r_ls [2, 3, 1, 0] (ls2 := [(0, .ref (am 0)), (1, .int p1), (2, .int (0 : Int32)), (3, .int (0 : Int32))]) rfl ?_
  have L1 : ∀ (n1 : Nat) (l2_1 : Int32) (l3_1 : Int32), (fun z9 => z9) (lpS (f_M_claimsBy_L4 P_claims P_by p1) none n1 (l2_1, l3_1)) = some o → R g mX11_claimsBy 1 0 0 4 [(0, .ref (am 0)), (1, .int p1), (2, .int l2_1), (3, .int l3_1)] [] (wlM g am (ap 0) m0 m1 m2 m3 m4 m5 m6 m7 m8 m9 m10 m11 m12 m13 m14 m15 m16 m17 m18 m19 m20 m21 ++ (wlP g ap u0 u1 P_claims u3 u4 u5 u6 u7 P_by u9 u10 u11 u12 u13 u14 u15 u16 u17 u18 ++ t)) Q := by
    intro n1
    induction n1 with
    | zero => intro l2_1 l3_1 h; exact nomatch (show (none : Option _) = some _ from h)
    | succ n1 ih1 =>
      intro l2_1 l3_1 h
      have h : (fun z9 => (lC (f_M_claimsBy_L4 P_claims P_by p1) none n1 z9)) (f_M_claimsBy_L4 P_claims P_by p1 (l2_1, l3_1)) = some o := h
      unfold f_M_claimsBy_L4 at h
      try dsimp only at h
      refine r_iload_n 3 dX11_claimsBy_4 rfl ?_
      refine r_aload_n 0 dX11_claimsBy_5 rfl ?_
      refine r_getf (v := .ref (ap 0)) _ dX11_claimsBy_6 fl_X11_20 lM_0 rfl ?_
      refine r_getf (v := .int P_claims) _ dX11_claimsBy_9 fl_X11_65 lP_0 rfl ?_
      refine r_icmp_ge (tgt := 42) dX11_claimsBy_12 (by decide) (fun hc1712 => ?_) (fun hc1712 => ?_)
      · have h := ip (fun z9 => (lC (f_M_claimsBy_L4 P_claims P_by p1) none n1 z9)) hc1712 h
        refine r_iload_n 2 dX11_claimsBy_42 rfl ?_
        refine r_iret dX11_claimsBy_43 rfl ?_
        have h := Option.some.inj (show some _ = some o from h)
        subst h
        exact hq
      · have h := iq (fun z9 => (lC (f_M_claimsBy_L4 P_claims P_by p1) none n1 z9)) hc1712 h
        refine r_iload_n 2 dX11_claimsBy_15 rfl ?_
        refine r_aload_n 0 dX11_claimsBy_16 rfl ?_
        refine r_getf (v := .ref (ap 0)) _ dX11_claimsBy_17 fl_X11_20 lM_0 rfl ?_
        refine r_getf (v := .ref (ap 4)) _ dX11_claimsBy_20 fl_X11_82 lP_0 rfl ?_
        refine r_iload_n 3 dX11_claimsBy_23 rfl ?_
        obtain ⟨hb1713, h⟩ := gd (fun z9 => (lC (f_M_claimsBy_L4 P_claims P_by p1) none n1 z9)) rfl h
        refine r_iald _ dX11_claimsBy_24 lP_4 hb1713 ?_
        refine r_iload_n 1 dX11_claimsBy_25 rfl ?_
        refine r_icmp_ne (tgt := 33) dX11_claimsBy_26 (by decide) (fun hc1714 => ?_) (fun hc1714 => ?_)
        · have h := iq (fun z9 => (lC (f_M_claimsBy_L4 P_claims P_by p1) none n1 z9)) hc1714 h
          refine r_iconst (v := (0 : Int32)) dX11_claimsBy_33 (by decide) ?_
          refine r_iadd dX11_claimsBy_34 ?_
          refine r_istore_n [(2, .int (l2_1 + (0 : Int32))), (0, .ref (am 0)), (1, .int p1), (3, .int l3_1)] dX11_claimsBy_35 (by decide) rfl ?_
          refine r_iinc (v2 := (l3_1 + (1 : Int32))) 3 [(3, .int (l3_1 + (1 : Int32))), (2, .int (l2_1 + (0 : Int32))), (0, .ref (am 0)), (1, .int p1)] dX11_claimsBy_36 rfl rfl (by decide) rfl ?_
          refine r_goto (tgt := 4) dX11_claimsBy_39 (by decide) ?_
          refine r_ls [2, 3, 1, 0] (ls2 := [(0, .ref (am 0)), (1, .int p1), (2, .int (l2_1 + (0 : Int32))), (3, .int (l3_1 + (1 : Int32)))]) rfl ?_
          exact ih1 (l2_1 + (0 : Int32)) (l3_1 + (1 : Int32)) h
        · have h := ip (fun z9 => (lC (f_M_claimsBy_L4 P_claims P_by p1) none n1 z9)) hc1714 h
          refine r_iconst (v := (1 : Int32)) dX11_claimsBy_29 (by decide) ?_
          refine r_goto (tgt := 34) dX11_claimsBy_30 (by decide) ?_
          refine r_iadd dX11_claimsBy_34 ?_
          refine r_istore_n [(2, .int (l2_1 + (1 : Int32))), (0, .ref (am 0)), (1, .int p1), (3, .int l3_1)] dX11_claimsBy_35 (by decide) rfl ?_
          refine r_iinc (v2 := (l3_1 + (1 : Int32))) 3 [(3, .int (l3_1 + (1 : Int32))), (2, .int (l2_1 + (1 : Int32))), (0, .ref (am 0)), (1, .int p1)] dX11_claimsBy_36 rfl rfl (by decide) rfl ?_
          refine r_goto (tgt := 4) dX11_claimsBy_39 (by decide) ?_
          refine r_ls [2, 3, 1, 0] (ls2 := [(0, .ref (am 0)), (1, .int p1), (2, .int (l2_1 + (1 : Int32))), (3, .int (l3_1 + (1 : Int32)))]) rfl ?_
          exact ih1 (l2_1 + (1 : Int32)) (l3_1 + (1 : Int32)) h
  exact L1 _ (0 : Int32) (0 : Int32) h
theorem ct_M_claimsBy {g : GG} {am : Nat → Nat} {ap : Nat → Nat} {t : va_W} {m0 m1 m2 m3 m4 m5 m6 m7 m8 m9 m10 m11 m12 u0 u1 u3 u4 : Int32} {m13 m14 m15 m16 m18 m19 m20 m21 u7 u9 u10 u11 u12 u13 u14 u15 u16 u17 u18 : Nat → Int32} {m17 u5 u6 : Nat → Int64} {N : Nat} {P_claims : Int32} {P_by : Nat → Int32} {p1 : Int32} {o : Int32} (h : f_M_claimsBy N P_claims P_by p1 = some o) : Ct g mX11_claimsBy 1 0 0 [.ref (am 0), .int p1] (wlM g am (ap 0) m0 m1 m2 m3 m4 m5 m6 m7 m8 m9 m10 m11 m12 m13 m14 m15 m16 m17 m18 m19 m20 m21 ++ (wlP g ap u0 u1 P_claims u3 u4 u5 u6 u7 P_by u9 u10 u11 u12 u13 u14 u15 u16 u17 u18 ++ t)) (Dv (some (.int o)) (wlM g am (ap 0) m0 m1 m2 m3 m4 m5 m6 m7 m8 m9 m10 m11 m12 m13 m14 m15 m16 m17 m18 m19 m20 m21 ++ (wlP g ap u0 u1 P_claims u3 u4 u5 u6 u7 P_by u9 u10 u11 u12 u13 u14 u15 u16 u17 u18 ++ t))) := Ct.ofR (by decide +kernel) rfl (Nat.le_of_ble_eq_true rfl) (rt_M_claimsBy h ⟨rfl, rfl⟩)
set_option maxRecDepth 20000 in
set_option maxHeartbeats 4000000 in
theorem rt_M_ask {g : GG} {am : Nat → Nat} {ap : Nat → Nat} {t : va_W} {m0 m1 m2 m3 m4 m5 m8 u0 u3 u4 : Int32} {m13 m14 m15 m16 m18 m20 m21 u12 u13 u14 u15 u16 u17 u18 : Nat → Int32} {m17 u5 u6 : Nat → Int64} {N : Nat} {M_doubted : Int32} {M_evenings : Int32} {M_looked : Int32} {M_lying : Int32} {M_fewest : Int32} {M_sets : Int32} {M_against : Nat → Int32} {P_tellers : Int32} {P_claims : Int32} {P_kind : Nat → Int32} {P_by : Nat → Int32} {P_of : Nat → Int32} {P_other : Nat → Int32} {P_last : Nat → Int32} {p1 : Int32} {p2 : Int32} {p3 : Int32} {o : Int32 × Int32 × Int32 × Int32 × Int32} {Q : Rs → va_W → Prop} (h : f_M_ask N M_doubted M_evenings M_looked M_lying M_fewest M_sets M_against P_tellers P_claims P_kind P_by P_of P_other P_last p1 p2 p3 = some o) (hq : Q (.inl (some (.int o.1))) (wlM g am (ap 0) m0 m1 m2 m3 m4 m5 M_doubted M_evenings m8 o.2.1 o.2.2.1 o.2.2.2.1 o.2.2.2.2 m13 m14 m15 m16 m17 m18 M_against m20 m21 ++ (wlP g ap u0 P_tellers P_claims u3 u4 u5 u6 P_kind P_by P_of P_other P_last u12 u13 u14 u15 u16 u17 u18 ++ t))) : R g mX11_ask 5 0 0 0 [(0, .ref (am 0)), (1, .int p1), (2, .int p2), (3, .int p3)] [] (wlM g am (ap 0) m0 m1 m2 m3 m4 m5 M_doubted M_evenings m8 M_looked M_lying M_fewest M_sets m13 m14 m15 m16 m17 m18 M_against m20 m21 ++ (wlP g ap u0 P_tellers P_claims u3 u4 u5 u6 P_kind P_by P_of P_other P_last u12 u13 u14 u15 u16 u17 u18 ++ t)) Q := by
  unfold f_M_ask at h
  refine r_iload_n 1 dX11_ask_0 rfl ?_
  by_cases hc1715 : p1 = (10 : Int32)
  · have h := ip (fun z9 => z9) hc1715 h
    refine r_lookup (tgt := 86) dX11_ask_1 (by decide) (lo_hit (v := (10 : Int32)) (by decide) hc1715) (by decide) ?_
    refine r_aload_n 0 dX11_ask_86 rfl ?_
    refine r_getf (v := .int M_evenings) _ dX11_ask_87 fl_X11_156 lM_0 rfl ?_
    refine r_iret dX11_ask_90 rfl ?_
    have h := Option.some.inj (show some _ = some o from h)
    subst h
    exact hq
  have h := iq (fun z9 => z9) hc1715 h
  by_cases hc1716 : p1 = (11 : Int32)
  · have h := ip (fun z9 => z9) hc1716 h
    refine r_lookup (tgt := 91) dX11_ask_1 (by decide) (lo_cons (v := (10 : Int32)) (by decide) hc1715 (lo_hit (v := (11 : Int32)) (by decide) hc1716)) (by decide) ?_
    refine r_aload_n 0 dX11_ask_91 rfl ?_
    obtain ⟨r1724, hc1725, h⟩ := ob (fun z9 => z9) rfl h
    refine c_V (rest := []) 0 0 _ dX11_ask_92 kv_X11_159 (ct_M_liarsNow hc1725) rfl rfl lM_0 rfl (Nat.le_of_ble_eq_true rfl) (by decide) (by decide) ?_
    refine r_iret dX11_ask_95 rfl ?_
    have h := Option.some.inj (show some _ = some o from h)
    subst h
    exact hq
  have h := iq (fun z9 => z9) hc1716 h
  by_cases hc1717 : p1 = (12 : Int32)
  · have h := ip (fun z9 => z9) hc1717 h
    refine r_lookup (tgt := 96) dX11_ask_1 (by decide) (lo_cons (v := (10 : Int32)) (by decide) hc1715 (lo_cons (v := (11 : Int32)) (by decide) hc1716 (lo_hit (v := (12 : Int32)) (by decide) hc1717))) (by decide) ?_
    refine r_aload_n 0 dX11_ask_96 rfl ?_
    refine r_aload_n 0 dX11_ask_97 rfl ?_
    refine c_V (rest := [.ref (am 0)]) 0 0 _ dX11_ask_98 kv_X11_91 (ct_M_believed rfl) rfl rfl lM_0 rfl (Nat.le_of_ble_eq_true rfl) (by decide) (by decide) ?_
    obtain ⟨r1726, hc1727, h⟩ := ob (fun z9 => z9) rfl h
    refine c_V (rest := []) 0 0 _ dX11_ask_101 kv_X11_162 (ct_M_pairsNow hc1727) rfl rfl lM_0 rfl (Nat.le_of_ble_eq_true rfl) (by decide) (by decide) ?_
    refine r_iret dX11_ask_104 rfl ?_
    have h := Option.some.inj (show some _ = some o from h)
    subst h
    exact hq
  have h := iq (fun z9 => z9) hc1717 h
  by_cases hc1718 : p1 = (13 : Int32)
  · have h := ip (fun z9 => z9) hc1718 h
    refine r_lookup (tgt := 105) dX11_ask_1 (by decide) (lo_cons (v := (10 : Int32)) (by decide) hc1715 (lo_cons (v := (11 : Int32)) (by decide) hc1716 (lo_cons (v := (12 : Int32)) (by decide) hc1717 (lo_hit (v := (13 : Int32)) (by decide) hc1718)))) (by decide) ?_
    refine r_aload_n 0 dX11_ask_105 rfl ?_
    refine r_getf (v := .int M_doubted) _ dX11_ask_106 fl_X11_85 lM_0 rfl ?_
    refine r_iload_n 2 dX11_ask_109 rfl ?_
    refine c_S (rest := []) 0 0 dX11_ask_110 ks_X11_88 (ct_M_has rfl) rfl rfl (Nat.le_of_ble_eq_true rfl) (by decide) (by decide) ?_
    refine c_S (rest := []) 0 0 dX11_ask_113 ks_X11_165 (ct_M_one rfl) rfl rfl (Nat.le_of_ble_eq_true rfl) (by decide) (by decide) ?_
    refine r_iret dX11_ask_116 rfl ?_
    have h := Option.some.inj (show some _ = some o from h)
    subst h
    exact hq
  have h := iq (fun z9 => z9) hc1718 h
  by_cases hc1719 : p1 = (14 : Int32)
  · have h := ip (fun z9 => z9) hc1719 h
    refine r_lookup (tgt := 117) dX11_ask_1 (by decide) (lo_cons (v := (10 : Int32)) (by decide) hc1715 (lo_cons (v := (11 : Int32)) (by decide) hc1716 (lo_cons (v := (12 : Int32)) (by decide) hc1717 (lo_cons (v := (13 : Int32)) (by decide) hc1718 (lo_hit (v := (14 : Int32)) (by decide) hc1719))))) (by decide) ?_
    refine r_aload_n 0 dX11_ask_117 rfl ?_
    refine r_iload_n 2 dX11_ask_118 rfl ?_
    obtain ⟨r1728, hc1729, h⟩ := ob (fun z9 => z9) rfl h
    refine c_V (rest := []) 0 0 _ dX11_ask_119 kv_X11_169 (ct_M_claimsBy hc1729) rfl rfl lM_0 rfl (Nat.le_of_ble_eq_true rfl) (by decide) (by decide) ?_
    refine r_iret dX11_ask_122 rfl ?_
    have h := Option.some.inj (show some _ = some o from h)
    subst h
    exact hq
  have h := iq (fun z9 => z9) hc1719 h
  by_cases hc1720 : p1 = (15 : Int32)
  · have h := ip (fun z9 => z9) hc1720 h
    refine r_lookup (tgt := 123) dX11_ask_1 (by decide) (lo_cons (v := (10 : Int32)) (by decide) hc1715 (lo_cons (v := (11 : Int32)) (by decide) hc1716 (lo_cons (v := (12 : Int32)) (by decide) hc1717 (lo_cons (v := (13 : Int32)) (by decide) hc1718 (lo_cons (v := (14 : Int32)) (by decide) hc1719 (lo_hit (v := (15 : Int32)) (by decide) hc1720)))))) (by decide) ?_
    refine r_aload_n 0 dX11_ask_123 rfl ?_
    refine r_iload_n 2 dX11_ask_124 rfl ?_
    obtain ⟨r1730, hc1731, h⟩ := ob (fun z9 => z9) rfl h
    refine c_V (rest := []) 0 0 _ dX11_ask_125 kv_X11_172 (ct_M_hours hc1731) rfl rfl lM_0 rfl (Nat.le_of_ble_eq_true rfl) (by decide) (by decide) ?_
    refine r_iret dX11_ask_128 rfl ?_
    have h := Option.some.inj (show some _ = some o from h)
    subst h
    exact hq
  have h := iq (fun z9 => z9) hc1720 h
  by_cases hc1721 : p1 = (17 : Int32)
  · have h := ip (fun z9 => z9) hc1721 h
    refine r_lookup (tgt := 129) dX11_ask_1 (by decide) (lo_cons (v := (10 : Int32)) (by decide) hc1715 (lo_cons (v := (11 : Int32)) (by decide) hc1716 (lo_cons (v := (12 : Int32)) (by decide) hc1717 (lo_cons (v := (13 : Int32)) (by decide) hc1718 (lo_cons (v := (14 : Int32)) (by decide) hc1719 (lo_cons (v := (15 : Int32)) (by decide) hc1720 (lo_hit (v := (17 : Int32)) (by decide) hc1721))))))) (by decide) ?_
    refine r_aload_n 0 dX11_ask_129 rfl ?_
    refine r_iload_n 2 dX11_ask_130 rfl ?_
    refine r_iload_n 3 dX11_ask_131 rfl ?_
    obtain ⟨r1732, hc1733, h⟩ := ob (fun z9 => z9) rfl h
    refine c_V (rest := []) 0 0 _ dX11_ask_132 kv_X11_175 (ct_M_doContradictNow hc1733) rfl rfl lM_0 rfl (Nat.le_of_ble_eq_true rfl) (by decide) (by decide) ?_
    refine c_S (rest := []) 0 0 dX11_ask_135 ks_X11_165 (ct_M_one rfl) rfl rfl (Nat.le_of_ble_eq_true rfl) (by decide) (by decide) ?_
    refine r_iret dX11_ask_138 rfl ?_
    have h := Option.some.inj (show some _ = some o from h)
    subst h
    exact hq
  have h := iq (fun z9 => z9) hc1721 h
  by_cases hc1722 : p1 = (18 : Int32)
  · have h := ip (fun z9 => z9) hc1722 h
    refine r_lookup (tgt := 139) dX11_ask_1 (by decide) (lo_cons (v := (10 : Int32)) (by decide) hc1715 (lo_cons (v := (11 : Int32)) (by decide) hc1716 (lo_cons (v := (12 : Int32)) (by decide) hc1717 (lo_cons (v := (13 : Int32)) (by decide) hc1718 (lo_cons (v := (14 : Int32)) (by decide) hc1719 (lo_cons (v := (15 : Int32)) (by decide) hc1720 (lo_cons (v := (17 : Int32)) (by decide) hc1721 (lo_hit (v := (18 : Int32)) (by decide) hc1722)))))))) (by decide) ?_
    refine r_aload_n 0 dX11_ask_139 rfl ?_
    refine r_iload_n 2 dX11_ask_140 rfl ?_
    obtain ⟨r1734, hc1735, h⟩ := ob (fun z9 => z9) rfl h
    refine c_V (rest := []) 0 0 _ dX11_ask_141 kv_X11_178 (ct_M_lies hc1735) rfl rfl lM_0 rfl (Nat.le_of_ble_eq_true rfl) (by decide) (by decide) ?_
    refine c_S (rest := []) 0 0 dX11_ask_144 ks_X11_165 (ct_M_one rfl) rfl rfl (Nat.le_of_ble_eq_true rfl) (by decide) (by decide) ?_
    refine r_iret dX11_ask_147 rfl ?_
    have h := Option.some.inj (show some _ = some o from h)
    subst h
    exact hq
  have h := iq (fun z9 => z9) hc1722 h
  by_cases hc1723 : p1 = (100 : Int32)
  · have h := ip (fun z9 => z9) hc1723 h
    refine r_lookup (tgt := 84) dX11_ask_1 (by decide) (lo_cons (v := (10 : Int32)) (by decide) hc1715 (lo_cons (v := (11 : Int32)) (by decide) hc1716 (lo_cons (v := (12 : Int32)) (by decide) hc1717 (lo_cons (v := (13 : Int32)) (by decide) hc1718 (lo_cons (v := (14 : Int32)) (by decide) hc1719 (lo_cons (v := (15 : Int32)) (by decide) hc1720 (lo_cons (v := (17 : Int32)) (by decide) hc1721 (lo_cons (v := (18 : Int32)) (by decide) hc1722 (lo_hit (v := (100 : Int32)) (by decide) hc1723))))))))) (by decide) ?_
    refine r_iload_n 2 dX11_ask_84 rfl ?_
    refine r_iret dX11_ask_85 rfl ?_
    have h := Option.some.inj (show some _ = some o from h)
    subst h
    exact hq
  have h := iq (fun z9 => z9) hc1723 h
  refine r_lookup (tgt := 148) (off := 147) dX11_ask_1 (by decide) (lo_cons (v := (10 : Int32)) (by decide) hc1715 (lo_cons (v := (11 : Int32)) (by decide) hc1716 (lo_cons (v := (12 : Int32)) (by decide) hc1717 (lo_cons (v := (13 : Int32)) (by decide) hc1718 (lo_cons (v := (14 : Int32)) (by decide) hc1719 (lo_cons (v := (15 : Int32)) (by decide) hc1720 (lo_cons (v := (17 : Int32)) (by decide) hc1721 (lo_cons (v := (18 : Int32)) (by decide) hc1722 (lo_cons (v := (100 : Int32)) (by decide) hc1723 rfl))))))))) (by decide) ?_
  refine r_aload_n 0 dX11_ask_148 rfl ?_
  refine r_iload_n 2 dX11_ask_149 rfl ?_
  obtain ⟨r1736, hc1737, h⟩ := ob (fun z9 => z9) rfl h
  refine c_V (rest := []) 0 0 _ dX11_ask_150 kv_X11_172 (ct_M_hours hc1737) rfl rfl lM_0 rfl (Nat.le_of_ble_eq_true rfl) (by decide) (by decide) ?_
  refine r_if_le (tgt := 160) dX11_ask_153 (by decide) (fun hc1738 => ?_) (fun hc1738 => ?_)
  · have h := ip (fun z9 => z9) hc1738 h
    refine r_iconst (v := (0 : Int32)) dX11_ask_160 (by decide) ?_
    refine c_S (rest := []) 0 0 dX11_ask_161 ks_X11_165 (ct_M_one rfl) rfl rfl (Nat.le_of_ble_eq_true rfl) (by decide) (by decide) ?_
    refine r_iret dX11_ask_164 rfl ?_
    have h := Option.some.inj (show some _ = some o from h)
    subst h
    exact hq
  · have h := iq (fun z9 => z9) hc1738 h
    refine r_iconst (v := (1 : Int32)) dX11_ask_156 (by decide) ?_
    refine r_goto (tgt := 161) dX11_ask_157 (by decide) ?_
    refine c_S (rest := []) 0 0 dX11_ask_161 ks_X11_165 (ct_M_one rfl) rfl rfl (Nat.le_of_ble_eq_true rfl) (by decide) (by decide) ?_
    refine r_iret dX11_ask_164 rfl ?_
    have h := Option.some.inj (show some _ = some o from h)
    subst h
    exact hq
theorem ct_M_ask {g : GG} {am : Nat → Nat} {ap : Nat → Nat} {t : va_W} {m0 m1 m2 m3 m4 m5 m8 u0 u3 u4 : Int32} {m13 m14 m15 m16 m18 m20 m21 u12 u13 u14 u15 u16 u17 u18 : Nat → Int32} {m17 u5 u6 : Nat → Int64} {N : Nat} {M_doubted : Int32} {M_evenings : Int32} {M_looked : Int32} {M_lying : Int32} {M_fewest : Int32} {M_sets : Int32} {M_against : Nat → Int32} {P_tellers : Int32} {P_claims : Int32} {P_kind : Nat → Int32} {P_by : Nat → Int32} {P_of : Nat → Int32} {P_other : Nat → Int32} {P_last : Nat → Int32} {p1 : Int32} {p2 : Int32} {p3 : Int32} {o : Int32 × Int32 × Int32 × Int32 × Int32} (h : f_M_ask N M_doubted M_evenings M_looked M_lying M_fewest M_sets M_against P_tellers P_claims P_kind P_by P_of P_other P_last p1 p2 p3 = some o) : Ct g mX11_ask 5 0 0 [.ref (am 0), .int p1, .int p2, .int p3] (wlM g am (ap 0) m0 m1 m2 m3 m4 m5 M_doubted M_evenings m8 M_looked M_lying M_fewest M_sets m13 m14 m15 m16 m17 m18 M_against m20 m21 ++ (wlP g ap u0 P_tellers P_claims u3 u4 u5 u6 P_kind P_by P_of P_other P_last u12 u13 u14 u15 u16 u17 u18 ++ t)) (Dv (some (.int o.1)) (wlM g am (ap 0) m0 m1 m2 m3 m4 m5 M_doubted M_evenings m8 o.2.1 o.2.2.1 o.2.2.2.1 o.2.2.2.2 m13 m14 m15 m16 m17 m18 M_against m20 m21 ++ (wlP g ap u0 P_tellers P_claims u3 u4 u5 u6 P_kind P_by P_of P_other P_last u12 u13 u14 u15 u16 u17 u18 ++ t))) := Ct.ofR (by decide +kernel) rfl (Nat.le_of_ble_eq_true rfl) (rt_M_ask h ⟨rfl, rfl⟩)
