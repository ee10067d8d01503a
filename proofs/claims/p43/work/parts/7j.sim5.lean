set_option maxRecDepth 20000 in
set_option maxHeartbeats 4000000 in
theorem cl_two {g : GG} {t : va_W} {a kd n o : Nat} {va vb : Value} {x y : Int32} (ho : (a, .inr (11, [.int (nI kd), .int (nI n), .int (nI o), va, vb])) ∈ t) (hk : kd = 7 ∨ kd = 8 ∨ kd = 9 ∨ kd = 10 ∨ kd = 11 ∨ kd = 12 ∨ kd = 20 ∨ kd = 21 ∨ kd = 22 ∨ kd = 23 ∨ kd = 24 ∨ kd = 30 ∨ kd = 31) : Ct g mX11_ofTwo 1 0 0 [.ref a, .int x, .int y] t (Dv (some (.int (o2 kd x y))) t) := by
  refine Ct.ofR (by decide +kernel) rfl (Nat.le_of_ble_eq_true rfl) ?_
  show R g mX11_ofTwo 1 0 0 0 [(0, .ref a), (1, .int x), (2, .int y)] [] t _
  rcases hk with rfl | rfl | rfl | rfl | rfl | rfl | rfl | rfl | rfl | rfl | rfl | rfl | rfl
  · show R g mX11_ofTwo 1 0 0 0 [(0, .ref a), (1, .int x), (2, .int y)] [] t _
    refine r_aload_n 0 dX11_ofTwo_0 rfl ?_
    refine r_getm (v := .int (nI 7)) (ci := 11) (fs := [.int (nI 7), .int (nI n), .int (nI o), va, vb]) dX11_ofTwo_1 fl_X11_7 ho rfl ?_
    refine r_tableIn (off := 112) (tgt := 116) dX11_ofTwo_4 (by decide) (by decide) (by decide) (by decide) ?_
    refine r_iload_n 1 dX11_ofTwo_116 rfl ?_
    refine r_iload_n 2 dX11_ofTwo_117 rfl ?_
    refine r_iadd dX11_ofTwo_118 ?_
    refine r_iret dX11_ofTwo_119 rfl ?_
    exact ⟨rfl, rfl⟩
  · show R g mX11_ofTwo 1 0 0 0 [(0, .ref a), (1, .int x), (2, .int y)] [] t _
    refine r_aload_n 0 dX11_ofTwo_0 rfl ?_
    refine r_getm (v := .int (nI 8)) (ci := 11) (fs := [.int (nI 8), .int (nI n), .int (nI o), va, vb]) dX11_ofTwo_1 fl_X11_7 ho rfl ?_
    refine r_tableIn (off := 116) (tgt := 120) dX11_ofTwo_4 (by decide) (by decide) (by decide) (by decide) ?_
    refine r_iload_n 1 dX11_ofTwo_120 rfl ?_
    refine r_iload_n 2 dX11_ofTwo_121 rfl ?_
    refine r_isub dX11_ofTwo_122 ?_
    refine r_iret dX11_ofTwo_123 rfl ?_
    exact ⟨rfl, rfl⟩
  · show R g mX11_ofTwo 1 0 0 0 [(0, .ref a), (1, .int x), (2, .int y)] [] t _
    refine r_aload_n 0 dX11_ofTwo_0 rfl ?_
    refine r_getm (v := .int (nI 9)) (ci := 11) (fs := [.int (nI 9), .int (nI n), .int (nI o), va, vb]) dX11_ofTwo_1 fl_X11_7 ho rfl ?_
    refine r_tableIn (off := 120) (tgt := 124) dX11_ofTwo_4 (by decide) (by decide) (by decide) (by decide) ?_
    refine r_iload_n 1 dX11_ofTwo_124 rfl ?_
    refine r_iload_n 2 dX11_ofTwo_125 rfl ?_
    refine r_imul dX11_ofTwo_126 ?_
    refine r_iret dX11_ofTwo_127 rfl ?_
    exact ⟨rfl, rfl⟩
  · show R g mX11_ofTwo 1 0 0 0 [(0, .ref a), (1, .int x), (2, .int y)] [] t _
    refine r_aload_n 0 dX11_ofTwo_0 rfl ?_
    refine r_getm (v := .int (nI 10)) (ci := 11) (fs := [.int (nI 10), .int (nI n), .int (nI o), va, vb]) dX11_ofTwo_1 fl_X11_7 ho rfl ?_
    refine r_tableIn (off := 124) (tgt := 128) dX11_ofTwo_4 (by decide) (by decide) (by decide) (by decide) ?_
    refine r_iload_n 2 dX11_ofTwo_128 rfl ?_
    refine r_if_ne (tgt := 136) dX11_ofTwo_129 (by decide) (fun h1 => ?_) (fun h1 => ?_)
    · refine r_iload_n 2 dX11_ofTwo_136 rfl ?_
      refine r_iconst (v := (-1 : Int32)) dX11_ofTwo_137 (by decide) ?_
      refine r_icmp_ne (tgt := 146) dX11_ofTwo_138 (by decide) (fun h2 => ?_) (fun h2 => ?_)
      · refine r_iload_n 1 dX11_ofTwo_146 rfl ?_
        refine r_iload_n 2 dX11_ofTwo_147 rfl ?_
        refine r_idiv dX11_ofTwo_148 (h1) ?_
        refine r_iret dX11_ofTwo_149 rfl ?_
        exact ⟨congrArg (fun q => Sum.inl (some (Value.int q))) (show _ = o2 10 x y from by show _ = (if y = 0 then _ else _); rw [if_neg h1, if_neg h2]), rfl⟩
      · refine r_iload_n 1 dX11_ofTwo_141 rfl ?_
        refine r_ineg dX11_ofTwo_142 ?_
        refine r_goto (tgt := 149) dX11_ofTwo_143 (by decide) ?_
        refine r_iret dX11_ofTwo_149 rfl ?_
        exact ⟨congrArg (fun q => Sum.inl (some (Value.int q))) (show _ = o2 10 x y from by show _ = (if y = 0 then _ else _); rw [if_neg h1, if_pos h2]), rfl⟩
    · refine r_iconst (v := (0 : Int32)) dX11_ofTwo_132 (by decide) ?_
      refine r_goto (tgt := 149) dX11_ofTwo_133 (by decide) ?_
      refine r_iret dX11_ofTwo_149 rfl ?_
      exact ⟨congrArg (fun q => Sum.inl (some (Value.int q))) (show _ = o2 10 x y from by show _ = (if y = 0 then _ else _); rw [if_pos h1]), rfl⟩
  · show R g mX11_ofTwo 1 0 0 0 [(0, .ref a), (1, .int x), (2, .int y)] [] t _
    refine r_aload_n 0 dX11_ofTwo_0 rfl ?_
    refine r_getm (v := .int (nI 11)) (ci := 11) (fs := [.int (nI 11), .int (nI n), .int (nI o), va, vb]) dX11_ofTwo_1 fl_X11_7 ho rfl ?_
    refine r_tableIn (off := 146) (tgt := 150) dX11_ofTwo_4 (by decide) (by decide) (by decide) (by decide) ?_
    refine r_iload_n 1 dX11_ofTwo_150 rfl ?_
    refine r_iload_n 2 dX11_ofTwo_151 rfl ?_
    refine r_icmp_ge (tgt := 159) dX11_ofTwo_152 (by decide) (fun h1 => ?_) (fun h1 => ?_)
    · refine r_iload_n 2 dX11_ofTwo_159 rfl ?_
      refine r_iret dX11_ofTwo_160 rfl ?_
      exact ⟨congrArg (fun q => Sum.inl (some (Value.int q))) (show _ = o2 11 x y from by show _ = (if x < y then _ else _); rw [if_neg (Int32.not_lt.mpr h1)]), rfl⟩
    · refine r_iload_n 1 dX11_ofTwo_155 rfl ?_
      refine r_goto (tgt := 160) dX11_ofTwo_156 (by decide) ?_
      refine r_iret dX11_ofTwo_160 rfl ?_
      exact ⟨congrArg (fun q => Sum.inl (some (Value.int q))) (show _ = o2 11 x y from by show _ = (if x < y then _ else _); rw [if_pos (Int32.not_le.mp h1)]), rfl⟩
  · show R g mX11_ofTwo 1 0 0 0 [(0, .ref a), (1, .int x), (2, .int y)] [] t _
    refine r_aload_n 0 dX11_ofTwo_0 rfl ?_
    refine r_getm (v := .int (nI 12)) (ci := 11) (fs := [.int (nI 12), .int (nI n), .int (nI o), va, vb]) dX11_ofTwo_1 fl_X11_7 ho rfl ?_
    refine r_tableIn (off := 157) (tgt := 161) dX11_ofTwo_4 (by decide) (by decide) (by decide) (by decide) ?_
    refine r_iload_n 1 dX11_ofTwo_161 rfl ?_
    refine r_iload_n 2 dX11_ofTwo_162 rfl ?_
    refine r_icmp_ge (tgt := 170) dX11_ofTwo_163 (by decide) (fun h1 => ?_) (fun h1 => ?_)
    · refine r_iload_n 1 dX11_ofTwo_170 rfl ?_
      refine r_iret dX11_ofTwo_171 rfl ?_
      exact ⟨congrArg (fun q => Sum.inl (some (Value.int q))) (show _ = o2 12 x y from by show _ = (if x < y then _ else _); rw [if_neg (Int32.not_lt.mpr h1)]), rfl⟩
    · refine r_iload_n 2 dX11_ofTwo_166 rfl ?_
      refine r_goto (tgt := 171) dX11_ofTwo_167 (by decide) ?_
      refine r_iret dX11_ofTwo_171 rfl ?_
      exact ⟨congrArg (fun q => Sum.inl (some (Value.int q))) (show _ = o2 12 x y from by show _ = (if x < y then _ else _); rw [if_pos (Int32.not_le.mp h1)]), rfl⟩
  · show R g mX11_ofTwo 1 0 0 0 [(0, .ref a), (1, .int x), (2, .int y)] [] t _
    refine r_aload_n 0 dX11_ofTwo_0 rfl ?_
    refine r_getm (v := .int (nI 20)) (ci := 11) (fs := [.int (nI 20), .int (nI n), .int (nI o), va, vb]) dX11_ofTwo_1 fl_X11_7 ho rfl ?_
    refine r_tableIn (off := 168) (tgt := 172) dX11_ofTwo_4 (by decide) (by decide) (by decide) (by decide) ?_
    refine r_iload_n 1 dX11_ofTwo_172 rfl ?_
    refine r_iload_n 2 dX11_ofTwo_173 rfl ?_
    refine r_icmp_ge (tgt := 181) dX11_ofTwo_174 (by decide) (fun h1 => ?_) (fun h1 => ?_)
    · refine r_iconst (v := (0 : Int32)) dX11_ofTwo_181 (by decide) ?_
      refine r_iret dX11_ofTwo_182 rfl ?_
      exact ⟨congrArg (fun q => Sum.inl (some (Value.int q))) (show _ = o2 20 x y from by show _ = bI (decide (x < y)); rw [decide_eq_false (Int32.not_lt.mpr h1)]; rfl), rfl⟩
    · refine r_iconst (v := (1 : Int32)) dX11_ofTwo_177 (by decide) ?_
      refine r_goto (tgt := 182) dX11_ofTwo_178 (by decide) ?_
      refine r_iret dX11_ofTwo_182 rfl ?_
      exact ⟨congrArg (fun q => Sum.inl (some (Value.int q))) (show _ = o2 20 x y from by show _ = bI (decide (x < y)); rw [decide_eq_true (Int32.not_le.mp h1)]; rfl), rfl⟩
  · show R g mX11_ofTwo 1 0 0 0 [(0, .ref a), (1, .int x), (2, .int y)] [] t _
    refine r_aload_n 0 dX11_ofTwo_0 rfl ?_
    refine r_getm (v := .int (nI 21)) (ci := 11) (fs := [.int (nI 21), .int (nI n), .int (nI o), va, vb]) dX11_ofTwo_1 fl_X11_7 ho rfl ?_
    refine r_tableIn (off := 179) (tgt := 183) dX11_ofTwo_4 (by decide) (by decide) (by decide) (by decide) ?_
    refine r_iload_n 1 dX11_ofTwo_183 rfl ?_
    refine r_iload_n 2 dX11_ofTwo_184 rfl ?_
    refine r_icmp_le (tgt := 192) dX11_ofTwo_185 (by decide) (fun h1 => ?_) (fun h1 => ?_)
    · refine r_iconst (v := (0 : Int32)) dX11_ofTwo_192 (by decide) ?_
      refine r_iret dX11_ofTwo_193 rfl ?_
      exact ⟨congrArg (fun q => Sum.inl (some (Value.int q))) (show _ = o2 21 x y from by show _ = bI (decide (y < x)); rw [decide_eq_false (Int32.not_lt.mpr h1)]; rfl), rfl⟩
    · refine r_iconst (v := (1 : Int32)) dX11_ofTwo_188 (by decide) ?_
      refine r_goto (tgt := 193) dX11_ofTwo_189 (by decide) ?_
      refine r_iret dX11_ofTwo_193 rfl ?_
      exact ⟨congrArg (fun q => Sum.inl (some (Value.int q))) (show _ = o2 21 x y from by show _ = bI (decide (y < x)); rw [decide_eq_true (Int32.not_le.mp h1)]; rfl), rfl⟩
  · show R g mX11_ofTwo 1 0 0 0 [(0, .ref a), (1, .int x), (2, .int y)] [] t _
    refine r_aload_n 0 dX11_ofTwo_0 rfl ?_
    refine r_getm (v := .int (nI 22)) (ci := 11) (fs := [.int (nI 22), .int (nI n), .int (nI o), va, vb]) dX11_ofTwo_1 fl_X11_7 ho rfl ?_
    refine r_tableIn (off := 190) (tgt := 194) dX11_ofTwo_4 (by decide) (by decide) (by decide) (by decide) ?_
    refine r_iload_n 1 dX11_ofTwo_194 rfl ?_
    refine r_iload_n 2 dX11_ofTwo_195 rfl ?_
    refine r_icmp_ne (tgt := 203) dX11_ofTwo_196 (by decide) (fun h1 => ?_) (fun h1 => ?_)
    · refine r_iconst (v := (0 : Int32)) dX11_ofTwo_203 (by decide) ?_
      refine r_iret dX11_ofTwo_204 rfl ?_
      exact ⟨congrArg (fun q => Sum.inl (some (Value.int q))) (show _ = o2 22 x y from by show _ = bI (decide (x = y)); rw [decide_eq_false h1]; rfl), rfl⟩
    · refine r_iconst (v := (1 : Int32)) dX11_ofTwo_199 (by decide) ?_
      refine r_goto (tgt := 204) dX11_ofTwo_200 (by decide) ?_
      refine r_iret dX11_ofTwo_204 rfl ?_
      exact ⟨congrArg (fun q => Sum.inl (some (Value.int q))) (show _ = o2 22 x y from by show _ = bI (decide (x = y)); rw [decide_eq_true h1]; rfl), rfl⟩
  · show R g mX11_ofTwo 1 0 0 0 [(0, .ref a), (1, .int x), (2, .int y)] [] t _
    refine r_aload_n 0 dX11_ofTwo_0 rfl ?_
    refine r_getm (v := .int (nI 23)) (ci := 11) (fs := [.int (nI 23), .int (nI n), .int (nI o), va, vb]) dX11_ofTwo_1 fl_X11_7 ho rfl ?_
    refine r_tableIn (off := 201) (tgt := 205) dX11_ofTwo_4 (by decide) (by decide) (by decide) (by decide) ?_
    refine r_iload_n 1 dX11_ofTwo_205 rfl ?_
    refine r_iload_n 2 dX11_ofTwo_206 rfl ?_
    refine r_icmp_le (tgt := 214) dX11_ofTwo_207 (by decide) (fun h1 => ?_) (fun h1 => ?_)
    · refine r_iconst (v := (1 : Int32)) dX11_ofTwo_214 (by decide) ?_
      refine r_iret dX11_ofTwo_215 rfl ?_
      exact ⟨congrArg (fun q => Sum.inl (some (Value.int q))) (show _ = o2 23 x y from by show _ = bI (!decide (y < x)); rw [decide_eq_false (Int32.not_lt.mpr h1)]; rfl), rfl⟩
    · refine r_iconst (v := (0 : Int32)) dX11_ofTwo_210 (by decide) ?_
      refine r_goto (tgt := 215) dX11_ofTwo_211 (by decide) ?_
      refine r_iret dX11_ofTwo_215 rfl ?_
      exact ⟨congrArg (fun q => Sum.inl (some (Value.int q))) (show _ = o2 23 x y from by show _ = bI (!decide (y < x)); rw [decide_eq_true (Int32.not_le.mp h1)]; rfl), rfl⟩
  · show R g mX11_ofTwo 1 0 0 0 [(0, .ref a), (1, .int x), (2, .int y)] [] t _
    refine r_aload_n 0 dX11_ofTwo_0 rfl ?_
    refine r_getm (v := .int (nI 24)) (ci := 11) (fs := [.int (nI 24), .int (nI n), .int (nI o), va, vb]) dX11_ofTwo_1 fl_X11_7 ho rfl ?_
    refine r_tableIn (off := 212) (tgt := 216) dX11_ofTwo_4 (by decide) (by decide) (by decide) (by decide) ?_
    refine r_iload_n 1 dX11_ofTwo_216 rfl ?_
    refine r_iload_n 2 dX11_ofTwo_217 rfl ?_
    refine r_icmp_ge (tgt := 225) dX11_ofTwo_218 (by decide) (fun h1 => ?_) (fun h1 => ?_)
    · refine r_iconst (v := (1 : Int32)) dX11_ofTwo_225 (by decide) ?_
      refine r_iret dX11_ofTwo_226 rfl ?_
      exact ⟨congrArg (fun q => Sum.inl (some (Value.int q))) (show _ = o2 24 x y from by show _ = bI (!decide (x < y)); rw [decide_eq_false (Int32.not_lt.mpr h1)]; rfl), rfl⟩
    · refine r_iconst (v := (0 : Int32)) dX11_ofTwo_221 (by decide) ?_
      refine r_goto (tgt := 226) dX11_ofTwo_222 (by decide) ?_
      refine r_iret dX11_ofTwo_226 rfl ?_
      exact ⟨congrArg (fun q => Sum.inl (some (Value.int q))) (show _ = o2 24 x y from by show _ = bI (!decide (x < y)); rw [decide_eq_true (Int32.not_le.mp h1)]; rfl), rfl⟩
  · show R g mX11_ofTwo 1 0 0 0 [(0, .ref a), (1, .int x), (2, .int y)] [] t _
    refine r_aload_n 0 dX11_ofTwo_0 rfl ?_
    refine r_getm (v := .int (nI 30)) (ci := 11) (fs := [.int (nI 30), .int (nI n), .int (nI o), va, vb]) dX11_ofTwo_1 fl_X11_7 ho rfl ?_
    refine r_tableIn (off := 223) (tgt := 227) dX11_ofTwo_4 (by decide) (by decide) (by decide) (by decide) ?_
    refine r_iload_n 1 dX11_ofTwo_227 rfl ?_
    refine r_iload_n 2 dX11_ofTwo_228 rfl ?_
    refine r_iadd dX11_ofTwo_229 ?_
    refine r_iconst (v := (2 : Int32)) dX11_ofTwo_230 (by decide) ?_
    refine r_icmp_ne (tgt := 238) dX11_ofTwo_231 (by decide) (fun h1 => ?_) (fun h1 => ?_)
    · refine r_iconst (v := (0 : Int32)) dX11_ofTwo_238 (by decide) ?_
      refine r_iret dX11_ofTwo_239 rfl ?_
      exact ⟨congrArg (fun q => Sum.inl (some (Value.int q))) (show _ = o2 30 x y from by show _ = bI (decide (x + y = 2)); rw [decide_eq_false h1]; rfl), rfl⟩
    · refine r_iconst (v := (1 : Int32)) dX11_ofTwo_234 (by decide) ?_
      refine r_goto (tgt := 239) dX11_ofTwo_235 (by decide) ?_
      refine r_iret dX11_ofTwo_239 rfl ?_
      exact ⟨congrArg (fun q => Sum.inl (some (Value.int q))) (show _ = o2 30 x y from by show _ = bI (decide (x + y = 2)); rw [decide_eq_true h1]; rfl), rfl⟩
  · show R g mX11_ofTwo 1 0 0 0 [(0, .ref a), (1, .int x), (2, .int y)] [] t _
    refine r_aload_n 0 dX11_ofTwo_0 rfl ?_
    refine r_getm (v := .int (nI 31)) (ci := 11) (fs := [.int (nI 31), .int (nI n), .int (nI o), va, vb]) dX11_ofTwo_1 fl_X11_7 ho rfl ?_
    refine r_tableOut (tgt := 240) dX11_ofTwo_4 (by decide) (by decide) ?_
    refine r_iload_n 1 dX11_ofTwo_240 rfl ?_
    refine r_iload_n 2 dX11_ofTwo_241 rfl ?_
    refine r_iadd dX11_ofTwo_242 ?_
    refine r_if_le (tgt := 250) dX11_ofTwo_243 (by decide) (fun h1 => ?_) (fun h1 => ?_)
    · refine r_iconst (v := (0 : Int32)) dX11_ofTwo_250 (by decide) ?_
      refine r_iret dX11_ofTwo_251 rfl ?_
      exact ⟨congrArg (fun q => Sum.inl (some (Value.int q))) (show _ = o2 31 x y from by show _ = bI (decide (0 < x + y)); rw [decide_eq_false (Int32.not_lt.mpr h1)]; rfl), rfl⟩
    · refine r_iconst (v := (1 : Int32)) dX11_ofTwo_246 (by decide) ?_
      refine r_goto (tgt := 251) dX11_ofTwo_247 (by decide) ?_
      refine r_iret dX11_ofTwo_251 rfl ?_
      exact ⟨congrArg (fun q => Sum.inl (some (Value.int q))) (show _ = o2 31 x y from by show _ = bI (decide (0 < x + y)); rw [decide_eq_true (Int32.not_le.mp h1)]; rfl), rfl⟩
set_option maxRecDepth 20000 in
set_option maxHeartbeats 4000000 in
theorem cl_of {g : GG} {s aC aD aO aT ne nt : Nat} {ev cr : Int32} {ca : List Nat} {cl : List (Nat → Int32)} {d : Nat} (hV : CV ne nt ca cl) (hn : nt ≤ 6) (hne : ne ≤ 8) (hd0 : 0 < nt) : ∀ k (T : TT k) (t : va_W), TM g t k T → SimM g t s aC aD aO aT ne nt ev cr ca cl d → (TE ne nt k T ∨ TB ne nt k T) → Ct g mX11_of (k + 9) (20 * 2 ^ k) (200 * 2 ^ k) [.ref (tA k T), .ref s] t (Dv (some (.int (vlE cl d nt ev k T))) t)
  | 0, T, _, _, _, _ => nomatch T
  | k + 1, ((a, kd, n, o), ta, tb), t, hT, hS, hk => by
    refine Ct.ofR (by decide +kernel) rfl (Nat.le_of_ble_eq_true rfl) ?_
    obtain ⟨ho, hma, hmb⟩ := hT
    have hp : 2 ^ (k + 1) = 2 ^ k + 2 ^ k := by rw [Nat.pow_succ]; omega
    have hp1 : 0 < 2 ^ k := Nat.two_pow_pos k
    change (a, .inr (11, [.int (nI kd), .int (nI n), .int (nI o), tv k ta, tv k tb])) ∈ t at ho
    show R g mX11_of (k + 1 + 9) (20 * 2 ^ (k + 1)) (200 * 2 ^ (k + 1)) 0 [(0, .ref a), (1, .ref s)] [] t (Dv (some (.int (vlE cl d nt ev (k + 1) ((a, kd, n, o), ta, tb)))) t)
    have kids : (kd = 0 ∧ n < 1000000) ∨ kd = 1 ∨ kd = 2 ∨ kd = 3 ∨ (kd = 4 ∧ n < nt) ∨ (kd = 5 ∧ n < ne) ∨ ((kd = 6 ∨ kd = 29) ∧ ∃ x, ta = some x ∧ (TE ne nt k x ∨ TB ne nt k x)) ∨ ((kd = 7 ∨ kd = 8 ∨ kd = 9 ∨ kd = 10 ∨ kd = 11 ∨ kd = 12 ∨ kd = 20 ∨ kd = 21 ∨ kd = 22 ∨ kd = 23 ∨ kd = 24 ∨ kd = 30 ∨ kd = 31) ∧ ∃ x y, ta = some x ∧ tb = some y ∧ (TE ne nt k x ∨ TB ne nt k x) ∧ (TE ne nt k y ∨ TB ne nt k y)) ∨ (kd = 25 ∧ n < nt ∧ o < nt) ∨ (kd = 26 ∧ n < nt) ∨ (kd = 27 ∧ n < nt) ∨ (kd = 28 ∧ n < ne) := tr_kids hk
    rcases kids with ⟨rfl, hb⟩ | rfl | rfl | rfl | ⟨rfl, hb⟩ | ⟨rfl, hb⟩ | ⟨hk1, x, rfl, hx⟩ | ⟨hk2, x, y, rfl, rfl, hx, hy⟩ | ⟨rfl, hb, hb2⟩ | ⟨rfl, hb⟩ | ⟨rfl, hb⟩ | ⟨rfl, hb⟩
    · refine r_aload_n 0 dX11_of_0 rfl ?_
      refine r_getm (v := .int (nI 0)) (ci := 11) (fs := [.int (nI 0), .int (nI n), .int (nI o), (tv k ta), (tv k tb)]) dX11_of_1 fl_X11_7 ho rfl ?_
      refine r_tableIn (off := 136) (tgt := 140) dX11_of_4 (by decide) (by decide) (by decide) (by decide) ?_
      refine r_aload_n 0 dX11_of_140 rfl ?_
      refine r_getm (v := .int (nI n)) (ci := 11) (fs := [.int (nI 0), .int (nI n), .int (nI o), (tv k ta), (tv k tb)]) dX11_of_141 fl_X11_13 ho rfl ?_
      refine r_iret dX11_of_144 rfl ?_
      exact ⟨congrArg (fun q => Sum.inl (some (Value.int q))) (rfl), rfl⟩
    · refine r_aload_n 0 dX11_of_0 rfl ?_
      refine r_getm (v := .int (nI 1)) (ci := 11) (fs := [.int (nI 1), .int (nI n), .int (nI o), (tv k ta), (tv k tb)]) dX11_of_1 fl_X11_7 ho rfl ?_
      refine r_tableIn (off := 141) (tgt := 145) dX11_of_4 (by decide) (by decide) (by decide) (by decide) ?_
      refine r_aload_n 1 dX11_of_145 rfl ?_
      refine r_getm (v := .int ev) (ci := 10) (fs := [.int (nI ne), .int (nI nt), .ref aC, .ref aD, .ref aO, .ref aT, .int ev, .int cr]) dX11_of_146 fl_X11_16 hS.1 rfl ?_
      refine r_iret dX11_of_149 rfl ?_
      exact ⟨congrArg (fun q => Sum.inl (some (Value.int q))) (rfl), rfl⟩
    · refine r_aload_n 0 dX11_of_0 rfl ?_
      refine r_getm (v := .int (nI 2)) (ci := 11) (fs := [.int (nI 2), .int (nI n), .int (nI o), (tv k ta), (tv k tb)]) dX11_of_1 fl_X11_7 ho rfl ?_
      refine r_tableIn (off := 146) (tgt := 150) dX11_of_4 (by decide) (by decide) (by decide) (by decide) ?_
      refine r_aload_n 1 dX11_of_150 rfl ?_
      refine r_aload_n 1 dX11_of_151 rfl ?_
      refine r_room (x2 := (20 * 2 ^ (k + 1) - 20 + 20)) (y2 := (200 * 2 ^ (k + 1) - 200 + 200)) (by omega) (by omega) ?_
      refine k_Vm (x := (20 * 2 ^ (k + 1) - 20 + 0)) (y := (200 * 2 ^ (k + 1) - 200 + 0)) (rest := [.ref s]) dX11_of_152 kv_X11_21 (cl_liars hS hV hn) rfl rfl hS.1 rfl (Nat.le_of_ble_eq_true rfl) (by omega) (by decide) ?_
      rintro ⟨lb1, lx1, ly1, lz1⟩ -
      show R g mX11_of (k + 1 + 9) (20 * 2 ^ (k + 1) - 20 + 0) (200 * 2 ^ (k + 1) - 200 + 0) 155 [(0, .ref a), (1, .ref s)] [.ref lb1, .ref s] ((lb1, qA g 4 3 (bestF lx1 ly1 lz1)) :: ((lx1, iA g nt (dbF (dcd cl d nt nt 0 (0, 0, 99)).1)) :: ((ly1, iA g 1 (o1 (nI (dcd cl d nt nt 0 (0, 0, 99)).2.1))) :: ((lz1, iA g 1 (o1 (nI (dcd cl d nt nt 0 (0, 0, 99)).2.2))) :: t)))) _
      refine r_iconst (v := (0 : Int32)) dX11_of_155 (by decide) ?_
      refine r_aaldm (t := 4) (n := 3) (f := (bestF lx1 ly1 lz1)) (v := .ref lx1) dX11_of_156 rfl rfl List.mem_cons_self (by decide) (by rw [cl0]; rfl) ?_
      refine r_room (x2 := 0) (y2 := 0) (by omega) (by omega) ?_
      refine k_Vm (x := 0) (y := 0) (rest := []) dX11_of_157 kv_X11_25 ((cl_count (q := lx1) (n := nt) (f := dbF (dcd cl d nt nt 0 (0, 0, 99)).1) (List.mem_cons_of_mem _ List.mem_cons_self) (by omega)).dq) rfl rfl (List.mem_cons_of_mem _ (List.mem_cons_of_mem _ (List.mem_cons_of_mem _ (List.mem_cons_of_mem _ hS.1)))) rfl (Nat.le_of_ble_eq_true rfl) (by omega) (by decide) ?_
      rintro ⟨⟩ -
      show R g mX11_of (k + 1 + 9) 0 0 160 [(0, .ref a), (1, .ref s)] [.int (suS (dbF (dcd cl d nt nt 0 (0, 0, 99)).1) nt)] ((lb1, qA g 4 3 (bestF lx1 ly1 lz1)) :: ((lx1, iA g nt (dbF (dcd cl d nt nt 0 (0, 0, 99)).1)) :: ((ly1, iA g 1 (o1 (nI (dcd cl d nt nt 0 (0, 0, 99)).2.1))) :: ((lz1, iA g 1 (o1 (nI (dcd cl d nt nt 0 (0, 0, 99)).2.2))) :: t)))) _
      refine r_seg (ws2 := t) [[(lb1, qA g 4 3 (bestF lx1 ly1 lz1))], [(lx1, iA g nt (dbF (dcd cl d nt nt 0 (0, 0, 99)).1))], [(ly1, iA g 1 (o1 (nI (dcd cl d nt nt 0 (0, 0, 99)).2.1)))], [(lz1, iA g 1 (o1 (nI (dcd cl d nt nt 0 (0, 0, 99)).2.2)))], t] [4] rfl rfl rfl ?_
      refine r_iret dX11_of_160 rfl ?_
      exact ⟨congrArg (fun q => Sum.inl (some (Value.int q))) (rfl), rfl⟩
    · refine r_aload_n 0 dX11_of_0 rfl ?_
      refine r_getm (v := .int (nI 3)) (ci := 11) (fs := [.int (nI 3), .int (nI n), .int (nI o), (tv k ta), (tv k tb)]) dX11_of_1 fl_X11_7 ho rfl ?_
      refine r_tableIn (off := 157) (tgt := 161) dX11_of_4 (by decide) (by decide) (by decide) (by decide) ?_
      refine r_aload_n 1 dX11_of_161 rfl ?_
      refine r_iconst (v := (-1 : Int32)) dX11_of_162 (by decide) ?_
      refine r_room (x2 := 0) (y2 := 0) (by omega) (by omega) ?_
      refine k_Vm (x := 0) (y := 0) (rest := []) dX11_of_163 kv_X11_29 ((cl_pairs1 hS hV (by omega)).dq) rfl rfl hS.1 rfl (Nat.le_of_ble_eq_true rfl) (by omega) (by decide) ?_
      rintro ⟨⟩ -
      show R g mX11_of (k + 1 + 9) 0 0 166 [(0, .ref a), (1, .ref s)] [.int (nI (pnS cl d nt nt))] t _
      refine r_iret dX11_of_166 rfl ?_
      exact ⟨congrArg (fun q => Sum.inl (some (Value.int q))) (rfl), rfl⟩
    · refine r_aload_n 0 dX11_of_0 rfl ?_
      refine r_getm (v := .int (nI 4)) (ci := 11) (fs := [.int (nI 4), .int (nI n), .int (nI o), (tv k ta), (tv k tb)]) dX11_of_1 fl_X11_7 ho rfl ?_
      refine r_tableIn (off := 163) (tgt := 167) dX11_of_4 (by decide) (by decide) (by decide) (by decide) ?_
      refine r_aload_n 1 dX11_of_167 rfl ?_
      refine r_aload_n 0 dX11_of_168 rfl ?_
      refine r_getm (v := .int (nI n)) (ci := 11) (fs := [.int (nI 4), .int (nI n), .int (nI o), (tv k ta), (tv k tb)]) dX11_of_169 fl_X11_13 ho rfl ?_
      refine r_room (x2 := 0) (y2 := 0) (by omega) (by omega) ?_
      refine k_Vm (x := 0) (y := 0) (rest := []) dX11_of_172 kv_X11_33 ((cl_claimsOf hS hV).dq) rfl rfl hS.1 rfl (Nat.le_of_ble_eq_true rfl) (by omega) (by decide) ?_
      rintro ⟨⟩ -
      show R g mX11_of (k + 1 + 9) 0 0 175 [(0, .ref a), (1, .ref s)] [.int (nI (cntS cl (nI n) cl.length))] t _
      refine r_iret dX11_of_175 rfl ?_
      exact ⟨congrArg (fun q => Sum.inl (some (Value.int q))) (rfl), rfl⟩
    · refine r_aload_n 0 dX11_of_0 rfl ?_
      refine r_getm (v := .int (nI 5)) (ci := 11) (fs := [.int (nI 5), .int (nI n), .int (nI o), (tv k ta), (tv k tb)]) dX11_of_1 fl_X11_7 ho rfl ?_
      refine r_tableIn (off := 172) (tgt := 176) dX11_of_4 (by decide) (by decide) (by decide) (by decide) ?_
      refine r_aload_n 1 dX11_of_176 rfl ?_
      refine r_aload_n 0 dX11_of_177 rfl ?_
      refine r_getm (v := .int (nI n)) (ci := 11) (fs := [.int (nI 5), .int (nI n), .int (nI o), (tv k ta), (tv k tb)]) dX11_of_178 fl_X11_13 ho rfl ?_
      refine r_room (x2 := 0 + 1) (y2 := 0 + 3) (by omega) (by omega) ?_
      refine k_Vm (x := 0) (y := 0) (rest := []) dX11_of_181 kv_X11_36 (cl_window (e := n) hS hV (by omega)) rfl rfl hS.1 rfl (Nat.le_of_ble_eq_true rfl) (by omega) (by decide) ?_
      rintro wq2 -
      show R g mX11_of (k + 1 + 9) 0 0 184 [(0, .ref a), (1, .ref s)] [.ref wq2] ((wq2, iA g 3 (r3 (winS cl d n 100).1 (winS cl d n 100).2.1 (nI (winS cl d n 100).2.2))) :: t) _
      refine r_iconst (v := (2 : Int32)) dX11_of_184 (by decide) ?_
      refine r_ialdm (n := 3) (f := (r3 (winS cl d n 100).1 (winS cl d n 100).2.1 (nI (winS cl d n 100).2.2))) dX11_of_185 List.mem_cons_self (by decide) ?_
      refine r_top (w := .int (nI (winS cl d n 100).2.2)) (by rw [cl2]; rfl) ?_
      refine r_seg (ws2 := t) [[(wq2, iA g 3 (r3 (winS cl d n 100).1 (winS cl d n 100).2.1 (nI (winS cl d n 100).2.2)))], t] [1] rfl rfl rfl ?_
      refine r_iret dX11_of_186 rfl ?_
      exact ⟨congrArg (fun q => Sum.inl (some (Value.int q))) (rfl), rfl⟩
    · rcases hk1 with rfl | rfl
      · refine r_aload_n 0 dX11_of_0 rfl ?_
        refine r_getm (v := .int (nI 6)) (ci := 11) (fs := [.int (nI 6), .int (nI n), .int (nI o), .ref (tA k x), (tv k tb)]) dX11_of_1 fl_X11_7 ho rfl ?_
        refine r_tableIn (off := 183) (tgt := 187) dX11_of_4 (by decide) (by decide) (by decide) (by decide) ?_
        refine r_aload_n 0 dX11_of_187 rfl ?_
        refine r_getm (v := .ref (tA k x)) (ci := 11) (fs := [.int (nI 6), .int (nI n), .int (nI o), .ref (tA k x), (tv k tb)]) dX11_of_188 fl_X11_40 ho rfl ?_
        refine r_aload_n 1 dX11_of_191 rfl ?_
        refine r_room (x2 := 0 + 20 * 2 ^ k) (y2 := 0 + 200 * 2 ^ k) (by omega) (by omega) ?_
        obtain ⟨fsx, hfx⟩ := TM.cell k x (hma x rfl)
        refine k_Vm (x := 0) (y := 0) (rest := []) dX11_of_192 kv_X11_44 ((cl_of hV hn hne hd0 k x t (hma x rfl) hS hx).dq) rfl rfl hfx rfl (Nat.le_of_ble_eq_true rfl) (by omega) (by decide) ?_
        rintro ⟨⟩ -
        show R g mX11_of (k + 1 + 9) 0 0 195 [(0, .ref a), (1, .ref s)] [.int (vlE cl d nt ev k x)] t _
        refine r_ineg dX11_of_195 ?_
        refine r_iret dX11_of_196 rfl ?_
        exact ⟨congrArg (fun q => Sum.inl (some (Value.int q))) (rfl), rfl⟩
      · refine r_aload_n 0 dX11_of_0 rfl ?_
        refine r_getm (v := .int (nI 29)) (ci := 11) (fs := [.int (nI 29), .int (nI n), .int (nI o), .ref (tA k x), (tv k tb)]) dX11_of_1 fl_X11_7 ho rfl ?_
        refine r_tableIn (off := 263) (tgt := 267) dX11_of_4 (by decide) (by decide) (by decide) (by decide) ?_
        refine r_iconst (v := (1 : Int32)) dX11_of_267 (by decide) ?_
        refine r_aload_n 0 dX11_of_268 rfl ?_
        refine r_getm (v := .ref (tA k x)) (ci := 11) (fs := [.int (nI 29), .int (nI n), .int (nI o), .ref (tA k x), (tv k tb)]) dX11_of_269 fl_X11_40 ho rfl ?_
        refine r_aload_n 1 dX11_of_272 rfl ?_
        refine r_room (x2 := 0 + 20 * 2 ^ k) (y2 := 0 + 200 * 2 ^ k) (by omega) (by omega) ?_
        obtain ⟨fsx, hfx⟩ := TM.cell k x (hma x rfl)
        refine k_Vm (x := 0) (y := 0) (rest := [.int (1 : Int32)]) dX11_of_273 kv_X11_44 ((cl_of hV hn hne hd0 k x t (hma x rfl) hS hx).dq) rfl rfl hfx rfl (Nat.le_of_ble_eq_true rfl) (by omega) (by decide) ?_
        rintro ⟨⟩ -
        show R g mX11_of (k + 1 + 9) 0 0 276 [(0, .ref a), (1, .ref s)] [.int (vlE cl d nt ev k x), .int (1 : Int32)] t _
        refine r_isub dX11_of_276 ?_
        refine r_iret dX11_of_277 rfl ?_
        exact ⟨congrArg (fun q => Sum.inl (some (Value.int q))) (rfl), rfl⟩
    · have E : vlE cl d nt ev (k + 1) ((a, kd, n, o), some x, some y) = o2 kd (vlE cl d nt ev k x) (vlE cl d nt ev k y) := by rcases hk2 with rfl | rfl | rfl | rfl | rfl | rfl | rfl | rfl | rfl | rfl | rfl | rfl | rfl <;> rfl
      rw [E]
      refine r_aload_n 0 dX11_of_0 rfl ?_
      refine r_getm (v := .int (nI kd)) (ci := 11) (fs := [.int (nI kd), .int (nI n), .int (nI o), .ref (tA k x), .ref (tA k y)]) dX11_of_1 fl_X11_7 ho rfl ?_
      have G : R g mX11_of (k + 1 + 9) (20 * 2 ^ (k + 1)) (200 * 2 ^ (k + 1)) 278 [(0, .ref a), (1, .ref s)] [] t (Dv (some (.int (o2 kd (vlE cl d nt ev k x) (vlE cl d nt ev k y)))) t) := by
        refine r_aload_n 0 dX11_of_278 rfl ?_
        refine r_aload_n 0 dX11_of_279 rfl ?_
        refine r_getm (v := .ref (tA k x)) (ci := 11) (fs := [.int (nI kd), .int (nI n), .int (nI o), .ref (tA k x), .ref (tA k y)]) dX11_of_280 fl_X11_40 ho rfl ?_
        refine r_aload_n 1 dX11_of_283 rfl ?_
        refine r_room (x2 := 20 * 2 ^ k + 20 * 2 ^ k) (y2 := 200 * 2 ^ k + 200 * 2 ^ k) (by omega) (by omega) ?_
        obtain ⟨fsx, hfx⟩ := TM.cell k x (hma x rfl)
        refine k_Vm (x := (20 * 2 ^ k)) (y := (200 * 2 ^ k)) (rest := [.ref a]) dX11_of_284 kv_X11_44 ((cl_of hV hn hne hd0 k x t (hma x rfl) hS hx).dq) rfl rfl hfx rfl (Nat.le_of_ble_eq_true rfl) (by omega) (by decide) ?_
        rintro ⟨⟩ -
        show R g mX11_of (k + 1 + 9) (20 * 2 ^ k) (200 * 2 ^ k) 287 [(0, .ref a), (1, .ref s)] [.int (vlE cl d nt ev k x), .ref a] t _
        refine r_aload_n 0 dX11_of_287 rfl ?_
        refine r_getm (v := .ref (tA k y)) (ci := 11) (fs := [.int (nI kd), .int (nI n), .int (nI o), .ref (tA k x), .ref (tA k y)]) dX11_of_288 fl_X11_59 ho rfl ?_
        refine r_aload_n 1 dX11_of_291 rfl ?_
        refine r_room (x2 := 0 + 20 * 2 ^ k) (y2 := 0 + 200 * 2 ^ k) (by omega) (by omega) ?_
        obtain ⟨fsy, hfy⟩ := TM.cell k y (hmb y rfl)
        refine k_Vm (x := 0) (y := 0) (rest := [.int (vlE cl d nt ev k x), .ref a]) dX11_of_292 kv_X11_44 ((cl_of hV hn hne hd0 k y t (hmb y rfl) hS hy).dq) rfl rfl hfy rfl (Nat.le_of_ble_eq_true rfl) (by omega) (by decide) ?_
        rintro ⟨⟩ -
        show R g mX11_of (k + 1 + 9) 0 0 295 [(0, .ref a), (1, .ref s)] [.int (vlE cl d nt ev k y), .int (vlE cl d nt ev k x), .ref a] t _
        refine k_Vm (x := 0) (y := 0) (rest := []) dX11_of_295 kv_X11_62 ((cl_two (x := vlE cl d nt ev k x) (y := vlE cl d nt ev k y) ho hk2).dq) rfl rfl ho rfl (Nat.le_of_ble_eq_true rfl) (by omega) (by decide) ?_
        rintro ⟨⟩ -
        show R g mX11_of (k + 1 + 9) 0 0 298 [(0, .ref a), (1, .ref s)] [.int (o2 kd (vlE cl d nt ev k x) (vlE cl d nt ev k y))] t _
        refine r_iret dX11_of_298 rfl ?_
        exact ⟨rfl, rfl⟩
      rcases hk2 with rfl | rfl | rfl | rfl | rfl | rfl | rfl | rfl | rfl | rfl | rfl | rfl | rfl
      · refine r_tableIn (off := 274) (tgt := 278) dX11_of_4 (by decide) (by decide) (by decide) (by decide) ?_
        exact G
      · refine r_tableIn (off := 274) (tgt := 278) dX11_of_4 (by decide) (by decide) (by decide) (by decide) ?_
        exact G
      · refine r_tableIn (off := 274) (tgt := 278) dX11_of_4 (by decide) (by decide) (by decide) (by decide) ?_
        exact G
      · refine r_tableIn (off := 274) (tgt := 278) dX11_of_4 (by decide) (by decide) (by decide) (by decide) ?_
        exact G
      · refine r_tableIn (off := 274) (tgt := 278) dX11_of_4 (by decide) (by decide) (by decide) (by decide) ?_
        exact G
      · refine r_tableIn (off := 274) (tgt := 278) dX11_of_4 (by decide) (by decide) (by decide) (by decide) ?_
        exact G
      · refine r_tableIn (off := 274) (tgt := 278) dX11_of_4 (by decide) (by decide) (by decide) (by decide) ?_
        exact G
      · refine r_tableIn (off := 274) (tgt := 278) dX11_of_4 (by decide) (by decide) (by decide) (by decide) ?_
        exact G
      · refine r_tableIn (off := 274) (tgt := 278) dX11_of_4 (by decide) (by decide) (by decide) (by decide) ?_
        exact G
      · refine r_tableIn (off := 274) (tgt := 278) dX11_of_4 (by decide) (by decide) (by decide) (by decide) ?_
        exact G
      · refine r_tableIn (off := 274) (tgt := 278) dX11_of_4 (by decide) (by decide) (by decide) (by decide) ?_
        exact G
      · refine r_tableOut (tgt := 278) dX11_of_4 (by decide) (by decide) ?_
        exact G
      · refine r_tableOut (tgt := 278) dX11_of_4 (by decide) (by decide) ?_
        exact G
    · refine r_aload_n 0 dX11_of_0 rfl ?_
      refine r_getm (v := .int (nI 25)) (ci := 11) (fs := [.int (nI 25), .int (nI n), .int (nI o), (tv k ta), (tv k tb)]) dX11_of_1 fl_X11_7 ho rfl ?_
      refine r_tableIn (off := 193) (tgt := 197) dX11_of_4 (by decide) (by decide) (by decide) (by decide) ?_
      refine r_aload_n 1 dX11_of_197 rfl ?_
      refine r_aload_n 0 dX11_of_198 rfl ?_
      refine r_getm (v := .int (nI n)) (ci := 11) (fs := [.int (nI 25), .int (nI n), .int (nI o), (tv k ta), (tv k tb)]) dX11_of_199 fl_X11_13 ho rfl ?_
      refine r_aload_n 0 dX11_of_202 rfl ?_
      refine r_getm (v := .int (nI o)) (ci := 11) (fs := [.int (nI 25), .int (nI n), .int (nI o), (tv k ta), (tv k tb)]) dX11_of_203 fl_X11_48 ho rfl ?_
      refine r_room (x2 := 0) (y2 := 0) (by omega) (by omega) ?_
      refine k_Vm (x := 0) (y := 0) (rest := []) dX11_of_206 kv_X11_51 ((cl_contradict (a := n) (b := o) hS hV (by omega) (by omega)).dq) rfl rfl hS.1 rfl (Nat.le_of_ble_eq_true rfl) (by omega) (by decide) ?_
      rintro ⟨⟩ -
      show R g mX11_of (k + 1 + 9) 0 0 209 [(0, .ref a), (1, .ref s)] [.int (bI (conS cl d n o))] t _
      refine r_if_eq (tgt := 216) dX11_of_209 (by decide) (fun h1 => ?_) (fun h1 => ?_)
      · refine r_iconst (v := (0 : Int32)) dX11_of_216 (by decide) ?_
        refine r_iret dX11_of_217 rfl ?_
        exact ⟨congrArg (fun q => Sum.inl (some (Value.int q))) (show _ = bI (conS cl d n o) from h1.symm), rfl⟩
      · refine r_iconst (v := (1 : Int32)) dX11_of_212 (by decide) ?_
        refine r_goto (tgt := 217) dX11_of_213 (by decide) ?_
        refine r_iret dX11_of_217 rfl ?_
        exact ⟨congrArg (fun q => Sum.inl (some (Value.int q))) (show _ = bI (conS cl d n o) from by cases h9 : conS cl d n o with | false => rw [h9] at h1; exact absurd rfl h1 | true => rfl), rfl⟩
    · refine r_aload_n 0 dX11_of_0 rfl ?_
      refine r_getm (v := .int (nI 26)) (ci := 11) (fs := [.int (nI 26), .int (nI n), .int (nI o), (tv k ta), (tv k tb)]) dX11_of_1 fl_X11_7 ho rfl ?_
      refine r_tableIn (off := 214) (tgt := 218) dX11_of_4 (by decide) (by decide) (by decide) (by decide) ?_
      refine r_aload_n 1 dX11_of_218 rfl ?_
      refine r_room (x2 := (20 * 2 ^ (k + 1) - 20 + 20)) (y2 := (200 * 2 ^ (k + 1) - 200 + 200)) (by omega) (by omega) ?_
      refine k_Vm (x := (20 * 2 ^ (k + 1) - 20 + 0)) (y := (200 * 2 ^ (k + 1) - 200 + 0)) (rest := []) dX11_of_219 kv_X11_21 (cl_liars hS hV hn) rfl rfl hS.1 rfl (Nat.le_of_ble_eq_true rfl) (by omega) (by decide) ?_
      rintro ⟨lb3, lx3, ly3, lz3⟩ -
      show R g mX11_of (k + 1 + 9) (20 * 2 ^ (k + 1) - 20 + 0) (200 * 2 ^ (k + 1) - 200 + 0) 222 [(0, .ref a), (1, .ref s)] [.ref lb3] ((lb3, qA g 4 3 (bestF lx3 ly3 lz3)) :: ((lx3, iA g nt (dbF (dcd cl d nt nt 0 (0, 0, 99)).1)) :: ((ly3, iA g 1 (o1 (nI (dcd cl d nt nt 0 (0, 0, 99)).2.1))) :: ((lz3, iA g 1 (o1 (nI (dcd cl d nt nt 0 (0, 0, 99)).2.2))) :: t)))) _
      refine r_iconst (v := (0 : Int32)) dX11_of_222 (by decide) ?_
      refine r_aaldm (t := 4) (n := 3) (f := (bestF lx3 ly3 lz3)) (v := .ref lx3) dX11_of_223 rfl rfl List.mem_cons_self (by decide) (by rw [cl0]; rfl) ?_
      refine r_aload_n 0 dX11_of_224 rfl ?_
      refine r_getm (v := .int (nI n)) (ci := 11) (fs := [.int (nI 26), .int (nI n), .int (nI o), (tv k ta), (tv k tb)]) dX11_of_225 fl_X11_13 (List.mem_cons_of_mem _ (List.mem_cons_of_mem _ (List.mem_cons_of_mem _ (List.mem_cons_of_mem _ ho)))) rfl ?_
      refine r_ialdm (n := nt) (f := (dbF (dcd cl d nt nt 0 (0, 0, 99)).1)) dX11_of_228 (List.mem_cons_of_mem _ List.mem_cons_self) (ib_nI hb (by omega)) ?_
      refine r_top (w := .int (dbF (dcd cl d nt nt 0 (0, 0, 99)).1 n)) (by rw [nI_clamp (by omega)]) ?_
      refine r_seg (ws2 := t) [[(lb3, qA g 4 3 (bestF lx3 ly3 lz3))], [(lx3, iA g nt (dbF (dcd cl d nt nt 0 (0, 0, 99)).1))], [(ly3, iA g 1 (o1 (nI (dcd cl d nt nt 0 (0, 0, 99)).2.1)))], [(lz3, iA g 1 (o1 (nI (dcd cl d nt nt 0 (0, 0, 99)).2.2)))], t] [4] rfl rfl rfl ?_
      refine r_iret dX11_of_229 rfl ?_
      exact ⟨congrArg (fun q => Sum.inl (some (Value.int q))) (rfl), rfl⟩
    · refine r_aload_n 0 dX11_of_0 rfl ?_
      refine r_getm (v := .int (nI 27)) (ci := 11) (fs := [.int (nI 27), .int (nI n), .int (nI o), (tv k ta), (tv k tb)]) dX11_of_1 fl_X11_7 ho rfl ?_
      refine r_tableIn (off := 226) (tgt := 230) dX11_of_4 (by decide) (by decide) (by decide) (by decide) ?_
      refine r_aload_n 1 dX11_of_230 rfl ?_
      refine r_getm (v := .ref aD) (ci := 10) (fs := [.int (nI ne), .int (nI nt), .ref aC, .ref aD, .ref aO, .ref aT, .int ev, .int cr]) dX11_of_231 fl_X11_55 hS.1 rfl ?_
      refine r_aload_n 0 dX11_of_234 rfl ?_
      refine r_getm (v := .int (nI n)) (ci := 11) (fs := [.int (nI 27), .int (nI n), .int (nI o), (tv k ta), (tv k tb)]) dX11_of_235 fl_X11_13 ho rfl ?_
      refine r_zaldm (n := 10) (f := (dbF d)) dX11_of_238 hS.2.2.2 (ib_nI (by omega) (by decide)) ?_
      refine r_top (w := .int (dbF d n)) (by rw [nI_clamp (by omega)]) ?_
      refine r_if_eq (tgt := 246) dX11_of_239 (by decide) (fun h1 => ?_) (fun h1 => ?_)
      · refine r_iconst (v := (0 : Int32)) dX11_of_246 (by decide) ?_
        refine r_iret dX11_of_247 rfl ?_
        exact ⟨congrArg (fun q => Sum.inl (some (Value.int q))) (show _ = dbF d n from h1.symm), rfl⟩
      · refine r_iconst (v := (1 : Int32)) dX11_of_242 (by decide) ?_
        refine r_goto (tgt := 247) dX11_of_243 (by decide) ?_
        refine r_iret dX11_of_247 rfl ?_
        exact ⟨congrArg (fun q => Sum.inl (some (Value.int q))) (show _ = dbF d n from by cases h9 : d.testBit n with | false => exact absurd (dbF_f h9) h1 | true => exact (dbF_t h9).symm), rfl⟩
    · refine r_aload_n 0 dX11_of_0 rfl ?_
      refine r_getm (v := .int (nI 28)) (ci := 11) (fs := [.int (nI 28), .int (nI n), .int (nI o), (tv k ta), (tv k tb)]) dX11_of_1 fl_X11_7 ho rfl ?_
      refine r_tableIn (off := 244) (tgt := 248) dX11_of_4 (by decide) (by decide) (by decide) (by decide) ?_
      refine r_aload_n 1 dX11_of_248 rfl ?_
      refine r_aload_n 0 dX11_of_249 rfl ?_
      refine r_getm (v := .int (nI n)) (ci := 11) (fs := [.int (nI 28), .int (nI n), .int (nI o), (tv k ta), (tv k tb)]) dX11_of_250 fl_X11_13 ho rfl ?_
      refine r_room (x2 := 0 + 1) (y2 := 0 + 3) (by omega) (by omega) ?_
      refine k_Vm (x := 0) (y := 0) (rest := []) dX11_of_253 kv_X11_36 (cl_window (e := n) hS hV (by omega)) rfl rfl hS.1 rfl (Nat.le_of_ble_eq_true rfl) (by omega) (by decide) ?_
      rintro wq4 -
      show R g mX11_of (k + 1 + 9) 0 0 256 [(0, .ref a), (1, .ref s)] [.ref wq4] ((wq4, iA g 3 (r3 (winS cl d n 100).1 (winS cl d n 100).2.1 (nI (winS cl d n 100).2.2))) :: t) _
      refine r_iconst (v := (2 : Int32)) dX11_of_256 (by decide) ?_
      refine r_ialdm (n := 3) (f := (r3 (winS cl d n 100).1 (winS cl d n 100).2.1 (nI (winS cl d n 100).2.2))) dX11_of_257 List.mem_cons_self (by decide) ?_
      refine r_top (w := .int (nI (winS cl d n 100).2.2)) (by rw [cl2]; rfl) ?_
      refine r_seg (ws2 := t) [[(wq4, iA g 3 (r3 (winS cl d n 100).1 (winS cl d n 100).2.1 (nI (winS cl d n 100).2.2)))], t] [1] rfl rfl rfl ?_
      refine r_if_le (tgt := 265) dX11_of_258 (by decide) (fun h1 => ?_) (fun h1 => ?_)
      · refine r_iconst (v := (0 : Int32)) dX11_of_265 (by decide) ?_
        refine r_iret dX11_of_266 rfl ?_
        exact ⟨congrArg (fun q => Sum.inl (some (Value.int q))) (show _ = bI (decide (0 < (winS cl d n 100).2.2)) from by have := win_le cl d n 100; have := (nI_leI (a := (winS cl d n 100).2.2) (b := 0) (by omega) (by decide)).mp h1; rw [decide_eq_false (by omega)]; rfl), rfl⟩
      · refine r_iconst (v := (1 : Int32)) dX11_of_261 (by decide) ?_
        refine r_goto (tgt := 266) dX11_of_262 (by decide) ?_
        refine r_iret dX11_of_266 rfl ?_
        exact ⟨congrArg (fun q => Sum.inl (some (Value.int q))) (show _ = bI (decide (0 < (winS cl d n 100).2.2)) from by have := win_le cl d n 100; have : ¬ _ := fun h => h1 ((nI_leI (a := (winS cl d n 100).2.2) (b := 0) (by omega) (by decide)).mpr h); rw [decide_eq_true (by omega)]; rfl), rfl⟩
set_option maxRecDepth 20000 in
set_option maxHeartbeats 4000000 in
theorem cl_pass {g : GG} {t : va_W} {s aC aD aO aT ne nt : Nat} {ev cr : Int32} {ca oa : List Nat} {cl : List (Nat → Int32)} {d : Nat} {os : List OT} (hC : SimR g t aC ca cl) (hO : OM g ne nt t aO aT oa os) (hV : CV ne nt ca cl) (hn : nt ≤ 6) (hne : ne ≤ 8) (hd0 : 0 < nt) : Ct g mX10_pass 14 1280 12800 [.ref s] ((s, .inr (10, [.int (nI ne), .int (nI nt), .ref aC, .ref aD, .ref aO, .ref aT, .int ev, .int cr])) :: ((aD, zA g 10 (dbF d)) :: t)) (Dv none ((s, .inr (10, [.int (nI ne), .int (nI nt), .ref aC, .ref aD, .ref aO, .ref aT, .int (ev + 1), .int (psO cl nt ev os os.length (d, cr)).2])) :: (aD, zA g 10 (dbF (psO cl nt ev os os.length (d, cr)).1)) :: t)) := by
  refine Ct.ofR (by decide +kernel) rfl (Nat.le_of_ble_eq_true rfl) ?_
  show R g mX10_pass 14 1280 12800 0 [(0, .ref s)] [] ((s, .inr (10, [.int (nI ne), .int (nI nt), .ref aC, .ref aD, .ref aO, .ref aT, .int ev, .int cr])) :: ((aD, zA g 10 (dbF d)) :: t)) _
  obtain ⟨ol, o4, -, -, oh⟩ := id hO
  refine r_iconst (v := (0 : Int32)) dX10_pass_0 (by decide) ?_
  refine r_top (w := .int (nI 0)) (rfl) ?_
  refine r_istore_n [(1, .int (nI 0)), (0, .ref s)] dX10_pass_1 (by decide) rfl ?_
  refine r_room (x2 := 320 * os.length) (y2 := 3200 * os.length) (by omega) (by omega) ?_
  have L : ∀ m k, m + k = os.length → R g mX10_pass 14 (320 * m) (3200 * m) 2 [(1, .int (nI k)), (0, .ref s)] [] ((s, .inr (10, [.int (nI ne), .int (nI nt), .ref aC, .ref aD, .ref aO, .ref aT, .int ev, .int (psO cl nt ev os k (d, cr)).2])) :: ((aD, zA g 10 (dbF (psO cl nt ev os k (d, cr)).1)) :: t)) (Dv none ((s, .inr (10, [.int (nI ne), .int (nI nt), .ref aC, .ref aD, .ref aO, .ref aT, .int (ev + 1), .int (psO cl nt ev os os.length (d, cr)).2])) :: (aD, zA g 10 (dbF (psO cl nt ev os os.length (d, cr)).1)) :: t)) := by
    intro m
    induction m with
    | zero =>
      intro k hk
      have ek : k = os.length := by omega
      rw [ek]
      refine r_iload_n 0 dX10_pass_2 rfl ?_
      refine r_aload_n 1 dX10_pass_3 rfl ?_
      refine r_getf (v := .ref aO) 0 dX10_pass_4 fl_X10_19 rfl rfl ?_
      refine r_alenm (t := 4) (v := (nI oa.length)) dX10_pass_7 rfl (List.mem_cons_of_mem _ (List.mem_cons_of_mem _ hO.2.2.1)) (by rfl) ?_
      refine r_icmp_ge (tgt := 102) dX10_pass_8 (by decide) (fun _ => ?_) (fun hc => absurd (nI_le (by omega) (by omega)) hc)
      refine r_aload_n 1 dX10_pass_102 rfl ?_
      refine r_dup dX10_pass_103 rfl ?_
      refine r_getf (v := .int ev) 0 dX10_pass_104 fl_X10_36 rfl rfl ?_
      refine r_iconst (v := (1 : Int32)) dX10_pass_107 (by decide) ?_
      refine r_iadd dX10_pass_108 ?_
      refine r_putf (ws2 := ((s, .inr (10, [.int (nI ne), .int (nI nt), .ref aC, .ref aD, .ref aO, .ref aT, .int (ev + (1 : Int32)), .int (psO cl nt ev os os.length (d, cr)).2])) :: ((aD, zA g 10 (dbF (psO cl nt ev os os.length (d, cr)).1)) :: t))) 0 dX10_pass_109 fl_X10_36 rfl (Nat.le_of_ble_eq_true rfl) rfl rfl rfl ?_
      refine r_vret dX10_pass_112 rfl ?_
      exact ⟨rfl, rfl⟩
    | succ m ih =>
      intro k hk
      have hk2 : k < os.length := by omega
      have hk3 : k < oa.length := by omega
      obtain ⟨om, ow, ot⟩ := oh k hk2
      have hw : (oG os k).2.1 < 10 := by omega
      refine r_iload_n 0 dX10_pass_2 rfl ?_
      refine r_aload_n 1 dX10_pass_3 rfl ?_
      refine r_getf (v := .ref aO) 0 dX10_pass_4 fl_X10_19 rfl rfl ?_
      refine r_alenm (t := 4) (v := (nI oa.length)) dX10_pass_7 rfl (List.mem_cons_of_mem _ (List.mem_cons_of_mem _ hO.2.2.1)) (by rfl) ?_
      refine r_icmp_ge (tgt := 102) dX10_pass_8 (by decide) (fun hc => absurd hc (nI_ge (by omega) (by omega))) (fun _ => ?_)
      have B : goesO cl (psO cl nt ev os k (d, cr)).1 nt ev (oG os k) = true → R g mX10_pass 14 (320 * m) (3200 * m) 37 [(1, .int (nI k)), (0, .ref s)] [] ((s, .inr (10, [.int (nI ne), .int (nI nt), .ref aC, .ref aD, .ref aO, .ref aT, .int ev, .int (psO cl nt ev os k (d, cr)).2])) :: ((aD, zA g 10 (dbF (psO cl nt ev os k (d, cr)).1)) :: t)) (Dv none ((s, .inr (10, [.int (nI ne), .int (nI nt), .ref aC, .ref aD, .ref aO, .ref aT, .int (ev + 1), .int (psO cl nt ev os os.length (d, cr)).2])) :: (aD, zA g 10 (dbF (psO cl nt ev os os.length (d, cr)).1)) :: t)) := by
        intro hg
        refine r_aload_n 1 dX10_pass_37 rfl ?_
        refine r_getf (v := .ref aO) 0 dX10_pass_38 fl_X10_19 rfl rfl ?_
        refine r_iload_n 0 dX10_pass_41 rfl ?_
        refine r_aaldm (t := 4) (n := oa.length) (f := (fun k => oa[k]?)) (v := .ref (oa.getD k 0)) dX10_pass_42 rfl rfl (List.mem_cons_of_mem _ (List.mem_cons_of_mem _ hO.2.2.1)) (ib_nI hk3 (by omega)) (by rw [nI_clamp (by omega), List.getD_eq_getElem?_getD, List.getElem?_eq_getElem hk3]; rfl) ?_
        refine r_iconst (v := (0 : Int32)) dX10_pass_43 (by decide) ?_
        refine r_ialdm (n := 2) (f := (oR os k)) dX10_pass_44 (List.mem_cons_of_mem _ (List.mem_cons_of_mem _ om)) (by decide) ?_
        refine r_top (w := .int (bI (oG os k).1)) (by rw [cl0]; rfl) ?_
        refine r_iconst (v := (1 : Int32)) dX10_pass_45 (by decide) ?_
        refine r_icmp_ne (tgt := 53) dX10_pass_46 (by decide) (fun h1 => ?_) (fun h1 => ?_)
        · have hac : (oG os k).1 = false := by cases h9 : (oG os k).1 with | false => rfl | true => rw [h9] at h1; exact absurd rfl h1
          refine r_iconst (v := (0 : Int32)) dX10_pass_53 (by decide) ?_
          refine r_top (w := .int (bI (oG os k).1)) (by rw [hac]; rfl) ?_
          refine r_istore_n [(2, .int (bI (oG os k).1)), (1, .int (nI k)), (0, .ref s)] dX10_pass_54 (by decide) rfl ?_
          refine r_aload_n 2 dX10_pass_55 rfl ?_
          refine r_getf (v := .ref aD) 0 dX10_pass_56 fl_X10_15 rfl rfl ?_
          refine r_aload_n 2 dX10_pass_59 rfl ?_
          refine r_getf (v := .ref aO) 0 dX10_pass_60 fl_X10_19 rfl rfl ?_
          refine r_iload_n 1 dX10_pass_63 rfl ?_
          refine r_aaldm (t := 4) (n := oa.length) (f := (fun k => oa[k]?)) (v := .ref (oa.getD k 0)) dX10_pass_64 rfl rfl (List.mem_cons_of_mem _ (List.mem_cons_of_mem _ hO.2.2.1)) (ib_nI hk3 (by omega)) (by rw [nI_clamp (by omega), List.getD_eq_getElem?_getD, List.getElem?_eq_getElem hk3]; rfl) ?_
          refine r_iconst (v := (1 : Int32)) dX10_pass_65 (by decide) ?_
          refine r_ialdm (n := 2) (f := (oR os k)) dX10_pass_66 (List.mem_cons_of_mem _ (List.mem_cons_of_mem _ om)) (by decide) ?_
          refine r_top (w := .int (nI (oG os k).2.1)) (by rw [cl1]; rfl) ?_
          refine r_zaldm (n := 10) (f := (dbF (psO cl nt ev os k (d, cr)).1)) dX10_pass_67 (List.mem_cons_of_mem _ List.mem_cons_self) (ib_nI (by omega) (by decide)) ?_
          refine r_top (w := .int (dbF (psO cl nt ev os k (d, cr)).1 (oG os k).2.1)) (by rw [nI_clamp (by omega)]) ?_
          refine r_iload_n 0 dX10_pass_68 rfl ?_
          refine r_icmp_eq (tgt := 82) dX10_pass_69 (by decide) (fun h2 => ?_) (fun h2 => ?_)
          · have h3 : (psO cl nt ev os k (d, cr)).1.testBit (oG os k).2.1 = (oG os k).1 := bI_inj h2
            have e9 : (psO cl nt ev os (k + 1) (d, cr)) = (psO cl nt ev os k (d, cr)) := by
              show stO cl nt ev (psO cl nt ev os k (d, cr)) (oG os k) = _
              unfold stO
              rw [if_pos hg, if_pos h3]
            have e9c : (psO cl nt ev os (k + 1) (d, cr)).2 = (psO cl nt ev os k (d, cr)).2 := by rw [e9]
            have e9d : (if (psO cl nt ev os k (d, cr)).1.testBit (oG os k).2.1 = (oG os k).1 then (psO cl nt ev os k (d, cr)).1 else (psO cl nt ev os k (d, cr)).1 ^^^ 2 ^ (oG os k).2.1) = (psO cl nt ev os (k + 1) (d, cr)).1 := by rw [e9, if_pos h3]
            refine r_aload_n 2 dX10_pass_82 rfl ?_
            refine r_getf (v := .ref aD) 0 dX10_pass_83 fl_X10_15 rfl rfl ?_
            refine r_aload_n 2 dX10_pass_86 rfl ?_
            refine r_getf (v := .ref aO) 0 dX10_pass_87 fl_X10_19 rfl rfl ?_
            refine r_iload_n 1 dX10_pass_90 rfl ?_
            refine r_aaldm (t := 4) (n := oa.length) (f := (fun k => oa[k]?)) (v := .ref (oa.getD k 0)) dX10_pass_91 rfl rfl (List.mem_cons_of_mem _ (List.mem_cons_of_mem _ hO.2.2.1)) (ib_nI hk3 (by omega)) (by rw [nI_clamp (by omega), List.getD_eq_getElem?_getD, List.getElem?_eq_getElem hk3]; rfl) ?_
            refine r_iconst (v := (1 : Int32)) dX10_pass_92 (by decide) ?_
            refine r_ialdm (n := 2) (f := (oR os k)) dX10_pass_93 (List.mem_cons_of_mem _ (List.mem_cons_of_mem _ om)) (by decide) ?_
            refine r_top (w := .int (nI (oG os k).2.1)) (by rw [cl1]; rfl) ?_
            refine r_iload_n 0 dX10_pass_94 rfl ?_
            refine r_zast (w := (bI (oG os k).1)) (ws2 := ((s, .inr (10, [.int (nI ne), .int (nI nt), .ref aC, .ref aD, .ref aO, .ref aT, .int ev, .int (psO cl nt ev os k (d, cr)).2])) :: ((aD, zA g 10 (dbF (psO cl nt ev os (k + 1) (d, cr)).1)) :: t))) 1 dX10_pass_95 rfl (ib_nI (by omega) (by decide)) (bI_nar _) (by rw [nI_clamp (by omega), dbF_set, e9d] <;> rfl) ?_
            refine r_iinc (v2 := (nI (k + 1))) 1 [(1, .int (nI (k + 1))), (2, .int (bI (oG os k).1)), (0, .ref s)] dX10_pass_96 rfl (nI_1 k) (by decide) rfl ?_
            refine r_goto (tgt := 2) dX10_pass_99 (by decide) ?_
            refine r_ls [0, 2] (ls2 := [(1, .int (nI (k + 1))), (0, .ref s)]) rfl ?_
            have K := ih (k + 1) (by omega)
            rw [e9c] at K
            exact K
          · have h3 : ¬ (psO cl nt ev os k (d, cr)).1.testBit (oG os k).2.1 = (oG os k).1 := fun h => h2 (congrArg bI h)
            have e9 : (psO cl nt ev os (k + 1) (d, cr)) = ((psO cl nt ev os k (d, cr)).1 ^^^ 2 ^ (oG os k).2.1, (psO cl nt ev os k (d, cr)).2 + 1) := by
              show stO cl nt ev (psO cl nt ev os k (d, cr)) (oG os k) = _
              unfold stO
              rw [if_pos hg, if_neg h3]
            have e9c : (psO cl nt ev os (k + 1) (d, cr)).2 = (psO cl nt ev os k (d, cr)).2 + 1 := by rw [e9]
            have e9d : (if (psO cl nt ev os k (d, cr)).1.testBit (oG os k).2.1 = (oG os k).1 then (psO cl nt ev os k (d, cr)).1 else (psO cl nt ev os k (d, cr)).1 ^^^ 2 ^ (oG os k).2.1) = (psO cl nt ev os (k + 1) (d, cr)).1 := by rw [e9, if_neg h3]
            refine r_aload_n 2 dX10_pass_72 rfl ?_
            refine r_dup dX10_pass_73 rfl ?_
            refine r_getf (v := .int (psO cl nt ev os k (d, cr)).2) 0 dX10_pass_74 fl_X10_39 rfl rfl ?_
            refine r_iconst (v := (1 : Int32)) dX10_pass_77 (by decide) ?_
            refine r_iadd dX10_pass_78 ?_
            refine r_putf (ws2 := ((s, .inr (10, [.int (nI ne), .int (nI nt), .ref aC, .ref aD, .ref aO, .ref aT, .int ev, .int ((psO cl nt ev os k (d, cr)).2 + (1 : Int32))])) :: ((aD, zA g 10 (dbF (psO cl nt ev os k (d, cr)).1)) :: t))) 0 dX10_pass_79 fl_X10_39 rfl (Nat.le_of_ble_eq_true rfl) rfl rfl rfl ?_
            refine r_aload_n 2 dX10_pass_82 rfl ?_
            refine r_getf (v := .ref aD) 0 dX10_pass_83 fl_X10_15 rfl rfl ?_
            refine r_aload_n 2 dX10_pass_86 rfl ?_
            refine r_getf (v := .ref aO) 0 dX10_pass_87 fl_X10_19 rfl rfl ?_
            refine r_iload_n 1 dX10_pass_90 rfl ?_
            refine r_aaldm (t := 4) (n := oa.length) (f := (fun k => oa[k]?)) (v := .ref (oa.getD k 0)) dX10_pass_91 rfl rfl (List.mem_cons_of_mem _ (List.mem_cons_of_mem _ hO.2.2.1)) (ib_nI hk3 (by omega)) (by rw [nI_clamp (by omega), List.getD_eq_getElem?_getD, List.getElem?_eq_getElem hk3]; rfl) ?_
            refine r_iconst (v := (1 : Int32)) dX10_pass_92 (by decide) ?_
            refine r_ialdm (n := 2) (f := (oR os k)) dX10_pass_93 (List.mem_cons_of_mem _ (List.mem_cons_of_mem _ om)) (by decide) ?_
            refine r_top (w := .int (nI (oG os k).2.1)) (by rw [cl1]; rfl) ?_
            refine r_iload_n 0 dX10_pass_94 rfl ?_
            refine r_zast (w := (bI (oG os k).1)) (ws2 := ((s, .inr (10, [.int (nI ne), .int (nI nt), .ref aC, .ref aD, .ref aO, .ref aT, .int ev, .int ((psO cl nt ev os k (d, cr)).2 + (1 : Int32))])) :: ((aD, zA g 10 (dbF (psO cl nt ev os (k + 1) (d, cr)).1)) :: t))) 1 dX10_pass_95 rfl (ib_nI (by omega) (by decide)) (bI_nar _) (by rw [nI_clamp (by omega), dbF_set, e9d] <;> rfl) ?_
            refine r_iinc (v2 := (nI (k + 1))) 1 [(1, .int (nI (k + 1))), (2, .int (bI (oG os k).1)), (0, .ref s)] dX10_pass_96 rfl (nI_1 k) (by decide) rfl ?_
            refine r_goto (tgt := 2) dX10_pass_99 (by decide) ?_
            refine r_ls [0, 2] (ls2 := [(1, .int (nI (k + 1))), (0, .ref s)]) rfl ?_
            have K := ih (k + 1) (by omega)
            rw [e9c] at K
            exact K
        · have hac : (oG os k).1 = true := by cases h9 : (oG os k).1 with | false => rw [h9] at h1; exact absurd h1 (by decide) | true => rfl
          refine r_iconst (v := (1 : Int32)) dX10_pass_49 (by decide) ?_
          refine r_goto (tgt := 54) dX10_pass_50 (by decide) ?_
          refine r_top (w := .int (bI (oG os k).1)) (by rw [hac]; rfl) ?_
          refine r_istore_n [(2, .int (bI (oG os k).1)), (1, .int (nI k)), (0, .ref s)] dX10_pass_54 (by decide) rfl ?_
          refine r_aload_n 2 dX10_pass_55 rfl ?_
          refine r_getf (v := .ref aD) 0 dX10_pass_56 fl_X10_15 rfl rfl ?_
          refine r_aload_n 2 dX10_pass_59 rfl ?_
          refine r_getf (v := .ref aO) 0 dX10_pass_60 fl_X10_19 rfl rfl ?_
          refine r_iload_n 1 dX10_pass_63 rfl ?_
          refine r_aaldm (t := 4) (n := oa.length) (f := (fun k => oa[k]?)) (v := .ref (oa.getD k 0)) dX10_pass_64 rfl rfl (List.mem_cons_of_mem _ (List.mem_cons_of_mem _ hO.2.2.1)) (ib_nI hk3 (by omega)) (by rw [nI_clamp (by omega), List.getD_eq_getElem?_getD, List.getElem?_eq_getElem hk3]; rfl) ?_
          refine r_iconst (v := (1 : Int32)) dX10_pass_65 (by decide) ?_
          refine r_ialdm (n := 2) (f := (oR os k)) dX10_pass_66 (List.mem_cons_of_mem _ (List.mem_cons_of_mem _ om)) (by decide) ?_
          refine r_top (w := .int (nI (oG os k).2.1)) (by rw [cl1]; rfl) ?_
          refine r_zaldm (n := 10) (f := (dbF (psO cl nt ev os k (d, cr)).1)) dX10_pass_67 (List.mem_cons_of_mem _ List.mem_cons_self) (ib_nI (by omega) (by decide)) ?_
          refine r_top (w := .int (dbF (psO cl nt ev os k (d, cr)).1 (oG os k).2.1)) (by rw [nI_clamp (by omega)]) ?_
          refine r_iload_n 0 dX10_pass_68 rfl ?_
          refine r_icmp_eq (tgt := 82) dX10_pass_69 (by decide) (fun h2 => ?_) (fun h2 => ?_)
          · have h3 : (psO cl nt ev os k (d, cr)).1.testBit (oG os k).2.1 = (oG os k).1 := bI_inj h2
            have e9 : (psO cl nt ev os (k + 1) (d, cr)) = (psO cl nt ev os k (d, cr)) := by
              show stO cl nt ev (psO cl nt ev os k (d, cr)) (oG os k) = _
              unfold stO
              rw [if_pos hg, if_pos h3]
            have e9c : (psO cl nt ev os (k + 1) (d, cr)).2 = (psO cl nt ev os k (d, cr)).2 := by rw [e9]
            have e9d : (if (psO cl nt ev os k (d, cr)).1.testBit (oG os k).2.1 = (oG os k).1 then (psO cl nt ev os k (d, cr)).1 else (psO cl nt ev os k (d, cr)).1 ^^^ 2 ^ (oG os k).2.1) = (psO cl nt ev os (k + 1) (d, cr)).1 := by rw [e9, if_pos h3]
            refine r_aload_n 2 dX10_pass_82 rfl ?_
            refine r_getf (v := .ref aD) 0 dX10_pass_83 fl_X10_15 rfl rfl ?_
            refine r_aload_n 2 dX10_pass_86 rfl ?_
            refine r_getf (v := .ref aO) 0 dX10_pass_87 fl_X10_19 rfl rfl ?_
            refine r_iload_n 1 dX10_pass_90 rfl ?_
            refine r_aaldm (t := 4) (n := oa.length) (f := (fun k => oa[k]?)) (v := .ref (oa.getD k 0)) dX10_pass_91 rfl rfl (List.mem_cons_of_mem _ (List.mem_cons_of_mem _ hO.2.2.1)) (ib_nI hk3 (by omega)) (by rw [nI_clamp (by omega), List.getD_eq_getElem?_getD, List.getElem?_eq_getElem hk3]; rfl) ?_
            refine r_iconst (v := (1 : Int32)) dX10_pass_92 (by decide) ?_
            refine r_ialdm (n := 2) (f := (oR os k)) dX10_pass_93 (List.mem_cons_of_mem _ (List.mem_cons_of_mem _ om)) (by decide) ?_
            refine r_top (w := .int (nI (oG os k).2.1)) (by rw [cl1]; rfl) ?_
            refine r_iload_n 0 dX10_pass_94 rfl ?_
            refine r_zast (w := (bI (oG os k).1)) (ws2 := ((s, .inr (10, [.int (nI ne), .int (nI nt), .ref aC, .ref aD, .ref aO, .ref aT, .int ev, .int (psO cl nt ev os k (d, cr)).2])) :: ((aD, zA g 10 (dbF (psO cl nt ev os (k + 1) (d, cr)).1)) :: t))) 1 dX10_pass_95 rfl (ib_nI (by omega) (by decide)) (bI_nar _) (by rw [nI_clamp (by omega), dbF_set, e9d] <;> rfl) ?_
            refine r_iinc (v2 := (nI (k + 1))) 1 [(1, .int (nI (k + 1))), (2, .int (bI (oG os k).1)), (0, .ref s)] dX10_pass_96 rfl (nI_1 k) (by decide) rfl ?_
            refine r_goto (tgt := 2) dX10_pass_99 (by decide) ?_
            refine r_ls [0, 2] (ls2 := [(1, .int (nI (k + 1))), (0, .ref s)]) rfl ?_
            have K := ih (k + 1) (by omega)
            rw [e9c] at K
            exact K
          · have h3 : ¬ (psO cl nt ev os k (d, cr)).1.testBit (oG os k).2.1 = (oG os k).1 := fun h => h2 (congrArg bI h)
            have e9 : (psO cl nt ev os (k + 1) (d, cr)) = ((psO cl nt ev os k (d, cr)).1 ^^^ 2 ^ (oG os k).2.1, (psO cl nt ev os k (d, cr)).2 + 1) := by
              show stO cl nt ev (psO cl nt ev os k (d, cr)) (oG os k) = _
              unfold stO
              rw [if_pos hg, if_neg h3]
            have e9c : (psO cl nt ev os (k + 1) (d, cr)).2 = (psO cl nt ev os k (d, cr)).2 + 1 := by rw [e9]
            have e9d : (if (psO cl nt ev os k (d, cr)).1.testBit (oG os k).2.1 = (oG os k).1 then (psO cl nt ev os k (d, cr)).1 else (psO cl nt ev os k (d, cr)).1 ^^^ 2 ^ (oG os k).2.1) = (psO cl nt ev os (k + 1) (d, cr)).1 := by rw [e9, if_neg h3]
            refine r_aload_n 2 dX10_pass_72 rfl ?_
            refine r_dup dX10_pass_73 rfl ?_
            refine r_getf (v := .int (psO cl nt ev os k (d, cr)).2) 0 dX10_pass_74 fl_X10_39 rfl rfl ?_
            refine r_iconst (v := (1 : Int32)) dX10_pass_77 (by decide) ?_
            refine r_iadd dX10_pass_78 ?_
            refine r_putf (ws2 := ((s, .inr (10, [.int (nI ne), .int (nI nt), .ref aC, .ref aD, .ref aO, .ref aT, .int ev, .int ((psO cl nt ev os k (d, cr)).2 + (1 : Int32))])) :: ((aD, zA g 10 (dbF (psO cl nt ev os k (d, cr)).1)) :: t))) 0 dX10_pass_79 fl_X10_39 rfl (Nat.le_of_ble_eq_true rfl) rfl rfl rfl ?_
            refine r_aload_n 2 dX10_pass_82 rfl ?_
            refine r_getf (v := .ref aD) 0 dX10_pass_83 fl_X10_15 rfl rfl ?_
            refine r_aload_n 2 dX10_pass_86 rfl ?_
            refine r_getf (v := .ref aO) 0 dX10_pass_87 fl_X10_19 rfl rfl ?_
            refine r_iload_n 1 dX10_pass_90 rfl ?_
            refine r_aaldm (t := 4) (n := oa.length) (f := (fun k => oa[k]?)) (v := .ref (oa.getD k 0)) dX10_pass_91 rfl rfl (List.mem_cons_of_mem _ (List.mem_cons_of_mem _ hO.2.2.1)) (ib_nI hk3 (by omega)) (by rw [nI_clamp (by omega), List.getD_eq_getElem?_getD, List.getElem?_eq_getElem hk3]; rfl) ?_
            refine r_iconst (v := (1 : Int32)) dX10_pass_92 (by decide) ?_
            refine r_ialdm (n := 2) (f := (oR os k)) dX10_pass_93 (List.mem_cons_of_mem _ (List.mem_cons_of_mem _ om)) (by decide) ?_
            refine r_top (w := .int (nI (oG os k).2.1)) (by rw [cl1]; rfl) ?_
            refine r_iload_n 0 dX10_pass_94 rfl ?_
            refine r_zast (w := (bI (oG os k).1)) (ws2 := ((s, .inr (10, [.int (nI ne), .int (nI nt), .ref aC, .ref aD, .ref aO, .ref aT, .int ev, .int ((psO cl nt ev os k (d, cr)).2 + (1 : Int32))])) :: ((aD, zA g 10 (dbF (psO cl nt ev os (k + 1) (d, cr)).1)) :: t))) 1 dX10_pass_95 rfl (ib_nI (by omega) (by decide)) (bI_nar _) (by rw [nI_clamp (by omega), dbF_set, e9d] <;> rfl) ?_
            refine r_iinc (v2 := (nI (k + 1))) 1 [(1, .int (nI (k + 1))), (2, .int (bI (oG os k).1)), (0, .ref s)] dX10_pass_96 rfl (nI_1 k) (by decide) rfl ?_
            refine r_goto (tgt := 2) dX10_pass_99 (by decide) ?_
            refine r_ls [0, 2] (ls2 := [(1, .int (nI (k + 1))), (0, .ref s)]) rfl ?_
            have K := ih (k + 1) (by omega)
            rw [e9c] at K
            exact K
      refine r_aload_n 1 dX10_pass_11 rfl ?_
      refine r_getf (v := .ref aT) 0 dX10_pass_12 fl_X10_24 rfl rfl ?_
      refine r_iload_n 0 dX10_pass_15 rfl ?_
      cases hte : (oG os k).2.2 with
      | none =>
        refine r_aaldm (t := 6) (n := oa.length) (f := (oT os)) (v := .null) dX10_pass_16 rfl rfl (List.mem_cons_of_mem _ (List.mem_cons_of_mem _ hO.2.2.2.1)) (ib_nI hk3 (by omega)) (by rw [nI_clamp (by omega), oT_n hte]; rfl) ?_
        refine r_ifnullN (tgt := 37) dX10_pass_17 (by decide) ?_
        refine r_room (x2 := 320 * m) (y2 := 3200 * m) (by omega) (by omega) ?_
        exact B (by unfold goesO; rw [hte])
      | some T =>
        obtain ⟨hT, hTB⟩ := ot T hte
        refine r_aaldm (t := 6) (n := oa.length) (f := (oT os)) (v := .ref (tA 4 T)) dX10_pass_16 rfl rfl (List.mem_cons_of_mem _ (List.mem_cons_of_mem _ hO.2.2.2.1)) (ib_nI hk3 (by omega)) (by rw [nI_clamp (by omega), oT_s hte]; rfl) ?_
        refine r_ifnull dX10_pass_17 ?_
        refine r_aload_n 1 dX10_pass_20 rfl ?_
        refine r_getf (v := .ref aT) 0 dX10_pass_21 fl_X10_24 rfl rfl ?_
        refine r_iload_n 0 dX10_pass_24 rfl ?_
        refine r_aaldm (t := 6) (n := oa.length) (f := (oT os)) (v := .ref (tA 4 T)) dX10_pass_25 rfl rfl (List.mem_cons_of_mem _ (List.mem_cons_of_mem _ hO.2.2.2.1)) (ib_nI hk3 (by omega)) (by rw [nI_clamp (by omega), oT_s hte]; rfl) ?_
        refine r_aload_n 1 dX10_pass_26 rfl ?_
        obtain ⟨fsT, hfT⟩ := TM.cell 4 T hT
        refine r_room (x2 := 320 * m + 320) (y2 := 3200 * m + 3200) (by omega) (by omega) ?_
        refine k_Vm (x := 320 * m) (y := 3200 * m) (rest := []) dX10_pass_27 kv_X10_68 ((cl_of hV hn hne hd0 4 T _ (TM.mono (fun p hp => (List.mem_cons_of_mem _ (List.mem_cons_of_mem _ hp))) 4 T hT) (SimR.m hC) (Or.inr hTB)).dq) rfl rfl (List.mem_cons_of_mem _ (List.mem_cons_of_mem _ hfT)) rfl (by decide) (by decide) (by decide) ?_
        rintro ⟨⟩ -
        show R g mX10_pass 14 (320 * m) (3200 * m) 30 [(1, .int (nI k)), (0, .ref s)] [.int (vlE cl (psO cl nt ev os k (d, cr)).1 nt ev 4 T)] ((s, .inr (10, [.int (nI ne), .int (nI nt), .ref aC, .ref aD, .ref aO, .ref aT, .int ev, .int (psO cl nt ev os k (d, cr)).2])) :: ((aD, zA g 10 (dbF (psO cl nt ev os k (d, cr)).1)) :: t)) _
        refine r_iconst (v := (1 : Int32)) dX10_pass_30 (by decide) ?_
        refine r_icmp_eq (tgt := 37) dX10_pass_31 (by decide) (fun h1 => ?_) (fun h1 => ?_)
        · exact B (by unfold goesO; rw [hte]; exact decide_eq_true h1)
        · have e9 : (psO cl nt ev os (k + 1) (d, cr)) = (psO cl nt ev os k (d, cr)) := by
            show stO cl nt ev (psO cl nt ev os k (d, cr)) (oG os k) = _
            unfold stO
            rw [if_neg (by unfold goesO; rw [hte]; simpa using h1)]
          refine r_goto (tgt := 96) dX10_pass_34 (by decide) ?_
          refine r_iinc (v2 := (nI (k + 1))) 0 [(1, .int (nI (k + 1))), (0, .ref s)] dX10_pass_96 rfl (nI_1 k) (by decide) rfl ?_
          refine r_goto (tgt := 2) dX10_pass_99 (by decide) ?_
          have K := ih (k + 1) (by omega)
          rw [e9] at K
          exact K
  exact L os.length 0 rfl
