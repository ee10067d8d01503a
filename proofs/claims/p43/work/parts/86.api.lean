/-! the class's contracts in the Sim's words -/
/-- the class's object, its rows and parts, with what they say -/
def CI (g : GG) (ad : Nat → Nat) (w : va_W) (ne nt : Nat) (cl : List (Nat → Int32)) (os : List OT) (d : Nat) (ev cr : Int32) : Prop :=
  ∃ (xi : Nat → Int32) (xa : Nat → Nat → Int32) (xj : Nat → Int64) (xb : Nat → Nat → Int64), w = wlX g ad (xi 0) (xi 1) (xa 2) (xi 3) (xi 4) (xi 5) (xa 6) (xa 7) (xa 8) (xa 9) (xa 10) (xi 11) (xi 12) (xa 13) (xa 14) (xa 15) (xa 16) (xa 17) (xi 18) (xi 19) (xi 20) (xa 21) (xa 22) (xa 23) (xi 24) (xi 25) (xi 26) (xi 27) (xi 28) (xi 29) (xi 30) (xi 31) (xj 32) (xa 33) (xa 34) (xa 35) (xb 36) (xi 37) (xb 38) (xi 39) (xi 40) (xi 41) (xa 42) (xa 43) (xa 44) (xa 45) (xa 46) (xi 47) (xi 48) (xa 49) (xa 50) (xa 51) (xa 52) (xa 53) (xi 54) (xb 55) (xi 56) (xb 57) (xi 58) (xi 59) (xi 60) (xi 61) (xa 62) (xi 63) (xi 64) (xi 65) (xi 66) (xa 67) ∧ 0 < ne ∧ ne ≤ 6 ∧ 0 < nt ∧ nt ≤ 6 ∧ d < 1024 ∧ cl.length ≤ 40 ∧ (xi 3) = nI ne ∧ (xi 4) = nI nt ∧ (xi 5) = nI cl.length ∧ (xi 59) = nI d ∧ (xi 60) = ev ∧ (xi 61) = cr ∧ OrI ne nt os (xi 11) (xa 13) (xa 14) (xa 15) (xa 16) (xa 17) ∧ ∃ A, WS A ne nt cl (xa 6) (xa 7) (xa 8) (xa 9) (xa 10) (xa 21) ∧ XC A nt (xi 18) (xi 19) (xi 20)

section AP
variable {g : GG} {ad : Nat → Nat} {t w : va_W} {ne nt d : Nat} {cl : List (Nat → Int32)} {os : List OT} {ev cr : Int32}
theorem CI.mk {x0 : Int32} {x1 : Int32} {x2 : Nat → Int32} {x3 : Int32} {x4 : Int32} {x5 : Int32} {x6 : Nat → Int32} {x7 : Nat → Int32} {x8 : Nat → Int32} {x9 : Nat → Int32} {x10 : Nat → Int32} {x11 : Int32} {x12 : Int32} {x13 : Nat → Int32} {x14 : Nat → Int32} {x15 : Nat → Int32} {x16 : Nat → Int32} {x17 : Nat → Int32} {x18 : Int32} {x19 : Int32} {x20 : Int32} {x21 : Nat → Int32} {x22 : Nat → Int32} {x23 : Nat → Int32} {x24 : Int32} {x25 : Int32} {x26 : Int32} {x27 : Int32} {x28 : Int32} {x29 : Int32} {x30 : Int32} {x31 : Int32} {x32 : Int64} {x33 : Nat → Int32} {x34 : Nat → Int32} {x35 : Nat → Int32} {x36 : Nat → Int64} {x37 : Int32} {x38 : Nat → Int64} {x39 : Int32} {x40 : Int32} {x41 : Int32} {x42 : Nat → Int32} {x43 : Nat → Int32} {x44 : Nat → Int32} {x45 : Nat → Int32} {x46 : Nat → Int32} {x47 : Int32} {x48 : Int32} {x49 : Nat → Int32} {x50 : Nat → Int32} {x51 : Nat → Int32} {x52 : Nat → Int32} {x53 : Nat → Int32} {x54 : Int32} {x55 : Nat → Int64} {x56 : Int32} {x57 : Nat → Int64} {x58 : Int32} {x59 : Int32} {x60 : Int32} {x61 : Int32} {x62 : Nat → Int32} {x63 : Int32} {x64 : Int32} {x65 : Int32} {x66 : Int32} {x67 : Nat → Int32} (h : 0 < ne ∧ ne ≤ 6 ∧ 0 < nt ∧ nt ≤ 6 ∧ d < 1024 ∧ cl.length ≤ 40 ∧ x3 = nI ne ∧ x4 = nI nt ∧ x5 = nI cl.length ∧ x59 = nI d ∧ x60 = ev ∧ x61 = cr ∧ OrI ne nt os x11 x13 x14 x15 x16 x17 ∧ ∃ A, WS A ne nt cl x6 x7 x8 x9 x10 x21 ∧ XC A nt x18 x19 x20) : CI g ad (wlX g ad x0 x1 x2 x3 x4 x5 x6 x7 x8 x9 x10 x11 x12 x13 x14 x15 x16 x17 x18 x19 x20 x21 x22 x23 x24 x25 x26 x27 x28 x29 x30 x31 x32 x33 x34 x35 x36 x37 x38 x39 x40 x41 x42 x43 x44 x45 x46 x47 x48 x49 x50 x51 x52 x53 x54 x55 x56 x57 x58 x59 x60 x61 x62 x63 x64 x65 x66 x67) ne nt cl os d ev cr :=
  ⟨(fun j => if j = 0 then x0 else if j = 1 then x1 else if j = 3 then x3 else if j = 4 then x4 else if j = 5 then x5 else if j = 11 then x11 else if j = 12 then x12 else if j = 18 then x18 else if j = 19 then x19 else if j = 20 then x20 else if j = 24 then x24 else if j = 25 then x25 else if j = 26 then x26 else if j = 27 then x27 else if j = 28 then x28 else if j = 29 then x29 else if j = 30 then x30 else if j = 31 then x31 else if j = 37 then x37 else if j = 39 then x39 else if j = 40 then x40 else if j = 41 then x41 else if j = 47 then x47 else if j = 48 then x48 else if j = 54 then x54 else if j = 56 then x56 else if j = 58 then x58 else if j = 59 then x59 else if j = 60 then x60 else if j = 61 then x61 else if j = 63 then x63 else if j = 64 then x64 else if j = 65 then x65 else x66), (fun j => if j = 2 then x2 else if j = 6 then x6 else if j = 7 then x7 else if j = 8 then x8 else if j = 9 then x9 else if j = 10 then x10 else if j = 13 then x13 else if j = 14 then x14 else if j = 15 then x15 else if j = 16 then x16 else if j = 17 then x17 else if j = 21 then x21 else if j = 22 then x22 else if j = 23 then x23 else if j = 33 then x33 else if j = 34 then x34 else if j = 35 then x35 else if j = 42 then x42 else if j = 43 then x43 else if j = 44 then x44 else if j = 45 then x45 else if j = 46 then x46 else if j = 49 then x49 else if j = 50 then x50 else if j = 51 then x51 else if j = 52 then x52 else if j = 53 then x53 else if j = 62 then x62 else x67), (fun j => x32), (fun j => if j = 36 then x36 else if j = 38 then x38 else if j = 55 then x55 else x57), rfl, h⟩
theorem CI.cell (h : CI g ad w ne nt cl os d ev cr) : ∃ fs, (ad 0, .inr (9, fs)) ∈ w := by
  obtain ⟨xi, xa, xj, xb, rfl, -⟩ := h
  exact ⟨_, List.mem_cons_self⟩
theorem CI.num (h : CI g ad w ne nt cl os d ev cr) : 0 < ne ∧ ne ≤ 6 ∧ 0 < nt ∧ nt ≤ 6 ∧ d < 1024 ∧ cl.length ≤ 40 ∧ (∀ k, k < cl.length → CV1 ne nt (rw5 cl k)) ∧ CD cl := by
  obtain ⟨xi, xa, xj, xb, -, h1, h2, h3, h4, h5, h6, -, -, -, -, -, -, -, A, hw, -⟩ := h
  exact ⟨h1, h2, h3, h4, h5, h6, hw.2.2.1, hw.2.2.2⟩

theorem ap_events (hI : CI g ad w ne nt cl os d ev cr) : Ct g mX9_events 1 0 0 [.ref (ad 0)] (w ++ t) (Dq (fun (_ : va_W) => some (.int (nI ne))) (fun z => z ++ t) (fun z => CI g ad z ne nt cl os d ev cr)) := by
  obtain ⟨xi, xa, xj, xb, rfl, h1, h2, h3, h4, h5, h6, e3, e4, e5, e59, e60, e61, ho, A, hw, hx⟩ := hI
  rw [e3, e4, e5, e59, e60, e61]
  exact (ct_Main_events (g := g) (ad := ad) (t := t) rfl).mono (fun r w2 h => ⟨_, h.1, h.2, CI.mk ⟨h1, h2, h3, h4, h5, h6, rfl, rfl, rfl, rfl, rfl, rfl, ho, _, hw, hx⟩⟩)
theorem ap_tellers (hI : CI g ad w ne nt cl os d ev cr) : Ct g mX9_tellers 1 0 0 [.ref (ad 0)] (w ++ t) (Dq (fun (_ : va_W) => some (.int (nI nt))) (fun z => z ++ t) (fun z => CI g ad z ne nt cl os d ev cr)) := by
  obtain ⟨xi, xa, xj, xb, rfl, h1, h2, h3, h4, h5, h6, e3, e4, e5, e59, e60, e61, ho, A, hw, hx⟩ := hI
  rw [e3, e4, e5, e59, e60, e61]
  exact (ct_Main_tellers (g := g) (ad := ad) (t := t) rfl).mono (fun r w2 h => ⟨_, h.1, h.2, CI.mk ⟨h1, h2, h3, h4, h5, h6, rfl, rfl, rfl, rfl, rfl, rfl, ho, _, hw, hx⟩⟩)
theorem ap_claims (hI : CI g ad w ne nt cl os d ev cr) : Ct g mX9_claims 1 0 0 [.ref (ad 0)] (w ++ t) (Dq (fun (_ : va_W) => some (.int (nI cl.length))) (fun z => z ++ t) (fun z => CI g ad z ne nt cl os d ev cr)) := by
  obtain ⟨xi, xa, xj, xb, rfl, h1, h2, h3, h4, h5, h6, e3, e4, e5, e59, e60, e61, ho, A, hw, hx⟩ := hI
  rw [e3, e4, e5, e59, e60, e61]
  exact (ct_Main_claims (g := g) (ad := ad) (t := t) rfl).mono (fun r w2 h => ⟨_, h.1, h.2, CI.mk ⟨h1, h2, h3, h4, h5, h6, rfl, rfl, rfl, rfl, rfl, rfl, ho, _, hw, hx⟩⟩)
theorem ap_evenings (hI : CI g ad w ne nt cl os d ev cr) : Ct g mX9_evenings 1 0 0 [.ref (ad 0)] (w ++ t) (Dq (fun (_ : va_W) => some (.int ev)) (fun z => z ++ t) (fun z => CI g ad z ne nt cl os d ev cr)) := by
  obtain ⟨xi, xa, xj, xb, rfl, h1, h2, h3, h4, h5, h6, e3, e4, e5, e59, e60, e61, ho, A, hw, hx⟩ := hI
  rw [e3, e4, e5, e59, e60, e61]
  exact (ct_Main_evenings (g := g) (ad := ad) (t := t) rfl).mono (fun r w2 h => ⟨_, h.1, h.2, CI.mk ⟨h1, h2, h3, h4, h5, h6, rfl, rfl, rfl, rfl, rfl, rfl, ho, _, hw, hx⟩⟩)
theorem ap_ordersCarriedOut (hI : CI g ad w ne nt cl os d ev cr) : Ct g mX9_ordersCarriedOut 1 0 0 [.ref (ad 0)] (w ++ t) (Dq (fun (_ : va_W) => some (.int cr)) (fun z => z ++ t) (fun z => CI g ad z ne nt cl os d ev cr)) := by
  obtain ⟨xi, xa, xj, xb, rfl, h1, h2, h3, h4, h5, h6, e3, e4, e5, e59, e60, e61, ho, A, hw, hx⟩ := hI
  rw [e3, e4, e5, e59, e60, e61]
  exact (ct_Main_ordersCarriedOut (g := g) (ad := ad) (t := t) rfl).mono (fun r w2 h => ⟨_, h.1, h.2, CI.mk ⟨h1, h2, h3, h4, h5, h6, rfl, rfl, rfl, rfl, rfl, rfl, ho, _, hw, hx⟩⟩)
theorem ap_tellerOf (hI : CI g ad w ne nt cl os d ev cr) {c : Nat} (hc : c < cl.length) : Ct g mX9_tellerOf 7 1 6 [.ref (ad 0), .int (nI c)] (w ++ t) (Dq (fun (_ : va_W) => some (.int (rw5 cl c 1))) (fun z => z ++ t) (fun z => CI g ad z ne nt cl os d ev cr)) := by
  obtain ⟨xi, xa, xj, xb, rfl, h1, h2, h3, h4, h5, h6, e3, e4, e5, e59, e60, e61, ho, A, hw, hx⟩ := hI
  rw [e3, e4, e5, e59, e60, e61]
  exact (ct_Main_tellerOf (g := g) (ad := ad) (t := t) (v_tellerOf hw hc)).mono (fun r w2 h => ⟨_, h.1, h.2, CI.mk ⟨h1, h2, h3, h4, h5, h6, rfl, rfl, rfl, rfl, rfl, rfl, ho, _, hw, hx⟩⟩)
theorem ap_kindOf (hI : CI g ad w ne nt cl os d ev cr) {c : Nat} (hc : c < cl.length) : Ct g mX9_kindOf 7 1 6 [.ref (ad 0), .int (nI c)] (w ++ t) (Dq (fun (_ : va_W) => some (.int (rw5 cl c 0))) (fun z => z ++ t) (fun z => CI g ad z ne nt cl os d ev cr)) := by
  obtain ⟨xi, xa, xj, xb, rfl, h1, h2, h3, h4, h5, h6, e3, e4, e5, e59, e60, e61, ho, A, hw, hx⟩ := hI
  rw [e3, e4, e5, e59, e60, e61]
  exact (ct_Main_kindOf (g := g) (ad := ad) (t := t) (v_kindOf hw hc)).mono (fun r w2 h => ⟨_, h.1, h.2, CI.mk ⟨h1, h2, h3, h4, h5, h6, rfl, rfl, rfl, rfl, rfl, rfl, ho, _, hw, hx⟩⟩)
theorem ap_eventOf (hI : CI g ad w ne nt cl os d ev cr) {c : Nat} (hc : c < cl.length) : Ct g mX9_eventOf 7 1 6 [.ref (ad 0), .int (nI c)] (w ++ t) (Dq (fun (_ : va_W) => some (.int (rw5 cl c 2))) (fun z => z ++ t) (fun z => CI g ad z ne nt cl os d ev cr)) := by
  obtain ⟨xi, xa, xj, xb, rfl, h1, h2, h3, h4, h5, h6, e3, e4, e5, e59, e60, e61, ho, A, hw, hx⟩ := hI
  rw [e3, e4, e5, e59, e60, e61]
  exact (ct_Main_eventOf (g := g) (ad := ad) (t := t) (v_eventOf hw hc)).mono (fun r w2 h => ⟨_, h.1, h.2, CI.mk ⟨h1, h2, h3, h4, h5, h6, rfl, rfl, rfl, rfl, rfl, rfl, ho, _, hw, hx⟩⟩)
theorem ap_secondEventOf (hI : CI g ad w ne nt cl os d ev cr) {c : Nat} (hc : c < cl.length) (hk : ¬ rw5 cl c 0 = 0) : Ct g mX9_secondEventOf 7 2 12 [.ref (ad 0), .int (nI c)] (w ++ t) (Dq (fun (_ : va_W) => some (.int (rw5 cl c 3))) (fun z => z ++ t) (fun z => CI g ad z ne nt cl os d ev cr)) := by
  obtain ⟨xi, xa, xj, xb, rfl, h1, h2, h3, h4, h5, h6, e3, e4, e5, e59, e60, e61, ho, A, hw, hx⟩ := hI
  rw [e3, e4, e5, e59, e60, e61]
  exact (ct_Main_secondEventOf (g := g) (ad := ad) (t := t) (v_second hw hc hk)).mono (fun r w2 h => ⟨_, h.1, h.2, CI.mk ⟨h1, h2, h3, h4, h5, h6, rfl, rfl, rfl, rfl, rfl, rfl, ho, _, hw, hx⟩⟩)
theorem ap_firstHourOf (hI : CI g ad w ne nt cl os d ev cr) {c : Nat} (hc : c < cl.length) (hk : rw5 cl c 0 = 0) : Ct g mX9_firstHourOf 7 2 12 [.ref (ad 0), .int (nI c)] (w ++ t) (Dq (fun (_ : va_W) => some (.int (rw5 cl c 3))) (fun z => z ++ t) (fun z => CI g ad z ne nt cl os d ev cr)) := by
  obtain ⟨xi, xa, xj, xb, rfl, h1, h2, h3, h4, h5, h6, e3, e4, e5, e59, e60, e61, ho, A, hw, hx⟩ := hI
  rw [e3, e4, e5, e59, e60, e61]
  exact (ct_Main_firstHourOf (g := g) (ad := ad) (t := t) (v_firstHour hw hc hk)).mono (fun r w2 h => ⟨_, h.1, h.2, CI.mk ⟨h1, h2, h3, h4, h5, h6, rfl, rfl, rfl, rfl, rfl, rfl, ho, _, hw, hx⟩⟩)
theorem ap_lastHourOf (hI : CI g ad w ne nt cl os d ev cr) {c : Nat} (hc : c < cl.length) (hk : rw5 cl c 0 = 0) : Ct g mX9_lastHourOf 7 2 12 [.ref (ad 0), .int (nI c)] (w ++ t) (Dq (fun (_ : va_W) => some (.int (rw5 cl c 4))) (fun z => z ++ t) (fun z => CI g ad z ne nt cl os d ev cr)) := by
  obtain ⟨xi, xa, xj, xb, rfl, h1, h2, h3, h4, h5, h6, e3, e4, e5, e59, e60, e61, ho, A, hw, hx⟩ := hI
  rw [e3, e4, e5, e59, e60, e61]
  exact (ct_Main_lastHourOf (g := g) (ad := ad) (t := t) (v_lastHour hw hc hk)).mono (fun r w2 h => ⟨_, h.1, h.2, CI.mk ⟨h1, h2, h3, h4, h5, h6, rfl, rfl, rfl, rfl, rfl, rfl, ho, _, hw, hx⟩⟩)
theorem ap_areContrary (hI : CI g ad w ne nt cl os d ev cr) {a b : Nat} (ha : a < cl.length) (hb : b < cl.length) : Ct g mX9_areContrary 7 2 12 [.ref (ad 0), .int (nI a), .int (nI b)] (w ++ t) (Dq (fun (_ : va_W) => some (.int (bI (ctF (rw5 cl a) (rw5 cl b))))) (fun z => z ++ t) (fun z => CI g ad z ne nt cl os d ev cr)) := by
  obtain ⟨xi, xa, xj, xb, rfl, h1, h2, h3, h4, h5, h6, e3, e4, e5, e59, e60, e61, ho, A, hw, hx⟩ := hI
  rw [e3, e4, e5, e59, e60, e61]
  exact (ct_Main_areContrary (g := g) (ad := ad) (t := t) (v_areContrary hw ha hb)).mono (fun r w2 h => ⟨_, h.1, h.2, CI.mk ⟨h1, h2, h3, h4, h5, h6, rfl, rfl, rfl, rfl, rfl, rfl, ho, _, hw, hx⟩⟩)
theorem ap_claimsOf (hI : CI g ad w ne nt cl os d ev cr) {a : Nat} (ha : a < nt) : Ct g mX9_claimsOf 7 1 6 [.ref (ad 0), .int (nI a)] (w ++ t) (Dq (fun (_ : va_W) => some (.int (nI (cntS cl (nI a) cl.length)))) (fun z => z ++ t) (fun z => CI g ad z ne nt cl os d ev cr)) := by
  obtain ⟨xi, xa, xj, xb, rfl, h1, h2, h3, h4, h5, h6, e3, e4, e5, e59, e60, e61, ho, A, hw, hx⟩ := hI
  rw [e3, e4, e5, e59, e60, e61]
  exact (ct_Main_claimsOf (g := g) (ad := ad) (t := t) (v_claimsOf (N := 9000) hw (by decide) ha)).mono (fun r w2 h => ⟨_, h.1, h.2, CI.mk ⟨h1, h2, h3, h4, h5, h6, rfl, rfl, rfl, rfl, rfl, rfl, ho, _, hw, hx⟩⟩)
theorem ap_isDoubted (hI : CI g ad w ne nt cl os d ev cr) {a : Nat} (ha : a < nt) : Ct g mX9_isDoubted 7 1 6 [.ref (ad 0), .int (nI a)] (w ++ t) (Dq (fun (_ : va_W) => some (.int (dbF d a))) (fun z => z ++ t) (fun z => CI g ad z ne nt cl os d ev cr)) := by
  obtain ⟨xi, xa, xj, xb, rfl, h1, h2, h3, h4, h5, h6, e3, e4, e5, e59, e60, e61, ho, A, hw, hx⟩ := hI
  rw [e3, e4, e5, e59, e60, e61]
  exact (ct_Main_isDoubted (g := g) (ad := ad) (t := t) (v_isDoubted (by omega) h5 ha)).mono (fun r w2 h => ⟨_, h.1, h.2, CI.mk ⟨h1, h2, h3, h4, h5, h6, rfl, rfl, rfl, rfl, rfl, rfl, ho, _, hw, hx⟩⟩)
theorem ap_doContradict (hI : CI g ad w ne nt cl os d ev cr) {a b : Nat} (ha : a < nt) (hb : b < nt) : Ct g mX9_doContradict 7 2 12 [.ref (ad 0), .int (nI a), .int (nI b)] (w ++ t) (Dq (fun (_ : va_W) => some (.int (bI (conS cl d a b)))) (fun z => z ++ t) (fun z => CI g ad z ne nt cl os d ev cr)) := by
  obtain ⟨xi, xa, xj, xb, rfl, h1, h2, h3, h4, h5, h6, e3, e4, e5, e59, e60, e61, ho, A, hw, hx⟩ := hI
  rw [e3, e4, e5, e59, e60, e61]
  exact (ct_Main_doContradict (g := g) (ad := ad) (t := t) (v_doContradict hw h5 ha hb)).mono (fun r w2 h => ⟨_, h.1, h.2, CI.mk ⟨h1, h2, h3, h4, h5, h6, rfl, rfl, rfl, rfl, rfl, rfl, ho, _, hw, hx⟩⟩)
theorem ap_contraryPairs (hI : CI g ad w ne nt cl os d ev cr) {a b : Nat} (ha : a < nt) (hb : b < nt) : Ct g mX9_contraryPairs 7 2 12 [.ref (ad 0), .int (nI a), .int (nI b)] (w ++ t) (Dq (fun (_ : va_W) => some (.int (nI (prsS cl (nI a) (nI b) cl.length)))) (fun z => z ++ t) (fun z => CI g ad z ne nt cl os d ev cr)) := by
  obtain ⟨xi, xa, xj, xb, rfl, h1, h2, h3, h4, h5, h6, e3, e4, e5, e59, e60, e61, ho, A, hw, hx⟩ := hI
  rw [e3, e4, e5, e59, e60, e61]
  exact (ct_Main_contraryPairs (g := g) (ad := ad) (t := t) (v_contraryPairs (N := 9000) hw (by decide) ha hb)).mono (fun r w2 h => ⟨_, h.1, h.2, CI.mk ⟨h1, h2, h3, h4, h5, h6, rfl, rfl, rfl, rfl, rfl, rfl, ho, _, hw, hx⟩⟩)
theorem ap_contradictions (hI : CI g ad w ne nt cl os d ev cr)  : Ct g mX9_contradictions 3 0 0 [.ref (ad 0)] (w ++ t) (Dq (fun (_ : va_W) => some (.int (nI (pnS cl d nt nt)))) (fun z => z ++ t) (fun z => CI g ad z ne nt cl os d ev cr)) := by
  obtain ⟨xi, xa, xj, xb, rfl, h1, h2, h3, h4, h5, h6, e3, e4, e5, e59, e60, e61, ho, A, hw, hx⟩ := hI
  rw [e3, e4, e5, e59, e60, e61]
  exact (ct_Main_contradictions (g := g) (ad := ad) (t := t) (v_contradictions (N := 9000) hw (by decide))).mono (fun r w2 h => ⟨_, h.1, h.2, CI.mk ⟨h1, h2, h3, h4, h5, h6, rfl, rfl, rfl, rfl, rfl, rfl, ho, _, hw, hx⟩⟩)
theorem ap_liars (hI : CI g ad w ne nt cl os d ev cr)  : Ct g mX9_liars 5 0 0 [.ref (ad 0)] (w ++ t) (Dq (fun (_ : va_W) => some (.int (nI (LIs cl d nt).2.2))) (fun z => z ++ t) (fun z => CI g ad z ne nt cl os d ev cr)) := by
  obtain ⟨xi, xa, xj, xb, rfl, h1, h2, h3, h4, h5, h6, e3, e4, e5, e59, e60, e61, ho, A, hw, hx⟩ := hI
  rw [e3, e4, e5, e59, e60, e61]
  exact (ct_Main_liars (g := g) (ad := ad) (t := t) (v_liars (N := 9000) hw h5 hx (by decide))).mono (fun r w2 h => ⟨_, h.1, h.2, CI.mk ⟨h1, h2, h3, h4, h5, h6, rfl, rfl, rfl, rfl, rfl, rfl, ho, _, hw, xc_at h5⟩⟩)
theorem ap_smallestSets (hI : CI g ad w ne nt cl os d ev cr)  : Ct g mX9_smallestSets 5 0 0 [.ref (ad 0)] (w ++ t) (Dq (fun (_ : va_W) => some (.int (nI (LIs cl d nt).2.1))) (fun z => z ++ t) (fun z => CI g ad z ne nt cl os d ev cr)) := by
  obtain ⟨xi, xa, xj, xb, rfl, h1, h2, h3, h4, h5, h6, e3, e4, e5, e59, e60, e61, ho, A, hw, hx⟩ := hI
  rw [e3, e4, e5, e59, e60, e61]
  exact (ct_Main_smallestSets (g := g) (ad := ad) (t := t) (v_sets (N := 9000) hw h5 hx (by decide))).mono (fun r w2 h => ⟨_, h.1, h.2, CI.mk ⟨h1, h2, h3, h4, h5, h6, rfl, rfl, rfl, rfl, rfl, rfl, ho, _, hw, xc_at h5⟩⟩)
theorem ap_isLiar (hI : CI g ad w ne nt cl os d ev cr) {a : Nat} (ha : a < nt) : Ct g mX9_isLiar 7 1 6 [.ref (ad 0), .int (nI a)] (w ++ t) (Dq (fun (_ : va_W) => some (.int (dbF (LIs cl d nt).1 a))) (fun z => z ++ t) (fun z => CI g ad z ne nt cl os d ev cr)) := by
  obtain ⟨xi, xa, xj, xb, rfl, h1, h2, h3, h4, h5, h6, e3, e4, e5, e59, e60, e61, ho, A, hw, hx⟩ := hI
  rw [e3, e4, e5, e59, e60, e61]
  exact (ct_Main_isLiar (g := g) (ad := ad) (t := t) (v_isLiar (N := 9000) hw h5 hx (by decide) ha)).mono (fun r w2 h => ⟨_, h.1, h.2, CI.mk ⟨h1, h2, h3, h4, h5, h6, rfl, rfl, rfl, rfl, rfl, rfl, ho, _, hw, xc_at h5⟩⟩)
theorem ap_isAgreed (hI : CI g ad w ne nt cl os d ev cr) {e : Nat} (he : e < ne) : Ct g mX9_isAgreed 7 1 6 [.ref (ad 0), .int (nI e)] (w ++ t) (Dq (fun (_ : va_W) => some (.int (bI (decide (0 < (winS cl d e 100).2.2))))) (fun z => z ++ t) (fun z => CI g ad z ne nt cl os d ev cr)) := by
  obtain ⟨xi, xa, xj, xb, rfl, h1, h2, h3, h4, h5, h6, e3, e4, e5, e59, e60, e61, ho, A, hw, hx⟩ := hI
  rw [e3, e4, e5, e59, e60, e61]
  exact (ct_Main_isAgreed (g := g) (ad := ad) (t := t) (v_isAgreed (N := 9000) hw h5 (by decide) he)).mono (fun r w2 h => ⟨_, h.1, h.2, CI.mk ⟨h1, h2, h3, h4, h5, h6, rfl, rfl, rfl, rfl, rfl, rfl, ho, _, hw, hx⟩⟩)
theorem ap_windowFrom (hI : CI g ad w ne nt cl os d ev cr) {e : Nat} (he : e < ne) (hp : 0 < (winS cl d e 100).2.2) : Ct g mX9_windowFrom 7 2 12 [.ref (ad 0), .int (nI e)] (w ++ t) (Dq (fun (_ : va_W) => some (.int (winS cl d e 100).1)) (fun z => z ++ t) (fun z => CI g ad z ne nt cl os d ev cr)) := by
  obtain ⟨xi, xa, xj, xb, rfl, h1, h2, h3, h4, h5, h6, e3, e4, e5, e59, e60, e61, ho, A, hw, hx⟩ := hI
  rw [e3, e4, e5, e59, e60, e61]
  exact (ct_Main_windowFrom (g := g) (ad := ad) (t := t) (v_windowFrom (N := 9000) hw h5 (by decide) he hp)).mono (fun r w2 h => ⟨_, h.1, h.2, CI.mk ⟨h1, h2, h3, h4, h5, h6, rfl, rfl, rfl, rfl, rfl, rfl, ho, _, hw, hx⟩⟩)
theorem ap_windowTo (hI : CI g ad w ne nt cl os d ev cr) {e : Nat} (he : e < ne) (hp : 0 < (winS cl d e 100).2.2) : Ct g mX9_windowTo 7 2 12 [.ref (ad 0), .int (nI e)] (w ++ t) (Dq (fun (_ : va_W) => some (.int (winS cl d e 100).2.1)) (fun z => z ++ t) (fun z => CI g ad z ne nt cl os d ev cr)) := by
  obtain ⟨xi, xa, xj, xb, rfl, h1, h2, h3, h4, h5, h6, e3, e4, e5, e59, e60, e61, ho, A, hw, hx⟩ := hI
  rw [e3, e4, e5, e59, e60, e61]
  exact (ct_Main_windowTo (g := g) (ad := ad) (t := t) (v_windowTo (N := 9000) hw h5 (by decide) he hp)).mono (fun r w2 h => ⟨_, h.1, h.2, CI.mk ⟨h1, h2, h3, h4, h5, h6, rfl, rfl, rfl, rfl, rfl, rfl, ho, _, hw, hx⟩⟩)
theorem ap_hasOrder (hI : CI g ad w ne nt cl os d ev cr)  : Ct g mX9_hasOrder 6 0 0 [.ref (ad 0)] (w ++ t) (Dq (fun (_ : va_W) => some (.int (bI (ogS cl ne (trS cl d nt) ne).isSome))) (fun z => z ++ t) (fun z => CI g ad z ne nt cl os d ev cr)) := by
  obtain ⟨xi, xa, xj, xb, rfl, h1, h2, h3, h4, h5, h6, e3, e4, e5, e59, e60, e61, ho, A, hw, hx⟩ := hI
  rw [e3, e4, e5, e59, e60, e61]
  obtain ⟨a2, o2, hv⟩ := v_hasOrder (N := 9000) hw h5 hx (by decide) (xa 22) (xa 23)
  exact (ct_Main_hasOrder (g := g) (ad := ad) (t := t) (hv)).mono (fun r w2 h => ⟨_, h.1, h.2, CI.mk ⟨h1, h2, h3, h4, h5, h6, rfl, rfl, rfl, rfl, rfl, rfl, ho, _, hw, xc_at h5⟩⟩)
theorem ap_eventAt (hI : CI g ad w ne nt cl os d ev cr) {e : Nat} (he : e < ne) {q : Nat × (Nat → Nat)} (hq : ogS cl ne (trS cl d nt) ne = some q) : Ct g mX9_eventAt 6 1 6 [.ref (ad 0), .int (nI e)] (w ++ t) (Dq (fun (_ : va_W) => some (.int (nI (q.2 e)))) (fun z => z ++ t) (fun z => CI g ad z ne nt cl os d ev cr)) := by
  obtain ⟨xi, xa, xj, xb, rfl, h1, h2, h3, h4, h5, h6, e3, e4, e5, e59, e60, e61, ho, A, hw, hx⟩ := hI
  rw [e3, e4, e5, e59, e60, e61]
  obtain ⟨a2, o2, hv⟩ := v_eventAt (N := 9000) hw h5 hx (by decide) (xa 22) (xa 23) hq he
  exact (ct_Main_eventAt (g := g) (ad := ad) (t := t) (hv)).mono (fun r w2 h => ⟨_, h.1, h.2, CI.mk ⟨h1, h2, h3, h4, h5, h6, rfl, rfl, rfl, rfl, rfl, rfl, ho, _, hw, xc_at h5⟩⟩)
theorem ap_bestToDoubt (hI : CI g ad w ne nt cl os d ev cr)  : Ct g mX9_bestToDoubt 3 0 0 [.ref (ad 0)] (w ++ t) (Dq (fun (_ : va_W) => some (.int (bsS cl d nt nt).1)) (fun z => z ++ t) (fun z => CI g ad z ne nt cl os d ev cr)) := by
  obtain ⟨xi, xa, xj, xb, rfl, h1, h2, h3, h4, h5, h6, e3, e4, e5, e59, e60, e61, ho, A, hw, hx⟩ := hI
  rw [e3, e4, e5, e59, e60, e61]
  exact (ct_Main_bestToDoubt (g := g) (ad := ad) (t := t) (v_best (N := 9000) hw (by decide))).mono (fun r w2 h => ⟨_, h.1, h.2, CI.mk ⟨h1, h2, h3, h4, h5, h6, rfl, rfl, rfl, rfl, rfl, rfl, ho, _, hw, hx⟩⟩)
theorem ap_digest (hI : CI g ad w ne nt cl os d ev cr)  : Ct g mX9_digest 7 0 0 [.ref (ad 0)] (w ++ t) (Dq (fun (_ : va_W) => some (.long (dgS ne nt cl d ev cr))) (fun z => z ++ t) (fun z => CI g ad z ne nt cl os d ev cr)) := by
  obtain ⟨xi, xa, xj, xb, rfl, h1, h2, h3, h4, h5, h6, e3, e4, e5, e59, e60, e61, ho, A, hw, hx⟩ := hI
  rw [e3, e4, e5, e59, e60, e61]
  obtain ⟨a2, o2, hv⟩ := v_digest (N := 9000) hw h5 hx (by decide) (xa 22) (xa 23) ev cr
  exact (ct_Main_digest (g := g) (ad := ad) (t := t) (hv)).mono (fun r w2 h => ⟨_, h.1, h.2, CI.mk ⟨h1, h2, h3, h4, h5, h6, rfl, rfl, rfl, rfl, rfl, rfl, ho, _, hw, xc_at h5⟩⟩)
theorem ap_turnDoubt (hI : CI g ad w ne nt cl os d ev cr) {a : Nat} (ha : a < nt) : Ct g mX9_turnDoubt 7 1 6 [.ref (ad 0), .int (nI a)] (w ++ t) (Dq (fun (_ : va_W) => some (.int (bI (!d.testBit a)))) (fun z => z ++ t) (fun z => CI g ad z ne nt cl os (d ^^^ 2 ^ a) ev cr)) := by
  obtain ⟨xi, xa, xj, xb, rfl, h1, h2, h3, h4, h5, h6, e3, e4, e5, e59, e60, e61, ho, A, hw, hx⟩ := hI
  rw [e3, e4, e5, e59, e60, e61]
  exact (ct_Main_turnDoubt (g := g) (ad := ad) (t := t) (v_turn (by omega) h5 ha)).mono (fun r w2 h => ⟨_, h.1, h.2, CI.mk ⟨h1, h2, h3, h4, xor_lt (n := 10) h5 (Nat.pow_lt_pow_right (by decide) (by omega)), h6, rfl, rfl, rfl, rfl, rfl, rfl, ho, _, hw, hx⟩⟩)
theorem ap_passEvenings (hI : CI g ad w ne nt cl os d ev cr) {k : Nat} (hk1 : 1 ≤ k) (hk : k ≤ 30) : Ct g mX9_passEvenings 8 1 6 [.ref (ad 0), .int (nI k)] (w ++ t) (Dq (fun (_ : va_W) => some (.int ((evS cl nt os k (d, ev, cr)).2.2 - cr))) (fun z => z ++ t) (fun z => CI g ad z ne nt cl os (evS cl nt os k (d, ev, cr)).1 (evS cl nt os k (d, ev, cr)).2.1 (evS cl nt os k (d, ev, cr)).2.2)) := by
  obtain ⟨xi, xa, xj, xb, rfl, h1, h2, h3, h4, h5, h6, e3, e4, e5, e59, e60, e61, ho, A, hw, hx⟩ := hI
  rw [e3, e4, e5, e59, e60, e61]
  obtain ⟨j2, l2, c2, tp, xs2, hx2, hv⟩ := v_pass (N := 9000) (ev := ev) hw ho h4 h5 (by decide) hx (xi 58) cr (xa 62) hk1 hk
  exact (ct_Main_passEvenings (g := g) (ad := ad) (t := t) (hv)).mono (fun r w2 h => ⟨_, h.1, h.2, CI.mk ⟨h1, h2, h3, h4, evS_lt ho (by omega) k (d, ev, cr) h5, h6, rfl, rfl, rfl, rfl, rfl, rfl, ho, _, hw, hx2⟩⟩)
theorem ap_liarsAfter (hI : CI g ad w ne nt cl os d ev cr) {k : Nat} (hk1 : 1 ≤ k) (hk : k ≤ 30) : Ct g mX9_liarsAfter 8 1 6 [.ref (ad 0), .int (nI k)] (w ++ t) (Dq (fun (_ : va_W) => some (.int (nI (LIs cl (evS cl nt os k (d, ev, cr)).1 nt).2.2))) (fun z => z ++ t) (fun z => CI g ad z ne nt cl os d ev cr)) := by
  obtain ⟨xi, xa, xj, xb, rfl, h1, h2, h3, h4, h5, h6, e3, e4, e5, e59, e60, e61, ho, A, hw, hx⟩ := hI
  rw [e3, e4, e5, e59, e60, e61]
  obtain ⟨j2, l2, c2, tp, d2, e2, r2, xs2, hx2, hv⟩ := v_after (N := 9000) (ev := ev) hw ho h4 h5 (by decide) hx cr (xi 63) (xi 64) (xi 65) (xi 66) (xa 67) hk1 hk
  exact (ct_Main_liarsAfter (g := g) (ad := ad) (t := t) (hv)).mono (fun r w2 h => ⟨_, h.1, h.2, CI.mk ⟨h1, h2, h3, h4, h5, h6, rfl, rfl, rfl, rfl, rfl, rfl, ho, _, hw, hx2⟩⟩)
theorem ap_eveningsUntilOneStory (hI : CI g ad w ne nt cl os d ev cr)  : Ct g mX9_eveningsUntilOneStory 8 0 0 [.ref (ad 0)] (w ++ t) (Dq (fun (_ : va_W) => some (.int (unS cl nt os (d, ev, cr)))) (fun z => z ++ t) (fun z => CI g ad z ne nt cl os d ev cr)) := by
  obtain ⟨xi, xa, xj, xb, rfl, h1, h2, h3, h4, h5, h6, e3, e4, e5, e59, e60, e61, ho, A, hw, hx⟩ := hI
  rw [e3, e4, e5, e59, e60, e61]
  obtain ⟨j2, l2, c2, tp, d2, e2, r2, xs2, hx2, hv⟩ := v_until (N := 9000) (ev := ev) hw ho h4 h5 (by decide) hx cr (xi 63) (xi 64) (xi 65) (xi 66) (xa 67)
  exact (ct_Main_eveningsUntilOneStory (g := g) (ad := ad) (t := t) (hv)).mono (fun r w2 h => ⟨_, h.1, h.2, CI.mk ⟨h1, h2, h3, h4, h5, h6, rfl, rfl, rfl, rfl, rfl, rfl, ho, _, hw, hx2⟩⟩)
theorem ap_claimHours (hI : CI g ad w ne nt cl os d ev cr) {f : Nat → Int32} (hf : CV1 ne nt f) (hf0 : f 0 = 0) (hl : cl.length < 40) : Ct g mX9_claimHours 7 3 18 [.ref (ad 0), .int (f 1), .int (f 2), .int (f 3), .int (f 4)] (w ++ t) (Dq (fun (_ : va_W) => some (.int (nI cl.length))) (fun z => z ++ t) (fun z => CI g ad z ne nt (cl ++ [f]) os d ev cr)) := by
  obtain ⟨xi, xa, xj, xb, rfl, h1, h2, h3, h4, h5, h6, e3, e4, e5, e59, e60, e61, ho, A, hw, hx⟩ := hI
  rw [e3, e4, e5, e59, e60, e61]
  obtain ⟨A2, f2, hv, hw2⟩ := v_claimHours (N := 9000) hw (by decide) hf hf0 hl (xi 18)
  exact (ct_Main_claimHours (g := g) (ad := ad) (t := t) (hv)).mono (fun r w2 h => ⟨_, h.1, h.2, CI.mk ⟨h1, h2, h3, h4, h5, by rw [List.length_append]; exact hl, rfl, rfl, rfl, rfl, rfl, rfl, ho, _, hw2, Or.inl rfl⟩⟩)
theorem ap_claimBefore (hI : CI g ad w ne nt cl os d ev cr) {f : Nat → Int32} (hf : CV1 ne nt f) (hf0 : f 0 = 1) (hf2 : ¬ f 0 = 0 → ¬ f 2 = f 3 ∧ f 4 = 0) (hl : cl.length < 40) : Ct g mX9_claimBefore 8 5 30 [.ref (ad 0), .int (f 1), .int (f 2), .int (f 3)] (w ++ t) (Dq (fun (_ : va_W) => some (.int (nI cl.length))) (fun z => z ++ t) (fun z => CI g ad z ne nt (cl ++ [f]) os d ev cr)) := by
  obtain ⟨xi, xa, xj, xb, rfl, h1, h2, h3, h4, h5, h6, e3, e4, e5, e59, e60, e61, ho, A, hw, hx⟩ := hI
  rw [e3, e4, e5, e59, e60, e61]
  obtain ⟨A2, f2, hv, hw2⟩ := v_claimBefore (N := 9000) hw (by decide) hf hf0 hf2 hl (xi 18)
  exact (ct_Main_claimBefore (g := g) (ad := ad) (t := t) (hv)).mono (fun r w2 h => ⟨_, h.1, h.2, CI.mk ⟨h1, h2, h3, h4, h5, by rw [List.length_append]; exact hl, rfl, rfl, rfl, rfl, rfl, rfl, ho, _, hw2, Or.inl rfl⟩⟩)
theorem ap_claimTogether (hI : CI g ad w ne nt cl os d ev cr) {f : Nat → Int32} (hf : CV1 ne nt f) (hf0 : f 0 = 2) (hf2 : ¬ f 0 = 0 → ¬ f 2 = f 3 ∧ f 4 = 0) (hl : cl.length < 40) : Ct g mX9_claimTogether 8 5 30 [.ref (ad 0), .int (f 1), .int (f 2), .int (f 3)] (w ++ t) (Dq (fun (_ : va_W) => some (.int (nI cl.length))) (fun z => z ++ t) (fun z => CI g ad z ne nt (cl ++ [f]) os d ev cr)) := by
  obtain ⟨xi, xa, xj, xb, rfl, h1, h2, h3, h4, h5, h6, e3, e4, e5, e59, e60, e61, ho, A, hw, hx⟩ := hI
  rw [e3, e4, e5, e59, e60, e61]
  obtain ⟨A2, f2, hv, hw2⟩ := v_claimTogether (N := 9000) hw (by decide) hf hf0 hf2 hl (xi 18)
  exact (ct_Main_claimTogether (g := g) (ad := ad) (t := t) (hv)).mono (fun r w2 h => ⟨_, h.1, h.2, CI.mk ⟨h1, h2, h3, h4, h5, by rw [List.length_append]; exact hl, rfl, rfl, rfl, rfl, rfl, rfl, ho, _, hw2, Or.inl rfl⟩⟩)
theorem ap_takeBack (hI : CI g ad w ne nt cl os d ev cr) {c : Nat} (hc : c < cl.length) : Ct g mX9_takeBack 7 1 6 [.ref (ad 0), .int (nI c)] (w ++ t) (Dq (fun (_ : va_W) => some (.int (rw5 cl c 1))) (fun z => z ++ t) (fun z => CI g ad z ne nt (cl.eraseIdx c) os d ev cr)) := by
  obtain ⟨xi, xa, xj, xb, rfl, h1, h2, h3, h4, h5, h6, e3, e4, e5, e59, e60, e61, ho, A, hw, hx⟩ := hI
  rw [e3, e4, e5, e59, e60, e61]
  obtain ⟨A2, f2, hv, hw2⟩ := v_takeBack (N := 9000) hw (by decide) hc (xi 18)
  exact (ct_Main_takeBack (g := g) (ad := ad) (t := t) (hv)).mono (fun r w2 h => ⟨_, h.1, h.2, CI.mk ⟨h1, h2, h3, h4, h5, by have := List.length_eraseIdx_le cl c; omega, rfl, rfl, rfl, rfl, rfl, rfl, ho, _, hw2, Or.inl rfl⟩⟩)
theorem mean_ok : ∀ t, t < 11 → 0 < t → ∀ n, n < 41 → nfB (FP.ddiv (FP.i2d (nI n)) (FP.i2d (nI t))) = true := by decide +kernel
theorem v_mean {n k : Nat} (hn : n ≤ 40) (h0 : 0 < k) (hk : k ≤ 6) : f_Main_meanClaims (nI k) (nI n) = some (FP.ddiv (FP.i2d (nI n)) (FP.i2d (nI k))) := by
  unfold f_Main_meanClaims
  rw [if_pos (show (0 : Int32) < nI k from nI_lt (a := 0) h0 (by omega)), if_pos (mean_ok k (by omega) h0 n (by omega))]
theorem ap_meanClaims (hI : CI g ad w ne nt cl os d ev cr)  : Ct g mX9_meanClaims 1 0 0 [.ref (ad 0)] (w ++ t) (Dq (fun (_ : va_W) => some (.double (FP.ddiv (FP.i2d (nI cl.length)) (FP.i2d (nI nt))))) (fun z => z ++ t) (fun z => CI g ad z ne nt cl os d ev cr)) := by
  obtain ⟨xi, xa, xj, xb, rfl, h1, h2, h3, h4, h5, h6, e3, e4, e5, e59, e60, e61, ho, A, hw, hx⟩ := hI
  rw [e3, e4, e5, e59, e60, e61]
  exact (ct_Main_meanClaims (g := g) (ad := ad) (t := t) (v_mean h6 h3 h4)).mono (fun r w2 h => ⟨_, h.1, h.2, CI.mk ⟨h1, h2, h3, h4, h5, h6, rfl, rfl, rfl, rfl, rfl, rfl, ho, _, hw, hx⟩⟩)
end AP
