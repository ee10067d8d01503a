section MM
variable {g : GG} {M : MT} {d x y : Nat} {pc : Nat} {ls : List (Nat × Value)} {st : List Value} {ws : va_W} {Q : Rs → va_W → Prop}
variable {N : MT} {d2 a b n idx : Nat} {As rest : List Value} {Q1 : Rs → va_W → Prop}
/-- Object() -/
def KO (own : String) (idx : Nat) : Prop := Cond.methodLink own idx Lib.objectInit ∈ gtbl ∧ Cond.instanceMethod Lib.objectInit ∈ gtbl ∧ Cond.code Lib.objectInit ⟨#[0xb1]⟩ 1 none ∈ gtbl
theorem r_objInit {ob : Nat} (hd : decode (mC M) pc = .ok (.invokespecial idx, 3)) (hl : KO (mY M).cls idx) (hr8 : (st.map fun v => v.category).sum ≤ 8) (hdd : 1 ≤ d) (kk : R g M d x y (pc + 3) ls st ws Q) : R g M d x y pc ls (.ref ob :: st) ws Q := by
  intro p l e Rm s m args below meth c H locs cells slots la cx hr hs hl1 hc1 hc2
  obtain ⟨k1, k2, k3, k4, k5, k6, k7, k8, k9, k10, k11, -⟩ := id cx
  have h8 : 2 * (F0 m pc la (.ref ob :: st)).monitorRoom + (st.map fun v => v.category).sum ≤ 8 := lv_room hr8
  exact W.objInit k1 k2 k3 (k4 _ hl.1) (k4 _ hl.2.1) (k4 _ hl.2.2) rfl (hl1.1.trans k6.symm) rfl hd (by omega) (by omega) (kk p l e Rm s m args below meth c H locs cells slots la cx hr hs hl1 hc1 hc2)
/-- static methods and constructors of nest mates -/
def KSN (own : String) (idx : Nat) (N : MT) (n : Nat) : Prop := (∃ host, Cond.methodLinkNest own idx (mY N) host ∈ gnest) ∧ Cond.initialized (mY N).cls ∈ gtbl ∧ wM N ∈ gtbl ∧ mH N = [] ∧ ((mY N).cls ≠ "java/lang/invoke/MethodHandle" ∧ (mY N).cls ≠ "java/lang/invoke/VarHandle" ∧ (parseMethodDescriptor (mY N).desc).map (fun d => d.parameters.length) = some n) ∧ Cond.static (mY N) ∈ gtbl
def KIN (own : String) (idx : Nat) (N : MT) (n : Nat) : Prop := (∃ host, Cond.methodLinkNest own idx (mY N) host ∈ gnest) ∧ Cond.initialized (mY N).cls ∈ gtbl ∧ wM N ∈ gtbl ∧ mH N = [] ∧ ((mY N).cls ≠ "java/lang/invoke/MethodHandle" ∧ (mY N).cls ≠ "java/lang/invoke/VarHandle" ∧ (parseMethodDescriptor (mY N).desc).map (fun d => d.parameters.length) = some n) ∧ mR N = none ∧ (mY N).name = "<init>" ∧ Cond.instanceMethod (mY N) ∈ gtbl
theorem CX.nest {g : GG} {M : MT} {d : Nat} {p : Program} {l : Launch} {Rm : Room} {s : State} {m : MethodId} {args : Array Value} {meth : Method} {c : Code} (cx : CX g M d p l Rm s m args meth c) {w : Cond} (h : w ∈ gnest) : va_Nw w s := cx.kn.2.2.2.2.2.2.2.2.2.2.2.2.1 w h
theorem r_callSN (hd : decode (mC M) pc = .ok (.invokestatic idx, 3)) (hl : KSN (mY M).cls idx N n) (hC : Ct g N d2 a b As ws Q1) (hn : ∀ E w, ¬ Q1 (.inr E) w) (hA : As.length = n) (hst : st = As.reverse ++ rest) (hr8 : (rest.map fun v => v.category).sum ≤ 8) (hdd : d2 + 1 ≤ d) (hN : mN N ≤ 40)
    (kk : ∀ v w2, Q1 (.inl v) w2 → R g M d x y (pc + 3) ls (v.toList ++ rest) w2 Q) : R g M d (x + a) (y + b) pc ls st ws Q := by
  intro p l e Rm s m args below meth c H locs cells slots la cx hr hs hl1 hc1 hc2
  obtain ⟨k1, k2, k3, k4, k5, k6, k7, k8, k9, k10, k11, -⟩ := id cx
  obtain ⟨⟨host, g1⟩, g2, g3, g4, g5, g6⟩ := hl
  exact k_run (va_runSN (host := host) (As := As) (rest := rest) ⟨k1, k2, k6, k3, k4⟩ (hC.met hn k9) ⟨va_cnB (ws' := gtbl) n k4 (gin_all N g3) (by rw [wM_code g4]) rfl rfl (cx.nest g1) (k4 _ g2) g5 ⟨by show d2 + 1 ≤ _; omega, by show 8 + (mN N + 11) + 60 * d2 ≤ _; omega⟩, k4 _ g6, trivial⟩ ⟨pc_blind, pc_at cx.kn hr hs⟩ rfl hA hl1.1 hst (lv_room hr8) hd ⟨by omega, by omega⟩) hs
    (fun v w2 H1 locs1 q1 q2 q3 => kk v w2 q1 p l e Rm s m args below meth c H1 locs1 (cells + a) (slots + b) la cx q2 q3 hl1 (by omega) (by omega))
theorem r_callIN {ob : Nat} (hd : decode (mC M) pc = .ok (.invokespecial idx, 3)) (hl : KIN (mY M).cls idx N n) (hC : Ct g N d2 a b (.ref ob :: As) ws Q1) (hn : ∀ E w, ¬ Q1 (.inr E) w) (hA : As.length = n) (hst : st = As.reverse ++ .ref ob :: rest) (hr8 : (rest.map fun v => v.category).sum ≤ 8) (hdd : d2 + 1 ≤ d) (hN : mN N ≤ 40)
    (kk : ∀ v w2, Q1 (.inl v) w2 → R g M d x y (pc + 3) ls (v.toList ++ rest) w2 Q) : R g M d (x + a) (y + b) pc ls st ws Q := by
  intro p l e Rm s m args below meth c H locs cells slots la cx hr hs hl1 hc1 hc2
  obtain ⟨k1, k2, k3, k4, k5, k6, k7, k8, k9, k10, k11, -⟩ := id cx
  obtain ⟨⟨host, g1⟩, g2, g3, g4, g5, g6, g7, g8⟩ := hl
  exact k_run (va_runIN (host := host) (As := As) (rest := rest) ⟨k1, k2, k6, k3, k4⟩ (hC.met hn k9) ⟨va_cnB (ws' := gtbl) n k4 (gin_all N g3) (by rw [wM_code g4, g6]) rfl rfl (cx.nest g1) (k4 _ g2) g5 ⟨by show d2 + 1 ≤ _; omega, by show 8 + (mN N + 11) + 60 * d2 ≤ _; omega⟩, g7, k4 _ g8⟩ ⟨pc_blind, pc_at cx.kn hr hs⟩ rfl hA hl1.1 hst (lv_room hr8) hd ⟨by omega, by omega⟩) hs
    (fun v w2 H1 locs1 q1 q2 q3 => kk v w2 q1 p l e Rm s m args below meth c H1 locs1 (cells + a) (slots + b) la cx q2 q3 hl1 (by omega) (by omega))
/-- a call that may throw -/
theorem r_callX {ci ob : Nat} {fs : List Value} (q : Nat) (hd : decode (mC M) pc = .ok (.invokevirtual idx, 3)) (hl : KV (mY M).cls idx N n) (hC : Ct g N d2 a b (.ref ob :: As) ws Q1) (hA : As.length = n) (hst : st = As.reverse ++ .ref ob :: rest) (ho : ws[q]? = some (ob, .inr (ci, fs))) (hci : (vwCl[ci]?).map (fun r => r.1) = some (mY N).cls) (hr8 : (rest.map fun v => v.category).sum ≤ 8) (hdd : d2 + 1 ≤ d) (hN : mN N ≤ 40)
    (kx : ∀ E w2, Q1 (.inr E) w2 → RX g M d x y pc ls E w2 Q)
    (kk : ∀ v w2, Q1 (.inl v) w2 → R g M d x y (pc + 3) ls (v.toList ++ rest) w2 Q) : R g M d (x + a) (y + b) pc ls st ws Q := by
  intro p l e Rm s m args below meth c H locs cells slots la cx hr hs hl1 hc1 hc2
  obtain ⟨k1, k2, k3, k4, k5, k6, k7, k8, k9, k10, k11, -⟩ := id cx
  have hrec : ∃ cell : Cell, H[ob]? = some cell ∧ cell.vm.isStatics = false ∧ s.vm.findClass (mY N).cls = some cell.cls := by
    cases hc : vwCl[ci]? with
    | none => rw [hc] at hci; cases hci
    | some r =>
      rw [hc] at hci
      have e9 : r.1 = (mY N).cls := Option.some.inj hci
      rw [← e9]
      exact va_recv cx.kn.1 hr.1 hc ho
  exact k_runX (vx_runV (C := (mY N).cls) (As := As) (rest := rest) ⟨k1, k2, k6, k3, k4⟩ (hC l k9) ⟨cbOf k4 hl.1 hl.2.1 k10 k11 hdd hN, k4 _ hl.2.2.1, k4 _ hl.2.2.2⟩ ⟨pc_blind, hrec, pc_at cx.kn hr hs⟩ rfl hA hl1.1 hst (lv_room hr8) hd ⟨by omega, by omega⟩) hs
    (fun E ce q9 w2 H1 locs1 q1 q2 q3 q4 q5 q6 => kx E w2 q1 p l e Rm s m args below meth c H1 locs1 (cells + a) (slots + b) la rest q9 ce cx q2 q3 hl1 (by omega) (by omega) q4 q5 q6)
    (fun v w2 H1 locs1 q1 q2 q3 => kk v w2 q1 p l e Rm s m args below meth c H1 locs1 (cells + a) (slots + b) la cx q2 q3 hl1 (by omega) (by omega))
/-- a static method with handlers -/
def KSW (own : String) (idx : Nat) (N : MT) (n : Nat) : Prop := Cond.methodLink own idx (mY N) ∈ gtbl ∧ Cond.initialized (mY N).cls ∈ gtbl ∧ Cond.codeWith (mY N) (mC N) (mN N) (mR N) (mH N) ∈ gtbl ∧ mH N ≠ [] ∧ ((mY N).cls ≠ "java/lang/invoke/MethodHandle" ∧ (mY N).cls ≠ "java/lang/invoke/VarHandle" ∧ (parseMethodDescriptor (mY N).desc).map (fun d => d.parameters.length) = some n) ∧ Cond.static (mY N) ∈ gtbl
theorem wM_with {N : MT} (hh : mH N ≠ []) : wM N = Cond.codeWith (mY N) (mC N) (mN N) (mR N) (mH N) := by
  unfold wM
  split
  · next h9 => exact absurd h9 hh
  · next h9 => rw [h9]
theorem r_callSW (hd : decode (mC M) pc = .ok (.invokestatic idx, 3)) (hl : KSW (mY M).cls idx N n) (hC : Ct g N d2 a b As ws Q1) (hn : ∀ E w, ¬ Q1 (.inr E) w) (hA : As.length = n) (hst : st = As.reverse ++ rest) (hr8 : (rest.map fun v => v.category).sum ≤ 8) (hdd : d2 + 1 ≤ d) (hN : mN N ≤ 40)
    (kk : ∀ v w2, Q1 (.inl v) w2 → R g M d x y (pc + 3) ls (v.toList ++ rest) w2 Q) : R g M d (x + a) (y + b) pc ls st ws Q := by
  intro p l e Rm s m args below meth c H locs cells slots la cx hr hs hl1 hc1 hc2
  obtain ⟨k1, k2, k3, k4, k5, k6, k7, k8, k9, k10, k11, -⟩ := id cx
  obtain ⟨g1, g2, g3, g4, g5, g6⟩ := hl
  have hG : GoodIn gtbl (wM N :: gtbl) := gin_all N (by rw [wM_with g4]; exact g3)
  have hcw : vx_CSW Rm s args (mY M).cls idx (mY N) (mC N) (mN N) (mR N) (mH N) (wM N :: gtbl) (rmM d2 a b) a b n := by
    refine ⟨⟨rfl, rfl, by show d2 + 1 ≤ _; omega, by show 8 + (mN N + 11) + 60 * d2 ≤ _; omega, pay_in k4 hG, by rw [wM_with g4]; exact List.mem_cons_self⟩, k4 _ g3, k4 _ g2, ⟨g5.1, g5.2.1⟩, fun sig h => ?_, k4 _ g1, k4 _ g6⟩
    have h2 := g5.2.2
    rw [h] at h2
    exact (Option.some.inj h2).symm
  exact k_run (vx_runSW (As := As) (rest := rest) ⟨k1, k2, k6, k3, k4⟩ (hC.met hn k9) hcw ⟨pc_blind, pc_at cx.kn hr hs⟩ rfl hA hl1.1 hst (lv_room hr8) hd ⟨by omega, by omega⟩) hs
    (fun v w2 H1 locs1 q1 q2 q3 => kk v w2 q1 p l e Rm s m args below meth c H1 locs1 (cells + a) (slots + b) la cx q2 q3 hl1 (by omega) (by omega))
/-- an exception leaves the method -/
theorem rx_out {E : String} (hh : mH M = []) (hq : Q (.inr E) ws) : RX g M d x y pc ls E ws Q := by
  intro p l e Rm s m args below meth c H locs cells slots la rest9 q ce cx hr hs hl1 hc1 hc2 h1 h2 h3
  obtain ⟨k1, k2, k3, k4, k5, k6, k7, k8, k9, k10, k11, -⟩ := id cx
  refine vx_out (fun z hz => ?_) k7 h1 h2 h3 (fun t ht _ => ⟨ws, hq, by rw [ht]; exact hr, hs.F ht⟩) hs.2.2 (by omega) (by omega)
  rw [k8 (by rw [hh]; exact fun h => nomatch h), hh] at hz
  cases hz
/-- caught by the k-th handler -/
theorem rx_catch {E : String} {pre suf : List ExceptionTableEntry} {z : ExceptionTableEntry} (hsp : tableOf (mH M) = pre ++ z :: suf) (hpass : ∀ z9 ∈ pre, z9.catchType ≠ 0 ∧ ∃ nm, Cond.classLink (mY M).cls z9.catchType nm ∈ gtbl ∧ (E, nm) ∈ ncS) (hx : covers z pc = true) (h0 : z.catchType ≠ 0)
    (hlink : Cond.classLink (mY M).cls z.catchType E ∈ gtbl) (hcast : Cond.castable E E ∈ gnest) (kk : ∀ q : Nat, R g M d x y z.handlerPc ls [.ref q] ws Q) : RX g M d x y pc ls E ws Q := by
  intro p l e Rm s m args below meth c H locs cells slots la rest9 q ce cx hr hs hl1 hc1 hc2 h1 h2 h3
  obtain ⟨k1, k2, k3, k4, k5, k6, k7, k8, k9, k10, k11, -⟩ := id cx
  have hne : mH M ≠ [(0, 0, 0, 0)] := by
    intro h9
    rw [h9] at hsp
    have h8 : z ∈ tableOf [(0, 0, 0, 0)] := by rw [hsp]; exact List.mem_append_right _ List.mem_cons_self
    have h7 := List.mem_singleton.mp h8
    rw [h7] at h0
    exact h0 rfl
  refine vx_catch k3 pre z suf ((k8 hne).trans hsp) (fun z9 hz => ?_) hx h0 (k4 _ hlink) (va_Nw.use rfl (cx.nest hcast)) h1 h2 h3 (kk q p l e Rm s m args below meth c H locs cells slots la cx hr hs hl1 hc1 hc2)
  obtain ⟨g1, nm, g2, g3⟩ := hpass z9 hz
  exact Or.inr ⟨g1, nm, k4 _ g2, cx.kn.2.2.2.2.2.2.2.2.2.2.2.2.2 _ g3⟩
/-- throw new E("text") -/
def KT (own : String) (ik ic is : Nat) (E : String) (names : List String) (i : Nat) (text : String) : Prop := Bundle.fit E = true ∧ (∀ n ∈ names, Bundle.fit n = true) ∧ Cond.classLink own ik E ∈ gtbl ∧ Cond.initialized E ∈ gtbl ∧ stS[i]? = some (own, is, text) ∧
  (∀ w ∈ vx_atS own ic E names, w ∈ gtbl ∨ w ∈ gnest) ∧ (∀ w ∈ Cond.classLink own ik E :: Cond.initialized E :: vx_atS own ic E names, vx_ot w = true) ∧ names.length = 2
theorem r_throw {ik ic is i : Nat} {E text : String} {names : List String} (d0 : decode (mC M) pc = .ok (.new ik, 3)) (d3 : decode (mC M) (pc + 3) = .ok (.dup, 1)) (d4 : decode (mC M) (pc + 4) = .ok (.ldc is, 2)) (d6 : decode (mC M) (pc + 6) = .ok (.invokespecial ic, 3)) (d9 : decode (mC M) (pc + 9) = .ok (.athrow, 1))
    (hl : KT (mY M).cls ik ic is E names i text) (hh : mH M = []) (hr8 : (st.map fun v => v.category).sum ≤ 8) (hdd : 6 ≤ d) (hq : Q (.inr E) ws) : R g M d (x + 1) (y + 6) pc ls st ws Q := by
  intro p l e Rm s m args below meth c H locs cells slots la cx hr hs hl1 hc1 hc2
  obtain ⟨k1, k2, k3, k4, k5, k6, k7, k8, k9, k10, k11, k12, kn, kb⟩ := id cx
  obtain ⟨g1, g2, g3, g4, g5, g6, g7, g8⟩ := hl
  refine vx_throwS k1 k2 (by rw [Launch.stackTraces, k9]; decide) k3 g1 g2 (k4 _ g3) (k4 _ g4) (kn.2.2.1 i _ g5) (fun w hw => ?_) g7 kn.2.2.2.2.2.1 kn.2.2.2.2.2.2.1 hs (hl1.1.trans k6.symm) d0 d3 d4 d6 d9 (fun z hz => ?_) (by omega) (by rw [g8]; omega) (by omega) (by omega) k7
    (fun t ht h1 h2 => ?_) hs.2.2 (by omega) (by omega)
  · rcases g6 w hw with h | h
    · exact k4 _ h
    · exact va_Nw.use (nest_tabs h) (cx.nest h)
  · rw [k8 (by rw [hh]; exact fun h => nomatch h), hh] at hz
    cases hz
  · refine ⟨ws, hq, ⟨hr.1.kept (fun k q hk => h2 _ (hr.1 k q hk).lt), hr.2.1, Nat.le_trans hr.2.2 h1⟩, Nat.le_trans hs.1 h1, fun q h3 h4 => ?_⟩
    rw [h2 q (Nat.lt_of_lt_of_le h3 hs.1)]
    exact hs.2.1 q h3 h4
theorem r_throwW {ik ic is i : Nat} {E text : String} {names : List String} (d0 : decode (mC M) pc = .ok (.new ik, 3)) (d3 : decode (mC M) (pc + 3) = .ok (.dup, 1)) (d4 : decode (mC M) (pc + 4) = .ok (.ldc_w is, 3)) (d6 : decode (mC M) (pc + 7) = .ok (.invokespecial ic, 3)) (d9 : decode (mC M) (pc + 10) = .ok (.athrow, 1))
    (hl : KT (mY M).cls ik ic is E names i text) (hh : mH M = []) (hr8 : (st.map fun v => v.category).sum ≤ 8) (hdd : 6 ≤ d) (hq : Q (.inr E) ws) : R g M d (x + 1) (y + 6) pc ls st ws Q := by
  intro p l e Rm s m args below meth c H locs cells slots la cx hr hs hl1 hc1 hc2
  obtain ⟨k1, k2, k3, k4, k5, k6, k7, k8, k9, k10, k11, k12, kn, kb⟩ := id cx
  obtain ⟨g1, g2, g3, g4, g5, g6, g7, g8⟩ := hl
  refine vx_throwSW k1 k2 (by rw [Launch.stackTraces, k9]; decide) k3 g1 g2 (k4 _ g3) (k4 _ g4) (kn.2.2.1 i _ g5) (fun w hw => ?_) g7 kn.2.2.2.2.2.1 kn.2.2.2.2.2.2.1 hs (hl1.1.trans k6.symm) d0 d3 d4 d6 d9 (fun z hz => ?_) (by omega) (by rw [g8]; omega) (by omega) (by omega) k7
    (fun t ht h1 h2 => ?_) hs.2.2 (by omega) (by omega)
  · rcases g6 w hw with h | h
    · exact k4 _ h
    · exact va_Nw.use (nest_tabs h) (cx.nest h)
  · rw [k8 (by rw [hh]; exact fun h => nomatch h), hh] at hz
    cases hz
  · refine ⟨ws, hq, ⟨hr.1.kept (fun k q hk => h2 _ (hr.1 k q hk).lt), hr.2.1, Nat.le_trans hr.2.2 h1⟩, Nat.le_trans hs.1 h1, fun q h3 h4 => ?_⟩
    rw [h2 q (Nat.lt_of_lt_of_le h3 hs.1)]
    exact hs.2.1 q h3 h4
end MM
