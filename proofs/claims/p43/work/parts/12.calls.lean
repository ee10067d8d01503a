section CC
variable {g : GG} {M : MT} {d x y : Nat} {pc : Nat} {ls : List (Nat × Value)} {st : List Value} {ws : va_W} {Q : Rs → va_W → Prop}
theorem CX.hB {g : GG} {M : MT} {d : Nat} {p : Program} {l : Launch} {Rm : Room} {s : State} {m : MethodId} {args : Array Value} {meth : Method} {c : Code} (cx : CX g M d p l Rm s m args meth c) : gB g ≤ s.heap.size := cx.2.2.2.2.2.2.2.2.2.2.2.2.2
theorem CX.kn {g : GG} {M : MT} {d : Nat} {p : Program} {l : Launch} {Rm : Room} {s : State} {m : MethodId} {args : Array Value} {meth : Method} {c : Code} (cx : CX g M d p l Rm s m args meth c) : Kn g s s.heap := cx.2.2.2.2.2.2.2.2.2.2.2.2.1
/-- a method's end -/
theorem r_iret {v : Int32} (hd : decode (mC M) pc = .ok (.ireturn, 1)) (hr : mR M = some .int) (hq : Q (.inl (some (.int v))) ws) : R g M d x y pc ls [.int v] ws Q := by
  intro p l e Rm s m args below meth c H locs cells slots la cx h hs hl hc1 hc2
  obtain ⟨k1, k2, k3, k4, k5, k6, k7, -⟩ := id cx
  refine vx_ret (W.widen (k := Rm.cells) (n := Rm.slots) (by omega) (by omega) ?_)
  exact W.iret k1 k2 (k5.trans hr) (fun t ht _ => ⟨_, _, rfl, hq, by rw [ht]; exact h, hs.F ht⟩) hs.2.2 hd k7
theorem r_zret {v : Int32} {ty : FieldType} (hd : decode (mC M) pc = .ok (.ireturn, 1)) (hr : mR M = some ty) (hn : narrow ty (.int v) = .int v) (hq : Q (.inl (some (.int v))) ws) : R g M d x y pc ls [.int v] ws Q := by
  intro p l e Rm s m args below meth c H locs cells slots la cx h hs hl hc1 hc2
  obtain ⟨k1, k2, k3, k4, k5, k6, k7, -⟩ := id cx
  refine vx_ret (W.widen (k := Rm.cells) (n := Rm.slots) (by omega) (by omega) ?_)
  exact W.zret k1 k2 (k5.trans hr) hn (fun t ht _ => ⟨_, _, rfl, hq, by rw [ht]; exact h, hs.F ht⟩) hs.2.2 hd k7
theorem r_vret (hd : decode (mC M) pc = .ok (.return_, 1)) (hr : mR M = none) (hq : Q (.inl none) ws) : R g M d x y pc ls [] ws Q := by
  intro p l e Rm s m args below meth c H locs cells slots la cx h hs hl hc1 hc2
  obtain ⟨k1, k2, k3, k4, k5, k6, k7, -⟩ := id cx
  refine vx_ret (W.widen (k := Rm.cells) (n := Rm.slots) (by omega) (by omega) ?_)
  exact W.vret k1 k2 (k5.trans hr) (fun t ht _ => ⟨_, _, rfl, hq, by rw [ht]; exact h, hs.F ht⟩) hs.2.2 hd k7
theorem r_lret {v : Int64} (hd : decode (mC M) pc = .ok (.lreturn, 1)) (hr : mR M = some .long) (hq : Q (.inl (some (.long v))) ws) : R g M d x y pc ls [.long v] ws Q := by
  intro p l e Rm s m args below meth c H locs cells slots la cx h hs hl hc1 hc2
  obtain ⟨k1, k2, k3, k4, k5, k6, k7, -⟩ := id cx
  refine vx_ret (W.widen (k := Rm.cells) (n := Rm.slots) (by omega) (by omega) ?_)
  exact W.lret k1 k2 (k5.trans hr) (fun t ht _ => ⟨_, _, rfl, hq, by rw [ht]; exact h, hs.F ht⟩) hs.2.2 hd k7
theorem r_dret {v : UInt64} (hd : decode (mC M) pc = .ok (.dreturn, 1)) (hr : mR M = some .double) (hq : Q (.inl (some (.double v))) ws) : R g M d x y pc ls [.double v] ws Q := by
  intro p l e Rm s m args below meth c H locs cells slots la cx h hs hl hc1 hc2
  obtain ⟨k1, k2, k3, k4, k5, k6, k7, -⟩ := id cx
  refine vx_ret (W.widen (k := Rm.cells) (n := Rm.slots) (by omega) (by omega) ?_)
  exact W.dret k1 k2 (k5.trans hr) (fun t ht _ => ⟨_, _, rfl, hq, by rw [ht]; exact h, hs.F ht⟩) hs.2.2 hd k7
/-- from a walk of the body to the contract -/
theorem Ct.ofR {a b : Nat} {av : List Value} (hy : plainName (mY M).cls = true) (hh : mH M = []) (ha : (lg_sl av).length ≤ mN M) (h : R g M d a b 0 (lv_args 0 av) [] ws Q) : Ct g M d a b av ws Q := by
  intro l hfl
  have hwM : wM M = Cond.code (mY M) (mC M) (mN M) (mR M) := by unfold wM; rw [hh]
  refine vx_ofW (cc := mC M) (maxL := mN M) (ret := mR M) (ws' := gtbl) hy (by rw [hwM]) ?_
  intro p e s m args below meth c s₁ B hml ht hv
  obtain ⟨rfl, hr, hk⟩ := hv
  have hts : ∀ w ∈ wM M :: gtbl, w.before av.toArray s = true := atoms_spec (ws := wM M :: gtbl) B.pre
  have hn := lv_entry av (n := mN M) ha
  rw [lg_entry_eq]
  generalize (lg_sl av ++ List.replicate (mN M - (lg_sl av).length) Slot.unset).toArray = la at hn ⊢
  refine h p l e (rmM d a b) s m av.toArray below meth c s.heap [] 0 0 la ⟨B.exec, B.bytes, findClass_of_methodNamed B.named, fun w hw => hts w (List.mem_cons_of_mem _ hw), B.returns, hml, B.notSynchronized, ?_, hfl, Nat.le_refl _, Nat.le_refl _, (name_of_methodNamed B.named B.method).1, hk, hr.2.2⟩ hr va_S.rf hn (by simp) (by simp)
  intro _
  rw [hh]
  cases he : c.exceptionTable.toList with
  | nil => rfl
  | cons z zs => exact (ht z (by rw [he]; exact List.mem_cons_self)).elim
theorem Ct.ofRH {a b : Nat} {av : List Value} (hy : plainName (mY M).cls = true) (hh : mH M ≠ []) (ha : (lg_sl av).length ≤ mN M) (h : R g M d a b 0 (lv_args 0 av) [] ws Q) : Ct g M d a b av ws Q := by
  intro l hfl
  have hwM : wM M = Cond.codeWith (mY M) (mC M) (mN M) (mR M) (mH M) := by
    unfold wM
    split
    · next h9 => exact absurd h9 hh
    · next h9 => rw [h9]
  refine vx_ofWH (cc := mC M) (maxL := mN M) (ret := mR M) (hh := mH M) (ws' := gtbl) hy (by rw [hwM]) ?_
  intro p e s m args below meth c s₁ B hml hv
  obtain ⟨rfl, hr, hk⟩ := hv
  have hts : ∀ w ∈ wM M :: gtbl, w.before av.toArray s = true := atoms_spec (ws := wM M :: gtbl) B.pre
  have hn := lv_entry av (n := mN M) ha
  rw [lg_entry_eq]
  generalize (lg_sl av ++ List.replicate (mN M - (lg_sl av).length) Slot.unset).toArray = la at hn ⊢
  exact h p l e (rmM d a b) s m av.toArray below meth c s.heap [] 0 0 la ⟨B.exec, B.bytes, findClass_of_methodNamed B.named, fun w hw => hts w (List.mem_cons_of_mem _ hw), B.returns, hml, B.notSynchronized, (fun _ => vx_table (x := mY M) B (by have := hts _ List.mem_cons_self; rwa [hwM] at this)), hfl, Nat.le_refl _, Nat.le_refl _, (name_of_methodNamed B.named B.method).1, hk, hr.2.2⟩ hr va_S.rf hn (by simp) (by simp)
theorem met_mono {l : Launch} {y : MethodName} {S : Spec} {P : Array Value → State → Prop} {K : Program → Env → List Frame → State → Array Value → Prop} {Q1 Q2 : Array Value → State → Outcome → State → Prop} (h : MetFree l y S P K Q1) (hq : ∀ a s o t, Q1 a s o t → Q2 a s o t) : MetFree l y S P K Q2 := by
  intro p e ha hc hk s m args below h1 h2 h3 h4
  obtain ⟨n, o, g1, g2, g3, g4⟩ := h p e ha hc hk s m args below h1 h2 h3 h4
  exact ⟨n, o, g1, g2, g3, hq _ _ _ _ g4⟩
theorem Ct.mono {a b : Nat} {av : List Value} {Q2 : Rs → va_W → Prop} (h : Ct g M d a b av ws Q) (hq : ∀ r w, Q r w → Q2 r w) : Ct g M d a b av ws Q2 := by
  intro l hfl
  refine met_mono (h l hfl) ?_
  rintro av9 s o t (⟨⟨v, w, h1, h2, h3⟩, h4⟩ | ⟨q, h1, E, ce, L, ⟨w, h2, h3⟩, h4⟩)
  · exact Or.inl ⟨⟨v, w, h1, hq _ _ h2, h3⟩, h4⟩
  · exact Or.inr ⟨q, h1, E, ce, L, ⟨w, hq _ _ h2, h3⟩, h4⟩
theorem Ct.met {a b : Nat} {av : List Value} (h : Ct g M d a b av ws Q) (hn : ∀ E w, ¬ Q (.inr E) w) {l : Launch} (hfl : l.flags = flags0) : Met l (mY M) (wM M :: gtbl) (rmM d a b) (va_Pc av (fun U => HR g ws U.heap ∧ Kn g U U.heap)) (qC g Q) a b (gA g) := by
  refine met_mono (h l hfl) ?_
  rintro av9 s o t (h4 | ⟨q, h1, E, ce, L, ⟨w, h2, h3⟩, h4⟩)
  · exact h4
  · exact absurd h2 (hn E w)
/-- the words of a call -/
def KB (own : String) (idx : Nat) (N : MT) (n : Nat) : Prop := Cond.methodLink own idx (mY N) ∈ gtbl ∧ Cond.initialized (mY N).cls ∈ gtbl ∧ wM N ∈ gtbl ∧ ((mY N).cls ≠ "java/lang/invoke/MethodHandle" ∧ (mY N).cls ≠ "java/lang/invoke/VarHandle" ∧ (parseMethodDescriptor (mY N).desc).map (fun d => d.parameters.length) = some n)
def KS (own : String) (idx : Nat) (N : MT) (n : Nat) : Prop := KB own idx N n ∧ mH N = [] ∧ Cond.static (mY N) ∈ gtbl
def KV (own : String) (idx : Nat) (N : MT) (n : Nat) : Prop := KB own idx N n ∧ mH N = [] ∧ Cond.instanceMethod (mY N) ∈ gtbl ∧ Cond.selects (mY N).cls (mY N) (mY N) ∈ gtbl
def KI (own : String) (idx : Nat) (N : MT) (n : Nat) : Prop := KB own idx N n ∧ mH N = [] ∧ mR N = none ∧ (mY N).name = "<init>" ∧ Cond.instanceMethod (mY N) ∈ gtbl
theorem wM_code {N : MT} (h : mH N = []) : wM N = Cond.code (mY N) (mC N) (mN N) (mR N) := by unfold wM; rw [h]
theorem gin_all (N : MT) (h : wM N ∈ gtbl) : GoodIn gtbl (wM N :: gtbl) := g_good (fun w hw => (List.mem_cons.mp hw).elim (fun e => e ▸ h) id)
theorem pc_blind {av : List Value} {ws : va_W} : FrameBlind (va_Pc av (fun U => HR g ws U.heap ∧ Kn g U U.heap)) := fun a U g9 mk h => ⟨h.1, h.2.1, Kn.same (u := U) (U := U.calling g9 mk a) rfl h.2.2⟩
theorem pc_at {av : List Value} {s : State} {H : Heap} {locs : List Loc} (hk : Kn g s s.heap) (hr : HR g ws H) (hs : va_S (gA g) s.heap H locs) : ∀ U : State, U.heap = H → s.WarmedH U.vm → va_Pc av (fun U => HR g ws U.heap ∧ Kn g U U.heap) av.toArray U :=
  fun U hU hW => ⟨rfl, by rw [hU]; exact hr, Kn.step hk hW (fun a h1 h2 => by rw [hU]; exact hs.2.1 a h1 h2) (by rw [hU]; exact hs.1)⟩
section RUN
variable {p : Program} {l : Launch} {e : Env} {Rm : Room} {s : State} {m : MethodId} {args : Array Value} {below : List Frame} {meth : Method} {c : Code} {H : Heap} {locs : List Loc} {cells slots : Nat} {Fin : State → Prop} {la : Array Slot} {st0 rest : List Value} {a b : Nat} {Q1 : Rs → va_W → Prop} {av : Array Value}
theorem k_run (hr : va_Run p l e Rm s m args below meth c H locs cells slots a b (F0 m pc la st0) rest (qC g Q1 av) (gA g)) (hS : va_S (gA g) s.heap H locs)
    (kk : ∀ (v : Option Value) (w2 : va_W) (H1 : Heap) (locs1 : List Loc), Q1 (.inl v) w2 → HR g w2 H1 → va_S (gA g) s.heap H1 locs1 → W p l e Rm s m args below meth c H1 locs1 (cells + a) (slots + b) Fin (F0 m (pc + 3) la (v.toList ++ rest))) : W p l e Rm s m args below meth c H locs cells slots Fin (F0 m pc la st0) := by
  intro T hT X
  obtain ⟨v, st₀, t, T', L, h0, X', hL, e1, e2, ⟨v2, w2, hv, hq, hhr, hF⟩, stp⟩ := hr T hT X
  cases hv
  obtain ⟨k1, k2, k3⟩ := vx_keep (A0 := gA g) (A1 := gA g) (free := gA g) h0 e1 hS (fun _ _ h => h) (fun _ h => h) hL hF
  obtain ⟨t2, a1, b1⟩ := kk v w2 T'.heap (locs ++ L) hq (by rw [e1]; exact hhr) k3 T' rfl X'
  exact ⟨t2, stp t2 a1, b1⟩
theorem k_runX (hr : vx_Run p l e Rm s m args below meth c H locs cells slots a b (F0 m pc la st0) rest (qC g Q1 av) (xC g Q1) (gA g)) (hS : va_S (gA g) s.heap H locs)
    (kx : ∀ (E : String) (ce : Cell) (q : Addr) (w2 : va_W) (H1 : Heap) (locs1 : List Loc), Q1 (.inr E) w2 → HR g w2 H1 → va_S (gA g) s.heap H1 locs1 → H1[q]? = some ce → ce.vm = .none → s.vm.findClass E = some ce.cls → vx_W p l e Rm s m args below meth c H1 locs1 (cells + a) (slots + b) Fin (F0 m pc la rest) q)
    (kk : ∀ (v : Option Value) (w2 : va_W) (H1 : Heap) (locs1 : List Loc), Q1 (.inl v) w2 → HR g w2 H1 → va_S (gA g) s.heap H1 locs1 → W p l e Rm s m args below meth c H1 locs1 (cells + a) (slots + b) Fin (F0 m (pc + 3) la (v.toList ++ rest))) : W p l e Rm s m args below meth c H locs cells slots Fin (F0 m pc la st0) := by
  intro T hT X
  rcases hr T hT X with ⟨v, st₀, t, T', L, h0, X', hL, e1, e2, ⟨v2, w2, hv, hq, hhr, hF⟩, stp⟩ | ⟨q, st₀, t, T', L, E, ce, h0, X', hL, e1, e2, ⟨w2, hq, hhr, hF⟩, hce, hcv, hcl, stp⟩
  · cases hv
    obtain ⟨k1, k2, k3⟩ := vx_keep (A0 := gA g) (A1 := gA g) (free := gA g) h0 e1 hS (fun _ _ h => h) (fun _ h => h) hL hF
    obtain ⟨t2, a1, b1⟩ := kk v w2 T'.heap (locs ++ L) hq (by rw [e1]; exact hhr) k3 T' rfl X'
    exact ⟨t2, stp t2 a1, b1⟩
  · obtain ⟨k1, k2, k3⟩ := vx_keep (A0 := gA g) (A1 := gA g) (free := gA g) h0 e1 hS (fun _ _ h => h) (fun _ h => h) hL hF
    obtain ⟨t2, a1, b1⟩ := kx E ce q w2 T'.heap (locs ++ L) hq (by rw [e1]; exact hhr) k3 (by rw [e1]; exact hce) hcv hcl T' rfl X'
    exact ⟨t2, stp.trans a1, b1⟩
end RUN
theorem cbOf {N : MT} {d2 a b n idx : Nat} {Rm : Room} {s : State} {args : Array Value} {own : String} (hts : ∀ w ∈ gtbl, w.before args s = true) (h : KB own idx N n) (hh : mH N = []) (h1 : d ≤ Rm.frames) (h2 : 60 * d ≤ Rm.locals) (hd : d2 + 1 ≤ d) (hN : mN N ≤ 40) :
    CallB Rm s args own idx (mY N) (mC N) (mN N) (mR N) (wM N :: gtbl) (rmM d2 a b) a b n :=
  callB_of n hts (gin_all N h.2.2.1) (by rw [wM_code hh]) rfl rfl (hts _ h.2.1) (hts _ h.1) h.2.2.2 ⟨by show d2 + 1 ≤ _; omega, by show 8 + (mN N + 11) + 60 * d2 ≤ _; omega⟩
section CALLS
variable {N : MT} {d2 a b n idx : Nat} {As rest : List Value} {Q1 : Rs → va_W → Prop}
theorem r_callS (hd : decode (mC M) pc = .ok (.invokestatic idx, 3)) (hl : KS (mY M).cls idx N n) (hC : Ct g N d2 a b As ws Q1) (hn : ∀ E w, ¬ Q1 (.inr E) w) (hA : As.length = n) (hst : st = As.reverse ++ rest) (hr8 : (rest.map fun v => v.category).sum ≤ 8) (hdd : d2 + 1 ≤ d) (hN : mN N ≤ 40)
    (kk : ∀ v w2, Q1 (.inl v) w2 → R g M d x y (pc + 3) ls (v.toList ++ rest) w2 Q) : R g M d (x + a) (y + b) pc ls st ws Q := by
  intro p l e Rm s m args below meth c H locs cells slots la cx hr hs hl1 hc1 hc2
  obtain ⟨k1, k2, k3, k4, k5, k6, k7, k8, k9, k10, k11, -⟩ := id cx
  exact k_run (va_runS (As := As) (rest := rest) ⟨k1, k2, k6, k3, k4⟩ (hC.met hn k9) ⟨cbOf k4 hl.1 hl.2.1 k10 k11 hdd hN, k4 _ hl.2.2⟩ ⟨pc_blind, pc_at cx.kn hr hs⟩ rfl hA hl1.1 hst (lv_room hr8) hd ⟨by omega, by omega⟩) hs
    (fun v w2 H1 locs1 q1 q2 q3 => kk v w2 q1 p l e Rm s m args below meth c H1 locs1 (cells + a) (slots + b) la cx q2 q3 hl1 (by omega) (by omega))
theorem r_callV {ci ob : Nat} {fs : List Value} (q : Nat) (hd : decode (mC M) pc = .ok (.invokevirtual idx, 3)) (hl : KV (mY M).cls idx N n) (hC : Ct g N d2 a b (.ref ob :: As) ws Q1) (hn : ∀ E w, ¬ Q1 (.inr E) w) (hA : As.length = n) (hst : st = As.reverse ++ .ref ob :: rest) (ho : ws[q]? = some (ob, .inr (ci, fs))) (hci : (vwCl[ci]?).map (fun r => r.1) = some (mY N).cls) (hr8 : (rest.map fun v => v.category).sum ≤ 8) (hdd : d2 + 1 ≤ d) (hN : mN N ≤ 40)
    (kk : ∀ v w2, Q1 (.inl v) w2 → R g M d x y (pc + 3) ls (v.toList ++ rest) w2 Q) : R g M d (x + a) (y + b) pc ls st ws Q := by
  intro p l e Rm s m args below meth c H locs cells slots la cx hr hs hl1 hc1 hc2
  obtain ⟨k1, k2, k3, k4, k5, k6, k7, k8, k9, k10, k11, -⟩ := id cx
  have hrec : ∃ cell : Cell, H[ob]? = some cell ∧ cell.vm.isStatics = false ∧ s.vm.findClass (mY N).cls = some cell.cls := by
    cases hc : vwCl[ci]? with
    | none => rw [hc] at hci; cases hci
    | some r =>
      rw [hc] at hci
      have e9 : r.1 = (mY N).cls := Option.some.inj hci
      rw [← e9]
      exact va_recv cx.kn.1 hr.1 hc ho
  exact k_run (va_runV (C := (mY N).cls) (As := As) (rest := rest) ⟨k1, k2, k6, k3, k4⟩ (hC.met hn k9) ⟨cbOf k4 hl.1 hl.2.1 k10 k11 hdd hN, k4 _ hl.2.2.1, k4 _ hl.2.2.2⟩ ⟨pc_blind, hrec, pc_at cx.kn hr hs⟩ rfl hA hl1.1 hst (lv_room hr8) hd ⟨by omega, by omega⟩) hs
    (fun v w2 H1 locs1 q1 q2 q3 => kk v w2 q1 p l e Rm s m args below meth c H1 locs1 (cells + a) (slots + b) la cx q2 q3 hl1 (by omega) (by omega))
theorem r_callI {ob : Nat} (hd : decode (mC M) pc = .ok (.invokespecial idx, 3)) (hl : KI (mY M).cls idx N n) (hC : Ct g N d2 a b (.ref ob :: As) ws Q1) (hn : ∀ E w, ¬ Q1 (.inr E) w) (hA : As.length = n) (hst : st = As.reverse ++ .ref ob :: rest) (hr8 : (rest.map fun v => v.category).sum ≤ 8) (hdd : d2 + 1 ≤ d) (hN : mN N ≤ 40)
    (kk : ∀ v w2, Q1 (.inl v) w2 → R g M d x y (pc + 3) ls (v.toList ++ rest) w2 Q) : R g M d (x + a) (y + b) pc ls st ws Q := by
  intro p l e Rm s m args below meth c H locs cells slots la cx hr hs hl1 hc1 hc2
  obtain ⟨k1, k2, k3, k4, k5, k6, k7, k8, k9, k10, k11, -⟩ := id cx
  have hcb : CallB Rm s args (mY M).cls idx (mY N) (mC N) (mN N) none (wM N :: gtbl) (rmM d2 a b) a b n := by rw [← hl.2.2.1]; exact cbOf k4 hl.1 hl.2.1 k10 k11 hdd hN
  exact k_run (va_runI (As := As) (rest := rest) ⟨k1, k2, k6, k3, k4⟩ (hC.met hn k9) ⟨hcb, hl.2.2.2.1, k4 _ hl.2.2.2.2⟩ ⟨pc_blind, pc_at cx.kn hr hs⟩ rfl hA hl1.1 hst (lv_room hr8) hd ⟨by omega, by omega⟩) hs
    (fun v w2 H1 locs1 q1 q2 q3 => kk v w2 q1 p l e Rm s m args below meth c H1 locs1 (cells + a) (slots + b) la cx q2 q3 hl1 (by omega) (by omega))
end CALLS
end CC
