section TT
variable {g : GG} {M : MT} {d x y : Nat} {pc : Nat} {ls : List (Nat × Value)} {st : List Value} {ws : va_W} {Q : Rs → va_W → Prop}
variable {N : MT} {d2 a b n idx : Nat} {As rest : List Value} {Q1 : Rs → va_W → Prop}
theorem r_ldcS {i : Nat} {text : String} (hd : decode (mC M) pc = .ok (.ldc idx, 2)) (hi : stS[i]? = some ((mY M).cls, idx, text)) (kk : R g M d x y (pc + 2) ls (.ref (gK g i) :: st) ws Q) : R g M d x y pc ls st ws Q := by
  intro p l e Rm s m args below meth c H locs cells slots la cx hr hs hl1 hc1 hc2
  exact va_ldcS cx.1 cx.2.1 cx.2.2.1 (cx.kn.2.2.1 i _ hi) hd (kk p l e Rm s m args below meth c H locs cells slots la cx hr hs hl1 hc1 hc2)
theorem r_callK {i : Nat} (hd : decode (mC M) pc = .ok (.invokevirtual idx, 3)) (hl : KV (mY M).cls idx N n) (hs9 : (mY N).cls = "java/lang/String") (hi : i < 61) (hC : Ct g N d2 a b (.ref (gK g i) :: As) ws Q1) (hn : ∀ E w, ¬ Q1 (.inr E) w) (hA : As.length = n) (hst : st = As.reverse ++ .ref (gK g i) :: rest) (hr8 : (rest.map fun v => v.category).sum ≤ 8) (hdd : d2 + 1 ≤ d) (hN : mN N ≤ 40)
    (kk : ∀ v w2, Q1 (.inl v) w2 → R g M d x y (pc + 3) ls (v.toList ++ rest) w2 Q) : R g M d (x + a) (y + b) pc ls st ws Q := by
  intro p l e Rm s m args below meth c H locs cells slots la cx hr hs hl1 hc1 hc2
  obtain ⟨k1, k2, k3, k4, k5, k6, k7, k8, k9, k10, k11, -⟩ := id cx
  have hrec := vk_recv (i := i) cx.kn.2.1 hi hs
  rw [← hs9] at hrec
  exact k_run (va_runV (C := (mY N).cls) (As := As) (rest := rest) ⟨k1, k2, k6, k3, k4⟩ (hC.met hn k9) ⟨cbOf k4 hl.1 hl.2.1 k10 k11 hdd hN, k4 _ hl.2.2.1, k4 _ hl.2.2.2⟩ ⟨pc_blind, hrec, pc_at cx.kn hr hs⟩ rfl hA hl1.1 hst (lv_room hr8) hd ⟨by omega, by omega⟩) hs
    (fun v w2 H1 locs1 q1 q2 q3 => kk v w2 q1 p l e Rm s m args below meth c H1 locs1 (cells + a) (slots + b) la cx q2 q3 hl1 (by omega) (by omega))
theorem r_getKv {i : Nat} (hi : i < 61) (hd : decode (mC M) pc = .ok (.getfield idx, 3)) (hw : Cond.fieldLink (mY M).cls idx "java/lang/String" "value" "[B" ∈ gtbl) (kk : R g M d x y (pc + 3) ls (.ref (gV g i) :: st) ws Q) : R g M d x y pc ls (.ref (gK g i) :: st) ws Q := by
  intro p l e Rm s m args below meth c H locs cells slots la cx hr hs hl1 hc1 hc2
  exact vk_getf cx.1 cx.2.1 (cx.kn.2.1.1 i hi).2.2.1 hs cx.2.2.1 (cx.2.2.2.1 _ hw) (fun _ h => h) hd (kk p l e Rm s m args below meth c H locs cells slots la cx hr hs hl1 hc1 hc2)
theorem r_getKc {i : Nat} (hi : i < 61) (hd : decode (mC M) pc = .ok (.getfield idx, 3)) (hw : Cond.fieldLink (mY M).cls idx "java/lang/String" "coder" "B" ∈ gtbl) (kk : R g M d x y (pc + 3) ls (.int 0 :: st) ws Q) : R g M d x y pc ls (.ref (gK g i) :: st) ws Q := by
  intro p l e Rm s m args below meth c H locs cells slots la cx hr hs hl1 hc1 hc2
  exact vk_getf cx.1 cx.2.1 (cx.kn.2.1.1 i hi).2.1 hs cx.2.2.1 (cx.2.2.2.1 _ hw) (fun _ h => h) hd (kk p l e Rm s m args below meth c H locs cells slots la cx hr hs hl1 hc1 hc2)
theorem r_getC (hd : decode (mC M) pc = .ok (.getstatic idx, 3)) (hw : Cond.fieldLink (mY M).cls idx "java/lang/String" "COMPACT_STRINGS" "Z" ∈ gtbl) (kk : R g M d x y (pc + 3) ls (.int 1 :: st) ws Q) : R g M d x y pc ls st ws Q := by
  intro p l e Rm s m args below meth c H locs cells slots la cx hr hs hl1 hc1 hc2
  exact va_gets cx.1 cx.2.1 cx.kn.2.2.2.2.2.2.2.1 hs cx.2.2.1 (cx.2.2.2.1 _ hw) (fun _ h => h) hd (kk p l e Rm s m args below meth c H locs cells slots la cx hr hs hl1 hc1 hc2)
theorem r_getQ (hd : decode (mC M) pc = .ok (.getstatic idx, 3)) (hw : Cond.fieldLink (mY M).cls idx "jdk/internal/util/Preconditions" "SIOOBE_FORMATTER" "Ljava/util/function/BiFunction;" ∈ gtbl) (kk : ∀ v : Value, (v = .null ∨ ∃ t, v = .ref t) → R g M d x y (pc + 3) ls (v :: st) ws Q) : R g M d x y pc ls st ws Q := by
  intro p l e Rm s m args below meth c H locs cells slots la cx hr hs hl1 hc1 hc2
  rcases cx.kn.2.2.2.2.2.2.2.2.1 with h | ⟨t, h⟩
  · exact va_gets cx.1 cx.2.1 h hs cx.2.2.1 (cx.2.2.2.1 _ hw) (fun _ h => h) hd (kk _ (Or.inl rfl) p l e Rm s m args below meth c H locs cells slots la cx hr hs hl1 hc1 hc2)
  · exact va_gets cx.1 cx.2.1 h hs cx.2.2.1 (cx.2.2.2.1 _ hw) (fun _ h => h) hd (kk _ (Or.inr ⟨t, rfl⟩) p l e Rm s m args below meth c H locs cells slots la cx hr hs hl1 hc1 hc2)
theorem r_bald {i : Nat} {j : Int32} (hi : i < 61) (hd : decode (mC M) pc = .ok (.baload, 1)) (hj : ib j (lenS.getD i 0) = true) (kk : R g M d x y (pc + 1) ls (.int ((bytS.getD i []).getD j.toNatClampNeg 0) :: st) ws Q) : R g M d x y pc ls (.int j :: .ref (gV g i) :: st) ws Q := by
  intro p l e Rm s m args below meth c H locs cells slots la cx hr hs hl1 hc1 hc2
  exact va_tb cx.1 cx.2.1 (cx.kn.2.1.1 i hi).2.2.2 hs (ib_in hj) rfl hd (kk p l e Rm s m args below meth c H locs cells slots la cx hr hs hl1 hc1 hc2)
theorem r_alenV {i : Nat} (hi : i < 61) (hd : decode (mC M) pc = .ok (.arraylength, 1)) (kk : R g M d x y (pc + 1) ls (.int (Int32.ofNat (lenS.getD i 0)) :: st) ws Q) : R g M d x y pc ls (.ref (gV g i) :: st) ws Q := by
  intro p l e Rm s m args below meth c H locs cells slots la cx hr hs hl1 hc1 hc2
  exact va_tlen cx.1 cx.2.1 (cx.kn.2.1.1 i hi).2.2.2 hs rfl hd (kk p l e Rm s m args below meth c H locs cells slots la cx hr hs hl1 hc1 hc2)
/-- one outcome -/
abbrev Dv (v : Option Value) (w : va_W) : Rs → va_W → Prop := fun r w2 => r = .inl v ∧ w2 = w
theorem Dv.no {v : Option Value} {w : va_W} : ∀ E w2, ¬ Dv v w (.inr E) w2 := fun _ _ h => nomatch h.1
abbrev Dx (E : String) (w : va_W) : Rs → va_W → Prop := fun r w2 => r = .inr E ∧ w2 = w
/-- loops: the step goes on or comes to an end -/
def lpS {S T : Type} (step : S → S ⊕ T) (fail : T) : Nat → S → T
  | 0, _ => fail
  | n + 1, s => match step s with
    | .inl s2 => lpS step fail n s2
    | .inr t => t
/-- what follows behind one step -/
def lC {S T : Type} (step : S → S ⊕ T) (fail : T) (n : Nat) (v : S ⊕ T) : T := match v with
  | .inl s2 => lpS step fail n s2
  | .inr t => t
def oB {α T : Type} (fail : T) (e : Option α) (k : α → T) : T := match e with
  | none => fail
  | some r => k r
theorem ip {α β : Type} (C : α → β) {c : Prop} [Decidable c] {a b : α} {o : β} (hc : c) (h : C (if c then a else b) = o) : C a = o := by rw [if_pos hc] at h; exact h
theorem iq {α β : Type} (C : α → β) {c : Prop} [Decidable c] {a b : α} {o : β} (hc : ¬ c) (h : C (if c then a else b) = o) : C b = o := by rw [if_neg hc] at h; exact h
theorem ob {α T β : Type} (C : T → Option β) {fail : T} {e : Option α} {k : α → T} {o : β} (hf : C fail = none) (h : C (oB fail e k) = some o) : ∃ r, e = some r ∧ C (k r) = some o := by
  cases e with
  | none => rw [show oB fail none k = fail from rfl, hf] at h; cases h
  | some r => exact ⟨r, rfl, h⟩
theorem gd {T β : Type} (C : T → Option β) {fail : T} {b : Bool} {k : T} {o : β} (hf : C fail = none) (h : C (if b = true then k else fail) = some o) : b = true ∧ C k = some o := by
  cases b with
  | false => rw [if_neg (by decide), hf] at h; cases h
  | true => rw [if_pos rfl] at h; exact ⟨rfl, h⟩
def zB (v : Int32) : Bool := decide (v = 0) || decide (v = 1)
theorem zB_n {v : Int32} (h : zB v = true) : narrow .boolean (.int v) = .int v := by
  simp only [zB, Bool.or_eq_true, decide_eq_true_eq] at h
  rcases h with rfl | rfl <;> rfl
theorem zO_n {v : Int32} (h : v = 0 ∨ v = 1) : narrow .boolean (.int v) = .int v := by rcases h with rfl | rfl <;> rfl
theorem lo_cons {c o off dflt : Int} {r : List (Int × Int)} {a v : Int32} (hv : v.toInt = c) (h : ¬ a = v) (k : Op.lookupswitch.offset r dflt a.toInt = off) : Op.lookupswitch.offset ((c, o) :: r) dflt a.toInt = off := by
  rw [Op.lookupswitch.offset_cons, if_neg (fun e => h (Int32.toInt_inj.mp (by rw [hv]; exact e.symm)))]
  exact k
theorem lo_hit {c o dflt : Int} {r : List (Int × Int)} {a v : Int32} (hv : v.toInt = c) (h : a = v) : Op.lookupswitch.offset ((c, o) :: r) dflt a.toInt = o := by
  rw [Op.lookupswitch.offset_cons, if_pos (by rw [h]; exact hv.symm)]
/-- a method that may throw: both ends -/
abbrev Dt {α : Type} (o : α ⊕ String) (fv : α → Option Value) (fw : α → va_W) (w0 : va_W) : Rs → va_W → Prop := fun r w => match o with
  | .inl q => r = .inl (fv q) ∧ w = fw q
  | .inr E => r = .inr E ∧ w = w0
section DC
variable {v : Option Value} {w2 : va_W} {r : Value}
theorem r_wc {w3 : va_W} (h : w3 = ws) (kk : R g M d x y pc ls st w3 Q) : R g M d x y pc ls st ws Q := h ▸ kk
theorem c_S (a2 b2 : Nat) (hd : decode (mC M) pc = .ok (.invokestatic idx, 3)) (hl : KS (mY M).cls idx N n) (hC : Ct g N d2 a b As ws (Dv (some r) w2)) (hA : As.length = n) (hst : st = As.reverse ++ rest) (hr8 : (rest.map fun v => v.category).sum ≤ 8) (hdd : d2 + 1 ≤ d) (hN : mN N ≤ 40)
    (kk : R g M d a2 b2 (pc + 3) ls (r :: rest) w2 Q) : R g M d (a2 + a) (b2 + b) pc ls st ws Q :=
  r_callS hd hl hC Dv.no hA hst hr8 hdd hN (fun v w h => by obtain ⟨h1, rfl⟩ := h; cases h1; exact kk)
theorem c_Sv (a2 b2 : Nat) (hd : decode (mC M) pc = .ok (.invokestatic idx, 3)) (hl : KS (mY M).cls idx N n) (hC : Ct g N d2 a b As ws (Dv none w2)) (hA : As.length = n) (hst : st = As.reverse ++ rest) (hr8 : (rest.map fun v => v.category).sum ≤ 8) (hdd : d2 + 1 ≤ d) (hN : mN N ≤ 40)
    (kk : R g M d a2 b2 (pc + 3) ls rest w2 Q) : R g M d (a2 + a) (b2 + b) pc ls st ws Q :=
  r_callS hd hl hC Dv.no hA hst hr8 hdd hN (fun v w h => by obtain ⟨h1, rfl⟩ := h; cases h1; exact kk)
theorem c_SN (a2 b2 : Nat) (hd : decode (mC M) pc = .ok (.invokestatic idx, 3)) (hl : KSN (mY M).cls idx N n) (hC : Ct g N d2 a b As ws (Dv (some r) w2)) (hA : As.length = n) (hst : st = As.reverse ++ rest) (hr8 : (rest.map fun v => v.category).sum ≤ 8) (hdd : d2 + 1 ≤ d) (hN : mN N ≤ 40)
    (kk : R g M d a2 b2 (pc + 3) ls (r :: rest) w2 Q) : R g M d (a2 + a) (b2 + b) pc ls st ws Q :=
  r_callSN hd hl hC Dv.no hA hst hr8 hdd hN (fun v w h => by obtain ⟨h1, rfl⟩ := h; cases h1; exact kk)
theorem c_SW (a2 b2 : Nat) (hd : decode (mC M) pc = .ok (.invokestatic idx, 3)) (hl : KSW (mY M).cls idx N n) (hC : Ct g N d2 a b As ws (Dv (some r) w2)) (hA : As.length = n) (hst : st = As.reverse ++ rest) (hr8 : (rest.map fun v => v.category).sum ≤ 8) (hdd : d2 + 1 ≤ d) (hN : mN N ≤ 40)
    (kk : R g M d a2 b2 (pc + 3) ls (r :: rest) w2 Q) : R g M d (a2 + a) (b2 + b) pc ls st ws Q :=
  r_callSW hd hl hC Dv.no hA hst hr8 hdd hN (fun v w h => by obtain ⟨h1, rfl⟩ := h; cases h1; exact kk)
theorem c_K {i : Nat} (a2 b2 : Nat) (hd : decode (mC M) pc = .ok (.invokevirtual idx, 3)) (hl : KV (mY M).cls idx N n) (hs9 : (mY N).cls = "java/lang/String") (hi : i < 61) (hC : Ct g N d2 a b (.ref (gK g i) :: As) ws (Dv (some r) w2)) (hA : As.length = n) (hst : st = As.reverse ++ .ref (gK g i) :: rest) (hr8 : (rest.map fun v => v.category).sum ≤ 8) (hdd : d2 + 1 ≤ d) (hN : mN N ≤ 40)
    (kk : R g M d a2 b2 (pc + 3) ls (r :: rest) w2 Q) : R g M d (a2 + a) (b2 + b) pc ls st ws Q :=
  r_callK hd hl hs9 hi hC Dv.no hA hst hr8 hdd hN (fun v w h => by obtain ⟨h1, rfl⟩ := h; cases h1; exact kk)
variable {ci ob : Nat} {fs : List Value}
theorem c_V (a2 b2 q : Nat) (hd : decode (mC M) pc = .ok (.invokevirtual idx, 3)) (hl : KV (mY M).cls idx N n) (hC : Ct g N d2 a b (.ref ob :: As) ws (Dv (some r) w2)) (hA : As.length = n) (hst : st = As.reverse ++ .ref ob :: rest) (ho : ws[q]? = some (ob, .inr (ci, fs))) (hci : (vwCl[ci]?).map (fun r => r.1) = some (mY N).cls) (hr8 : (rest.map fun v => v.category).sum ≤ 8) (hdd : d2 + 1 ≤ d) (hN : mN N ≤ 40)
    (kk : R g M d a2 b2 (pc + 3) ls (r :: rest) w2 Q) : R g M d (a2 + a) (b2 + b) pc ls st ws Q :=
  r_callV q hd hl hC Dv.no hA hst ho hci hr8 hdd hN (fun v w h => by obtain ⟨h1, rfl⟩ := h; cases h1; exact kk)
theorem c_Vv (a2 b2 q : Nat) (hd : decode (mC M) pc = .ok (.invokevirtual idx, 3)) (hl : KV (mY M).cls idx N n) (hC : Ct g N d2 a b (.ref ob :: As) ws (Dv none w2)) (hA : As.length = n) (hst : st = As.reverse ++ .ref ob :: rest) (ho : ws[q]? = some (ob, .inr (ci, fs))) (hci : (vwCl[ci]?).map (fun r => r.1) = some (mY N).cls) (hr8 : (rest.map fun v => v.category).sum ≤ 8) (hdd : d2 + 1 ≤ d) (hN : mN N ≤ 40)
    (kk : R g M d a2 b2 (pc + 3) ls rest w2 Q) : R g M d (a2 + a) (b2 + b) pc ls st ws Q :=
  r_callV q hd hl hC Dv.no hA hst ho hci hr8 hdd hN (fun v w h => by obtain ⟨h1, rfl⟩ := h; cases h1; exact kk)
variable {α : Type} {fw : α → va_W} {w0 : va_W} {z : α} {E : String}
/-- a call that might throw, and doesn't here -/
theorem c_X {fr : α → Value} (a2 b2 q : Nat) (hd : decode (mC M) pc = .ok (.invokevirtual idx, 3)) (hl : KV (mY M).cls idx N n) (hC : Ct g N d2 a b (.ref ob :: As) ws (Dt (.inl z) (fun z => some (fr z)) fw w0)) (hA : As.length = n) (hst : st = As.reverse ++ .ref ob :: rest) (ho : ws[q]? = some (ob, .inr (ci, fs))) (hci : (vwCl[ci]?).map (fun r => r.1) = some (mY N).cls) (hr8 : (rest.map fun v => v.category).sum ≤ 8) (hdd : d2 + 1 ≤ d) (hN : mN N ≤ 40)
    (kk : R g M d a2 b2 (pc + 3) ls (fr z :: rest) (fw z) Q) : R g M d (a2 + a) (b2 + b) pc ls st ws Q :=
  r_callX q hd hl hC hA hst ho hci hr8 hdd hN (fun E w h => nomatch h.1) (fun v w h => by obtain ⟨h1, rfl⟩ := h; cases h1; exact kk)
theorem c_Xv (a2 b2 q : Nat) (hd : decode (mC M) pc = .ok (.invokevirtual idx, 3)) (hl : KV (mY M).cls idx N n) (hC : Ct g N d2 a b (.ref ob :: As) ws (Dt (.inl z) (fun _ => none) fw w0)) (hA : As.length = n) (hst : st = As.reverse ++ .ref ob :: rest) (ho : ws[q]? = some (ob, .inr (ci, fs))) (hci : (vwCl[ci]?).map (fun r => r.1) = some (mY N).cls) (hr8 : (rest.map fun v => v.category).sum ≤ 8) (hdd : d2 + 1 ≤ d) (hN : mN N ≤ 40)
    (kk : R g M d a2 b2 (pc + 3) ls rest (fw z) Q) : R g M d (a2 + a) (b2 + b) pc ls st ws Q :=
  r_callX q hd hl hC hA hst ho hci hr8 hdd hN (fun E w h => nomatch h.1) (fun v w h => by obtain ⟨h1, rfl⟩ := h; cases h1; exact kk)
/-- .. and does -/
theorem c_Xt {fv : α → Option Value} (a2 b2 q : Nat) (hd : decode (mC M) pc = .ok (.invokevirtual idx, 3)) (hl : KV (mY M).cls idx N n) (hC : Ct g N d2 a b (.ref ob :: As) ws (Dt (.inr E) fv fw w0)) (hA : As.length = n) (hst : st = As.reverse ++ .ref ob :: rest) (ho : ws[q]? = some (ob, .inr (ci, fs))) (hci : (vwCl[ci]?).map (fun r => r.1) = some (mY N).cls) (hr8 : (rest.map fun v => v.category).sum ≤ 8) (hdd : d2 + 1 ≤ d) (hN : mN N ≤ 40)
    (kx : RX g M d a2 b2 pc ls E w0 Q) : R g M d (a2 + a) (b2 + b) pc ls st ws Q :=
  r_callX q hd hl hC hA hst ho hci hr8 hdd hN (fun E2 w h => by obtain ⟨h1, rfl⟩ := h; cases h1; exact kx) (fun v w h => nomatch h.1)
end DC
end TT
