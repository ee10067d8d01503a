section TT
variable {g : GG} {M : MT} {d x y : Nat} {pc : Nat} {ls : List (Nat × Value)} {st : List Value} {ws : va_W} {Q : Rs → va_W → Prop}
variable {N : MT} {d2 a b n idx : Nat} {As rest : List Value} {Q1 : Rs → va_W → Prop}
theorem r_ldcS {i : Nat} {text : String} (hd : decode (mC M) pc = .ok (.ldc idx, 2)) (hi : stS[i]? = some ((mY M).cls, idx, text)) (kk : R g M d x y (pc + 2) ls (.ref (gK g i) :: st) ws Q) : R g M d x y pc ls st ws Q := by
  intro p l e Rm s m args below meth c H locs cells slots la cx hr hs hl1 hc1 hc2
  exact va_ldcS cx.1 cx.2.1 cx.2.2.1 (cx.kn.2.2.1 i _ hi) hd (kk p l e Rm s m args below meth c H locs cells slots la cx hr hs hl1 hc1 hc2)
theorem r_getW (hd : decode (mC M) pc = .ok (.getstatic idx, 3)) (hw : Cond.fieldLink (mY M).cls idx "StoryTapestryModel" "WORDS" "[Ljava/lang/String;" ∈ gtbl) (kk : R g M d x y (pc + 3) ls (.ref (gW g) :: st) ws Q) : R g M d x y pc ls st ws Q := by
  intro p l e Rm s m args below meth c H locs cells slots la cx hr hs hl1 hc1 hc2
  exact va_gets cx.1 cx.2.1 cx.kn.2.2.2.1 hs cx.2.2.1 (cx.2.2.2.1 _ hw) (fun _ h => h) hd (kk p l e Rm s m args below meth c H locs cells slots la cx hr hs hl1 hc1 hc2)
theorem r_aldW {i : Int32} (hd : decode (mC M) pc = .ok (.aaload, 1)) (hi : ib i 25 = true) (kk : R g M d x y (pc + 1) ls (.ref (gK g (wS i.toNatClampNeg)) :: st) ws Q) : R g M d x y pc ls (.int i :: .ref (gW g) :: st) ws Q := by
  intro p l e Rm s m args below meth c H locs cells slots la cx hr hs hl1 hc1 hc2
  exact vb_tq cx.1 cx.2.1 cx.kn.2.2.2.2.1 hs (ib_in hi) rfl hd (kk p l e Rm s m args below meth c H locs cells slots la cx hr hs hl1 hc1 hc2)
theorem r_alenW (hd : decode (mC M) pc = .ok (.arraylength, 1)) (kk : R g M d x y (pc + 1) ls (.int 25 :: st) ws Q) : R g M d x y pc ls (.ref (gW g) :: st) ws Q := by
  intro p l e Rm s m args below meth c H locs cells slots la cx hr hs hl1 hc1 hc2
  exact va_tlen cx.1 cx.2.1 cx.kn.2.2.2.2.1 hs (by decide) hd (kk p l e Rm s m args below meth c H locs cells slots la cx hr hs hl1 hc1 hc2)
theorem r_callK {i : Nat} (hd : decode (mC M) pc = .ok (.invokevirtual idx, 3)) (hl : KV (mY M).cls idx N n) (hs9 : (mY N).cls = "java/lang/String") (hi : i < 41) (hC : Ct g N d2 a b (.ref (gK g i) :: As) ws Q1) (hn : ∀ E w, ¬ Q1 (.inr E) w) (hA : As.length = n) (hst : st = As.reverse ++ .ref (gK g i) :: rest) (hr8 : (rest.map fun v => v.category).sum ≤ 8) (hdd : d2 + 1 ≤ d) (hN : mN N ≤ 40)
    (kk : ∀ v w2, Q1 (.inl v) w2 → R g M d x y (pc + 3) ls (v.toList ++ rest) w2 Q) : R g M d (x + a) (y + b) pc ls st ws Q := by
  intro p l e Rm s m args below meth c H locs cells slots la cx hr hs hl1 hc1 hc2
  obtain ⟨k1, k2, k3, k4, k5, k6, k7, k8, k9, k10, k11, -⟩ := id cx
  have hrec := vk_recv (i := i) cx.kn.2.1 hi hs
  rw [← hs9] at hrec
  exact k_run (va_runV (C := (mY N).cls) (As := As) (rest := rest) ⟨k1, k2, k6, k3, k4⟩ (hC.met hn k9) ⟨cbOf k4 hl.1 hl.2.1 k10 k11 hdd hN, k4 _ hl.2.2.1, k4 _ hl.2.2.2⟩ ⟨pc_blind, hrec, pc_at cx.kn hr hs⟩ rfl hA hl1.1 hst (lv_room hr8) hd ⟨by omega, by omega⟩) hs
    (fun v w2 H1 locs1 q1 q2 q3 => kk v w2 q1 p l e Rm s m args below meth c H1 locs1 (cells + a) (slots + b) la cx q2 q3 hl1 (by omega) (by omega))
theorem r_getKv {i : Nat} (hi : i < 41) (hd : decode (mC M) pc = .ok (.getfield idx, 3)) (hw : Cond.fieldLink (mY M).cls idx "java/lang/String" "value" "[B" ∈ gtbl) (kk : R g M d x y (pc + 3) ls (.ref (gV g i) :: st) ws Q) : R g M d x y pc ls (.ref (gK g i) :: st) ws Q := by
  intro p l e Rm s m args below meth c H locs cells slots la cx hr hs hl1 hc1 hc2
  exact vk_getf cx.1 cx.2.1 (cx.kn.2.1.1 i hi).2.2.1 hs cx.2.2.1 (cx.2.2.2.1 _ hw) (fun _ h => h) hd (kk p l e Rm s m args below meth c H locs cells slots la cx hr hs hl1 hc1 hc2)
theorem r_getKc {i : Nat} (hi : i < 41) (hd : decode (mC M) pc = .ok (.getfield idx, 3)) (hw : Cond.fieldLink (mY M).cls idx "java/lang/String" "coder" "B" ∈ gtbl) (kk : R g M d x y (pc + 3) ls (.int 0 :: st) ws Q) : R g M d x y pc ls (.ref (gK g i) :: st) ws Q := by
  intro p l e Rm s m args below meth c H locs cells slots la cx hr hs hl1 hc1 hc2
  exact vk_getf cx.1 cx.2.1 (cx.kn.2.1.1 i hi).2.1 hs cx.2.2.1 (cx.2.2.2.1 _ hw) (fun _ h => h) hd (kk p l e Rm s m args below meth c H locs cells slots la cx hr hs hl1 hc1 hc2)
theorem r_getC (hd : decode (mC M) pc = .ok (.getstatic idx, 3)) (hw : Cond.fieldLink (mY M).cls idx "java/lang/String" "COMPACT_STRINGS" "Z" ∈ gtbl) (kk : R g M d x y (pc + 3) ls (.int 1 :: st) ws Q) : R g M d x y pc ls st ws Q := by
  intro p l e Rm s m args below meth c H locs cells slots la cx hr hs hl1 hc1 hc2
  exact va_gets cx.1 cx.2.1 cx.kn.2.2.2.2.2.2.2.1 hs cx.2.2.1 (cx.2.2.2.1 _ hw) (fun _ h => h) hd (kk p l e Rm s m args below meth c H locs cells slots la cx hr hs hl1 hc1 hc2)
theorem r_getQ (hd : decode (mC M) pc = .ok (.getstatic idx, 3)) (hw : Cond.fieldLink (mY M).cls idx "jdk/internal/util/Preconditions" "SIOOBE_FORMATTER" "Ljava/util/function/BiFunction;" ∈ gtbl) (kk : ∀ v : Value, (v = .null ∨ ∃ t, v = .ref t) → R g M d x y (pc + 3) ls (v :: st) ws Q) : R g M d x y pc ls st ws Q := by
  intro p l e Rm s m args below meth c H locs cells slots la cx hr hs hl1 hc1 hc2
  rcases cx.kn.2.2.2.2.2.2.2.2.1 with h | ⟨t, h⟩
  · exact va_gets cx.1 cx.2.1 h hs cx.2.2.1 (cx.2.2.2.1 _ hw) (fun _ h => h) hd (kk _ (Or.inl rfl) p l e Rm s m args below meth c H locs cells slots la cx hr hs hl1 hc1 hc2)
  · exact va_gets cx.1 cx.2.1 h hs cx.2.2.1 (cx.2.2.2.1 _ hw) (fun _ h => h) hd (kk _ (Or.inr ⟨t, rfl⟩) p l e Rm s m args below meth c H locs cells slots la cx hr hs hl1 hc1 hc2)
theorem r_bald {i : Nat} {j : Int32} (hi : i < 41) (hd : decode (mC M) pc = .ok (.baload, 1)) (hj : ib j (lenS.getD i 0) = true) (kk : R g M d x y (pc + 1) ls (.int ((bytS.getD i []).getD j.toNatClampNeg 0) :: st) ws Q) : R g M d x y pc ls (.int j :: .ref (gV g i) :: st) ws Q := by
  intro p l e Rm s m args below meth c H locs cells slots la cx hr hs hl1 hc1 hc2
  exact va_tb cx.1 cx.2.1 (cx.kn.2.1.1 i hi).2.2.2 hs (ib_in hj) rfl hd (kk p l e Rm s m args below meth c H locs cells slots la cx hr hs hl1 hc1 hc2)
theorem r_alenV {i : Nat} (hi : i < 41) (hd : decode (mC M) pc = .ok (.arraylength, 1)) (kk : R g M d x y (pc + 1) ls (.int (Int32.ofNat (lenS.getD i 0)) :: st) ws Q) : R g M d x y pc ls (.ref (gV g i) :: st) ws Q := by
  intro p l e Rm s m args below meth c H locs cells slots la cx hr hs hl1 hc1 hc2
  exact va_tlen cx.1 cx.2.1 (cx.kn.2.1.1 i hi).2.2.2 hs rfl hd (kk p l e Rm s m args below meth c H locs cells slots la cx hr hs hl1 hc1 hc2)
/-- one outcome -/
abbrev Dv (v : Option Value) (w : va_W) : Rs → va_W → Prop := fun r w2 => r = .inl v ∧ w2 = w
theorem Dv.no {v : Option Value} {w : va_W} : ∀ E w2, ¬ Dv v w (.inr E) w2 := fun _ _ h => nomatch h.1
abbrev Dx (E : String) (w : va_W) : Rs → va_W → Prop := fun r w2 => r = .inr E ∧ w2 = w
/-- loops: the step goes on or comes to an end -/
def lpS {S T : Type} (fail : T) (step : S → S ⊕ T) : Nat → S → T
  | 0, _ => fail
  | n + 1, s => match step s with
    | .inl s2 => lpS fail step n s2
    | .inr t => t
end TT
