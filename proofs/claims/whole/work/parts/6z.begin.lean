/-! what is known at the start -/
def fl1 : List Cond := flatC (Jvm.Cond.and given_1 narrow_1)
def stI (i : Nat) : String × Nat × String := stS.getD i ("", 0, "")
def tmS (i : Nat) : Term := Term.string (stI i).1 (stI i).2.1
def tmV (i : Nat) : Term := Term.field (tmS i) "java/lang/String" "value" "[B"
def tmW : Term := Term.static "StoryTapestryModel" "WORDS" "[Ljava/lang/String;"
theorem fl_ex : ∀ i, i < 41 → Cond.exactly (tmS i) "java/lang/String" ∈ fl1 := by decide +kernel
def posC : List Nat := [82, 233, 250, 270, 304, 321, 355, 393, 411, 428, 458, 475, 496, 522, 545, 573, 597, 606, 616, 625, 631, 637, 647, 655, 664, 675, 683, 694, 703, 716, 727, 737, 747, 753, 767, 775, 785, 792, 799, 805, 812]
theorem fl_coP : ∀ i, i < 41 → fl1[posC.getD i 0]? = some (Cond.eq (Term.field (tmS i) "java/lang/String" "coder" "B") (.int 0)) := by decide +kernel
theorem fl_co : ∀ i, i < 41 → Cond.eq (Term.field (tmS i) "java/lang/String" "coder" "B") (.int 0) ∈ fl1 := fun i hi => List.mem_of_getElem? (fl_coP i hi)
theorem fl_ar : ∀ i, i < 41 → Cond.arrayOf (tmV i) .byte ∈ fl1 := by decide +kernel
def posL : List Nat := [84, 235, 252, 272, 306, 323, 357, 395, 413, 430, 460, 477, 498, 524, 547, 575, 599, 608, 618, 627, 633, 639, 649, 657, 666, 677, 685, 696, 705, 718, 729, 739, 749, 755, 769, 777, 787, 794, 801, 807, 814]
theorem fl_leP : ∀ i, i < 41 → fl1[posL.getD i 0]? = some (Cond.eq (.length (tmV i)) (.int (Int32.ofNat (lenS.getD i 0)))) := by decide +kernel
theorem fl_le : ∀ i, i < 41 → Cond.eq (.length (tmV i)) (.int (Int32.ofNat (lenS.getD i 0))) ∈ fl1 := fun i hi => List.mem_of_getElem? (fl_leP i hi)
def posE : List Nat := [85, 236, 253, 273, 307, 324, 358, 396, 414, 431, 461, 478, 499, 525, 548, 576, 600, 609, 619, 628, 634, 640, 650, 658, 667, 678, 686, 697, 706, 719, 730, 740, 750, 756, 770, 778, 788, 795, 802, 808, 815]
def elP (i : Nat) : Prop := ∀ j, j < lenS.getD i 0 → fl1[posE.getD i 0 + j]? = some (Cond.eq (.elem (tmV i) (.int (Int32.ofNat j))) (.int ((bytS.getD i []).getD j 0)))
theorem fl_e0 : ∀ j, j < lenS.getD 0 0 → fl1[posE.getD 0 0 + j]? = some (Cond.eq (.elem (tmV 0) (.int (Int32.ofNat j))) (.int ((bytS.getD 0 []).getD j 0))) := by decide +kernel
theorem fl_e1 : ∀ j, j < lenS.getD 1 0 → fl1[posE.getD 1 0 + j]? = some (Cond.eq (.elem (tmV 1) (.int (Int32.ofNat j))) (.int ((bytS.getD 1 []).getD j 0))) := by decide +kernel
theorem fl_e2 : ∀ j, j < lenS.getD 2 0 → fl1[posE.getD 2 0 + j]? = some (Cond.eq (.elem (tmV 2) (.int (Int32.ofNat j))) (.int ((bytS.getD 2 []).getD j 0))) := by decide +kernel
theorem fl_e3 : ∀ j, j < lenS.getD 3 0 → fl1[posE.getD 3 0 + j]? = some (Cond.eq (.elem (tmV 3) (.int (Int32.ofNat j))) (.int ((bytS.getD 3 []).getD j 0))) := by decide +kernel
theorem fl_e4 : ∀ j, j < lenS.getD 4 0 → fl1[posE.getD 4 0 + j]? = some (Cond.eq (.elem (tmV 4) (.int (Int32.ofNat j))) (.int ((bytS.getD 4 []).getD j 0))) := by decide +kernel
theorem fl_e5 : ∀ j, j < lenS.getD 5 0 → fl1[posE.getD 5 0 + j]? = some (Cond.eq (.elem (tmV 5) (.int (Int32.ofNat j))) (.int ((bytS.getD 5 []).getD j 0))) := by decide +kernel
theorem fl_e6 : ∀ j, j < lenS.getD 6 0 → fl1[posE.getD 6 0 + j]? = some (Cond.eq (.elem (tmV 6) (.int (Int32.ofNat j))) (.int ((bytS.getD 6 []).getD j 0))) := by decide +kernel
theorem fl_e7 : ∀ j, j < lenS.getD 7 0 → fl1[posE.getD 7 0 + j]? = some (Cond.eq (.elem (tmV 7) (.int (Int32.ofNat j))) (.int ((bytS.getD 7 []).getD j 0))) := by decide +kernel
theorem fl_e8 : ∀ j, j < lenS.getD 8 0 → fl1[posE.getD 8 0 + j]? = some (Cond.eq (.elem (tmV 8) (.int (Int32.ofNat j))) (.int ((bytS.getD 8 []).getD j 0))) := by decide +kernel
theorem fl_e9 : ∀ j, j < lenS.getD 9 0 → fl1[posE.getD 9 0 + j]? = some (Cond.eq (.elem (tmV 9) (.int (Int32.ofNat j))) (.int ((bytS.getD 9 []).getD j 0))) := by decide +kernel
theorem fl_e10 : ∀ j, j < lenS.getD 10 0 → fl1[posE.getD 10 0 + j]? = some (Cond.eq (.elem (tmV 10) (.int (Int32.ofNat j))) (.int ((bytS.getD 10 []).getD j 0))) := by decide +kernel
theorem fl_e11 : ∀ j, j < lenS.getD 11 0 → fl1[posE.getD 11 0 + j]? = some (Cond.eq (.elem (tmV 11) (.int (Int32.ofNat j))) (.int ((bytS.getD 11 []).getD j 0))) := by decide +kernel
theorem fl_e12 : ∀ j, j < lenS.getD 12 0 → fl1[posE.getD 12 0 + j]? = some (Cond.eq (.elem (tmV 12) (.int (Int32.ofNat j))) (.int ((bytS.getD 12 []).getD j 0))) := by decide +kernel
theorem fl_e13 : ∀ j, j < lenS.getD 13 0 → fl1[posE.getD 13 0 + j]? = some (Cond.eq (.elem (tmV 13) (.int (Int32.ofNat j))) (.int ((bytS.getD 13 []).getD j 0))) := by decide +kernel
theorem fl_e14 : ∀ j, j < lenS.getD 14 0 → fl1[posE.getD 14 0 + j]? = some (Cond.eq (.elem (tmV 14) (.int (Int32.ofNat j))) (.int ((bytS.getD 14 []).getD j 0))) := by decide +kernel
theorem fl_e15 : ∀ j, j < lenS.getD 15 0 → fl1[posE.getD 15 0 + j]? = some (Cond.eq (.elem (tmV 15) (.int (Int32.ofNat j))) (.int ((bytS.getD 15 []).getD j 0))) := by decide +kernel
theorem fl_e16 : ∀ j, j < lenS.getD 16 0 → fl1[posE.getD 16 0 + j]? = some (Cond.eq (.elem (tmV 16) (.int (Int32.ofNat j))) (.int ((bytS.getD 16 []).getD j 0))) := by decide +kernel
theorem fl_e17 : ∀ j, j < lenS.getD 17 0 → fl1[posE.getD 17 0 + j]? = some (Cond.eq (.elem (tmV 17) (.int (Int32.ofNat j))) (.int ((bytS.getD 17 []).getD j 0))) := by decide +kernel
theorem fl_e18 : ∀ j, j < lenS.getD 18 0 → fl1[posE.getD 18 0 + j]? = some (Cond.eq (.elem (tmV 18) (.int (Int32.ofNat j))) (.int ((bytS.getD 18 []).getD j 0))) := by decide +kernel
theorem fl_e19 : ∀ j, j < lenS.getD 19 0 → fl1[posE.getD 19 0 + j]? = some (Cond.eq (.elem (tmV 19) (.int (Int32.ofNat j))) (.int ((bytS.getD 19 []).getD j 0))) := by decide +kernel
theorem fl_e20 : ∀ j, j < lenS.getD 20 0 → fl1[posE.getD 20 0 + j]? = some (Cond.eq (.elem (tmV 20) (.int (Int32.ofNat j))) (.int ((bytS.getD 20 []).getD j 0))) := by decide +kernel
theorem fl_e21 : ∀ j, j < lenS.getD 21 0 → fl1[posE.getD 21 0 + j]? = some (Cond.eq (.elem (tmV 21) (.int (Int32.ofNat j))) (.int ((bytS.getD 21 []).getD j 0))) := by decide +kernel
theorem fl_e22 : ∀ j, j < lenS.getD 22 0 → fl1[posE.getD 22 0 + j]? = some (Cond.eq (.elem (tmV 22) (.int (Int32.ofNat j))) (.int ((bytS.getD 22 []).getD j 0))) := by decide +kernel
theorem fl_e23 : ∀ j, j < lenS.getD 23 0 → fl1[posE.getD 23 0 + j]? = some (Cond.eq (.elem (tmV 23) (.int (Int32.ofNat j))) (.int ((bytS.getD 23 []).getD j 0))) := by decide +kernel
theorem fl_e24 : ∀ j, j < lenS.getD 24 0 → fl1[posE.getD 24 0 + j]? = some (Cond.eq (.elem (tmV 24) (.int (Int32.ofNat j))) (.int ((bytS.getD 24 []).getD j 0))) := by decide +kernel
theorem fl_e25 : ∀ j, j < lenS.getD 25 0 → fl1[posE.getD 25 0 + j]? = some (Cond.eq (.elem (tmV 25) (.int (Int32.ofNat j))) (.int ((bytS.getD 25 []).getD j 0))) := by decide +kernel
theorem fl_e26 : ∀ j, j < lenS.getD 26 0 → fl1[posE.getD 26 0 + j]? = some (Cond.eq (.elem (tmV 26) (.int (Int32.ofNat j))) (.int ((bytS.getD 26 []).getD j 0))) := by decide +kernel
theorem fl_e27 : ∀ j, j < lenS.getD 27 0 → fl1[posE.getD 27 0 + j]? = some (Cond.eq (.elem (tmV 27) (.int (Int32.ofNat j))) (.int ((bytS.getD 27 []).getD j 0))) := by decide +kernel
theorem fl_e28 : ∀ j, j < lenS.getD 28 0 → fl1[posE.getD 28 0 + j]? = some (Cond.eq (.elem (tmV 28) (.int (Int32.ofNat j))) (.int ((bytS.getD 28 []).getD j 0))) := by decide +kernel
theorem fl_e29 : ∀ j, j < lenS.getD 29 0 → fl1[posE.getD 29 0 + j]? = some (Cond.eq (.elem (tmV 29) (.int (Int32.ofNat j))) (.int ((bytS.getD 29 []).getD j 0))) := by decide +kernel
theorem fl_e30 : ∀ j, j < lenS.getD 30 0 → fl1[posE.getD 30 0 + j]? = some (Cond.eq (.elem (tmV 30) (.int (Int32.ofNat j))) (.int ((bytS.getD 30 []).getD j 0))) := by decide +kernel
theorem fl_e31 : ∀ j, j < lenS.getD 31 0 → fl1[posE.getD 31 0 + j]? = some (Cond.eq (.elem (tmV 31) (.int (Int32.ofNat j))) (.int ((bytS.getD 31 []).getD j 0))) := by decide +kernel
theorem fl_e32 : ∀ j, j < lenS.getD 32 0 → fl1[posE.getD 32 0 + j]? = some (Cond.eq (.elem (tmV 32) (.int (Int32.ofNat j))) (.int ((bytS.getD 32 []).getD j 0))) := by decide +kernel
theorem fl_e33 : ∀ j, j < lenS.getD 33 0 → fl1[posE.getD 33 0 + j]? = some (Cond.eq (.elem (tmV 33) (.int (Int32.ofNat j))) (.int ((bytS.getD 33 []).getD j 0))) := by decide +kernel
theorem fl_e34 : ∀ j, j < lenS.getD 34 0 → fl1[posE.getD 34 0 + j]? = some (Cond.eq (.elem (tmV 34) (.int (Int32.ofNat j))) (.int ((bytS.getD 34 []).getD j 0))) := by decide +kernel
theorem fl_e35 : ∀ j, j < lenS.getD 35 0 → fl1[posE.getD 35 0 + j]? = some (Cond.eq (.elem (tmV 35) (.int (Int32.ofNat j))) (.int ((bytS.getD 35 []).getD j 0))) := by decide +kernel
theorem fl_e36 : ∀ j, j < lenS.getD 36 0 → fl1[posE.getD 36 0 + j]? = some (Cond.eq (.elem (tmV 36) (.int (Int32.ofNat j))) (.int ((bytS.getD 36 []).getD j 0))) := by decide +kernel
theorem fl_e37 : ∀ j, j < lenS.getD 37 0 → fl1[posE.getD 37 0 + j]? = some (Cond.eq (.elem (tmV 37) (.int (Int32.ofNat j))) (.int ((bytS.getD 37 []).getD j 0))) := by decide +kernel
theorem fl_e38 : ∀ j, j < lenS.getD 38 0 → fl1[posE.getD 38 0 + j]? = some (Cond.eq (.elem (tmV 38) (.int (Int32.ofNat j))) (.int ((bytS.getD 38 []).getD j 0))) := by decide +kernel
theorem fl_e39 : ∀ j, j < lenS.getD 39 0 → fl1[posE.getD 39 0 + j]? = some (Cond.eq (.elem (tmV 39) (.int (Int32.ofNat j))) (.int ((bytS.getD 39 []).getD j 0))) := by decide +kernel
theorem fl_e40 : ∀ j, j < lenS.getD 40 0 → fl1[posE.getD 40 0 + j]? = some (Cond.eq (.elem (tmV 40) (.int (Int32.ofNat j))) (.int ((bytS.getD 40 []).getD j 0))) := by decide +kernel
theorem fl_el : ∀ i, i < 41 → ∀ j, j < lenS.getD i 0 → Cond.eq (.elem (tmV i) (.int (Int32.ofNat j))) (.int ((bytS.getD i []).getD j 0)) ∈ fl1 := by
  intro i hi j hj
  match i, hi with
  | 0, _ => exact List.mem_of_getElem? (fl_e0 j hj)
  | 1, _ => exact List.mem_of_getElem? (fl_e1 j hj)
  | 2, _ => exact List.mem_of_getElem? (fl_e2 j hj)
  | 3, _ => exact List.mem_of_getElem? (fl_e3 j hj)
  | 4, _ => exact List.mem_of_getElem? (fl_e4 j hj)
  | 5, _ => exact List.mem_of_getElem? (fl_e5 j hj)
  | 6, _ => exact List.mem_of_getElem? (fl_e6 j hj)
  | 7, _ => exact List.mem_of_getElem? (fl_e7 j hj)
  | 8, _ => exact List.mem_of_getElem? (fl_e8 j hj)
  | 9, _ => exact List.mem_of_getElem? (fl_e9 j hj)
  | 10, _ => exact List.mem_of_getElem? (fl_e10 j hj)
  | 11, _ => exact List.mem_of_getElem? (fl_e11 j hj)
  | 12, _ => exact List.mem_of_getElem? (fl_e12 j hj)
  | 13, _ => exact List.mem_of_getElem? (fl_e13 j hj)
  | 14, _ => exact List.mem_of_getElem? (fl_e14 j hj)
  | 15, _ => exact List.mem_of_getElem? (fl_e15 j hj)
  | 16, _ => exact List.mem_of_getElem? (fl_e16 j hj)
  | 17, _ => exact List.mem_of_getElem? (fl_e17 j hj)
  | 18, _ => exact List.mem_of_getElem? (fl_e18 j hj)
  | 19, _ => exact List.mem_of_getElem? (fl_e19 j hj)
  | 20, _ => exact List.mem_of_getElem? (fl_e20 j hj)
  | 21, _ => exact List.mem_of_getElem? (fl_e21 j hj)
  | 22, _ => exact List.mem_of_getElem? (fl_e22 j hj)
  | 23, _ => exact List.mem_of_getElem? (fl_e23 j hj)
  | 24, _ => exact List.mem_of_getElem? (fl_e24 j hj)
  | 25, _ => exact List.mem_of_getElem? (fl_e25 j hj)
  | 26, _ => exact List.mem_of_getElem? (fl_e26 j hj)
  | 27, _ => exact List.mem_of_getElem? (fl_e27 j hj)
  | 28, _ => exact List.mem_of_getElem? (fl_e28 j hj)
  | 29, _ => exact List.mem_of_getElem? (fl_e29 j hj)
  | 30, _ => exact List.mem_of_getElem? (fl_e30 j hj)
  | 31, _ => exact List.mem_of_getElem? (fl_e31 j hj)
  | 32, _ => exact List.mem_of_getElem? (fl_e32 j hj)
  | 33, _ => exact List.mem_of_getElem? (fl_e33 j hj)
  | 34, _ => exact List.mem_of_getElem? (fl_e34 j hj)
  | 35, _ => exact List.mem_of_getElem? (fl_e35 j hj)
  | 36, _ => exact List.mem_of_getElem? (fl_e36 j hj)
  | 37, _ => exact List.mem_of_getElem? (fl_e37 j hj)
  | 38, _ => exact List.mem_of_getElem? (fl_e38 j hj)
  | 39, _ => exact List.mem_of_getElem? (fl_e39 j hj)
  | 40, _ => exact List.mem_of_getElem? (fl_e40 j hj)
  | i + 41, h => exact absurd h (by omega)
theorem fl_sm : ∀ i, i < 41 → lenS.getD i 0 < 2 ^ 31 := by decide +kernel
theorem fl_df : ∀ i, i < 41 → ∀ j, j < 41 → lenS.getD i 0 = lenS.getD j 0 → (∀ k, k < lenS.getD i 0 → (bytS.getD i []).getD k 0 = (bytS.getD j []).getD k 0) → i = j := by decide +kernel
theorem fl_wa : Cond.arrayOf tmW (.object "java/lang/String") ∈ fl1 := by decide +kernel
theorem fl_wl : Cond.eq (.length tmW) (.int 25) ∈ fl1 := by decide +kernel
theorem fl_we : ∀ j, j < 25 → Cond.eq (.elem tmW (.int (Int32.ofNat j))) (tmS (wS j)) ∈ fl1 := by decide +kernel
theorem fl_st : ∀ q ∈ stS, Cond.stringRef q.1 q.2.1 q.2.2 ∈ lw_tbl := by decide +kernel
theorem fl_nc : ∀ q ∈ ncS, Cond.not (.castable q.1 q.2) ∈ fl1 := by decide +kernel
section BG
variable {s : State} {args : Array Value} {A : Nat → Prop}
theorem str_one (h : ∀ w ∈ fl1, w.before args s = true) (hA : ∀ a : Nat, a < s.heap.size → ¬ A a) (i : Nat) (hi : i < 41) : ∃ q : Nat × Nat, (tmS i).eval args s none [] s = some (.ref q.1) ∧ va_O "java/lang/String" q.1 A s s.heap ∧ va_OF "java/lang/String" "coder" "B" (.int 0) q.1 A s s.heap ∧ va_OF "java/lang/String" "value" "[B" (.ref q.2) q.1 A s s.heap ∧ va_T .byte q.2 (lenS.getD i 0) (fun j => .int ((bytS.getD i []).getD j 0)) A s s.heap := by
  obtain ⟨adK, adV, h1, h2⟩ := vk_Sof (args := args) (s := s) (N := 1) (tm := fun _ => tmS i) (len := [lenS.getD i 0]) (byt := [bytS.getD i []]) (A := A)
    (fun k hk => by rw [show k = 0 by omega]; exact fl_sm i hi)
    (fun k hk => h _ (fl_ex i hi)) (fun k hk => h _ (fl_co i hi)) (fun k hk => h _ (fl_ar i hi))
    (fun k hk => by rw [show k = 0 by omega]; exact h _ (fl_le i hi))
    (fun k hk j hj => by rw [show k = 0 by omega] at hj ⊢; exact h _ (fl_el i hi j hj))
    (fun a c ha hc hne => absurd (show a = c by omega) hne) hA
  obtain ⟨b1, b2, b3, b4⟩ := h1.1 0 (by decide)
  exact ⟨(adK 0, adV 0), h2 0 (by decide), b1, b2, b3, b4⟩
theorem str_all (h : ∀ w ∈ fl1, w.before args s = true) (hA : ∀ a : Nat, a < s.heap.size → ¬ A a) : ∃ adK adV : Nat → Nat, vk_S nS lenS bytS adK adV A s s.heap ∧ ∀ i, i < 41 → (tmS i).eval args s none [] s = some (.ref (adK i)) := by
  have h0 : ∀ i : Nat, ∃ q : Nat × Nat, i < 41 → (tmS i).eval args s none [] s = some (.ref q.1) ∧ va_O "java/lang/String" q.1 A s s.heap ∧ va_OF "java/lang/String" "coder" "B" (.int 0) q.1 A s s.heap ∧ va_OF "java/lang/String" "value" "[B" (.ref q.2) q.1 A s s.heap ∧ va_T .byte q.2 (lenS.getD i 0) (fun j => .int ((bytS.getD i []).getD j 0)) A s s.heap := by
    intro i
    by_cases hi : i < 41
    · obtain ⟨q, hq⟩ := str_one h hA i hi
      exact ⟨q, fun _ => hq⟩
    · exact ⟨(0, 0), fun h9 => absurd h9 hi⟩
  obtain ⟨ad, had⟩ := Classical.axiomOfChoice h0
  refine ⟨fun i => (ad i).1, fun i => (ad i).2, ⟨fun i hi => (had i hi).2, fun i j hi hj e => ?_⟩, fun i hi => (had i hi).1⟩
  have hi2 : i < 41 := hi
  have hj2 : j < 41 := hj
  obtain ⟨-, -, -, ⟨cf1, k1, i1, f1, ce1, p1, p2, p3, p4, p5, p6⟩, cc1, r1, r2, r3, r4, r5, r6, r7⟩ := had i hi2
  obtain ⟨-, -, -, ⟨cf2, k2, i2, f2, ce2, t1, t2, t3, t4, t5, t6⟩, cc2, u1, u2, u3, u4, u5, u6, u7⟩ := had j hj2
  have e0 : (ad i).1 = (ad j).1 := e
  rw [p1] at t1
  obtain ⟨rfl, rfl, rfl, rfl⟩ : cf1 = cf2 ∧ k1 = k2 ∧ i1 = i2 ∧ f1 = f2 := by
    have := Option.some.inj t1
    simpa [Prod.ext_iff] using this
  rw [e0, t3] at p3
  have e1 : ce2 = ce1 := Option.some.inj p3
  rw [← e1, t5] at p5
  have e2 : (ad j).2 = (ad i).2 := by
    have := Option.some.inj p5
    injection this
  rw [← e2, u1] at r1
  have e3 : cc2 = cc1 := Option.some.inj r1
  subst e3
  have e4 : lenS.getD i 0 = lenS.getD j 0 := (nI_eq (fl_sm i hi2) (fl_sm j hj2)).mp (r5.symm.trans u5)
  refine fl_df i hi2 j hj2 e4 (fun k hk => ?_)
  have e5 := (r6 k hk).symm.trans (u6 k (by omega))
  have := Option.some.inj e5
  injection this
theorem arr_I (h : (Cond.arrayClass .int).before args s = true) : ∃ c : ClassId, ArrOfT s c .int ∧ va_RA s c .int := by
  obtain ⟨c, k, comp, h1, h2, h3⟩ := Cond.arrayClass_spec h
  exact ⟨c, fun n z => ⟨fun k h => (by cases h), k, h2, comp, h3⟩, h1⟩
theorem arr_J (h : (Cond.arrayClass .long).before args s = true) : ∃ c : ClassId, ArrOfT s c .long ∧ va_RA s c .long := by
  obtain ⟨c, k, comp, h1, h2, h3⟩ := Cond.arrayClass_spec h
  exact ⟨c, fun n z => ⟨fun k h => (by cases h), k, h2, comp, h3⟩, h1⟩
theorem cls_all (h : ∀ w ∈ gtbl, w.before args s = true) (hi : ∀ w ∈ lw_tbl, w.before args s = true) : ∃ (dC : Nat → ClassId) (dI : Nat → Nat → Nat), ∀ (c : Nat) (q : vw_C), vwCl[c]? = some q → u_Kn s q.1 q.2.1 q.2.2 (dC c) (dI c) := by
  have h0 : ∀ c : Nat, ∃ d : ClassId × (Nat → Nat), ∀ q : vw_C, vwCl[c]? = some q → u_Kn s q.1 q.2.1 q.2.2 d.1 d.2 := by
    intro c
    match c with
    | 0 => exact (fun ⟨cC, iS, hk⟩ => ⟨(cC, iS), fun q hq => by cases hq; exact hk⟩) (u_known (C := RX0) (T := TX0) (N := 6) (n := 6) h il_0 (hi _ (by decide +kernel)))
    | 1 => exact (fun ⟨cC, iS, hk⟩ => ⟨(cC, iS), fun q hq => by cases hq; exact hk⟩) (u_known (C := RX1) (T := TX1) (N := 7) (n := 7) h il_1 (hi _ (by decide +kernel)))
    | 2 => exact (fun ⟨cC, iS, hk⟩ => ⟨(cC, iS), fun q hq => by cases hq; exact hk⟩) (u_known (C := RX2) (T := TX2) (N := 2) (n := 2) h il_2 (hi _ (by decide +kernel)))
    | 3 => exact (fun ⟨cC, iS, hk⟩ => ⟨(cC, iS), fun q hq => by cases hq; exact hk⟩) (u_known (C := RX3) (T := TX3) (N := 7) (n := 7) h il_3 (hi _ (by decide +kernel)))
    | 4 => exact (fun ⟨cC, iS, hk⟩ => ⟨(cC, iS), fun q hq => by cases hq; exact hk⟩) (u_known (C := RX4) (T := TX4) (N := 9) (n := 9) h il_4 (hi _ (by decide +kernel)))
    | 5 => exact (fun ⟨cC, iS, hk⟩ => ⟨(cC, iS), fun q hq => by cases hq; exact hk⟩) (u_known (C := RX5) (T := TX5) (N := 1) (n := 1) h il_5 (hi _ (by decide +kernel)))
    | 6 => exact (fun ⟨cC, iS, hk⟩ => ⟨(cC, iS), fun q hq => by cases hq; exact hk⟩) (u_known (C := RX6) (T := TX6) (N := 4) (n := 4) h il_6 (hi _ (by decide +kernel)))
    | 7 => exact (fun ⟨cC, iS, hk⟩ => ⟨(cC, iS), fun q hq => by cases hq; exact hk⟩) (u_known (C := RX7) (T := TX7) (N := 10) (n := 10) h il_7 (hi _ (by decide +kernel)))
    | 8 => exact (fun ⟨cC, iS, hk⟩ => ⟨(cC, iS), fun q hq => by cases hq; exact hk⟩) (u_known (C := RX8) (T := TX8) (N := 7) (n := 7) h il_8 (hi _ (by decide +kernel)))
    | 9 => exact (fun ⟨cC, iS, hk⟩ => ⟨(cC, iS), fun q hq => by cases hq; exact hk⟩) (u_known (C := RX9) (T := TX9) (N := 8) (n := 8) h il_9 (hi _ (by decide +kernel)))
    | 10 => exact (fun ⟨cC, iS, hk⟩ => ⟨(cC, iS), fun q hq => by cases hq; exact hk⟩) (u_known (C := RX10) (T := TX10) (N := 19) (n := 19) h il_10 (hi _ (by decide +kernel)))
    | 11 => exact (fun ⟨cC, iS, hk⟩ => ⟨(cC, iS), fun q hq => by cases hq; exact hk⟩) (u_known (C := RX11) (T := TX11) (N := 23) (n := 23) h il_11 (hi _ (by decide +kernel)))
    | c + 12 => exact ⟨(0, fun _ => 0), fun q hq => by simp at hq⟩
  obtain ⟨d, hd⟩ := Classical.axiomOfChoice h0
  exact ⟨fun c => (d c).1, fun c => (d c).2, fun c q hq => hd c q hq⟩
/-- everything that stays, from the statement's words -/
theorem kn_start {b L : Nat} {xs : Nat → Int32} (hts : ∀ w ∈ lw_tbl, w.before args s = true) (hgv : (Jvm.Cond.and given_1 narrow_1).before args s = true) (hX : va_X b L xs s s.heap) (hbl : b < s.heap.size) : ∃ g : GG, Kn g s s.heap ∧ gb g = b ∧ gL g = L ∧ gB g = s.heap.size := by
  have hf : ∀ w ∈ fl1, w.before args s = true := flat_of_before _ hgv
  have hg : ∀ w ∈ gtbl, w.before args s = true := fun w hw => hts w (List.mem_filter.mp hw).1
  have hA : ∀ a : Nat, a < s.heap.size → ¬ (fun q : Nat => s.heap.size ≤ q) a := fun a ha h9 => absurd ha (Nat.not_lt.mpr h9)
  obtain ⟨dC, dI, hC⟩ := cls_all hg hts
  obtain ⟨cI, hI⟩ := arr_I (hts _ (by decide +kernel : Cond.arrayClass .int ∈ lw_tbl))
  obtain ⟨cJ, hJ⟩ := arr_J (hts _ (by decide +kernel : Cond.arrayClass .long ∈ lw_tbl))
  obtain ⟨adK, adV, hS, hE⟩ := str_all hf hA
  obtain ⟨tW, hW1, hW2⟩ := va_Tof (args := args) (s := s) (tm := tmW) (ty := .object "java/lang/String") (N := 25) (f := fun j => .ref (adK (wS j))) (by decide) (hf _ fl_wa) (va_eqt (hf _ fl_wl)) (fun j hj => va_eqv (hf _ (fl_we j hj)) (hE (wS j) (show 16 + j < 41 by omega))) hA
  refine ⟨(s.heap.size, (dC, dI), cI, cJ, adK, adV, tW, b, L, xs), ⟨⟨hC, fun k q hk => ?_⟩, hS, fun i q hi => ?_, ?_, hW2, ?_, ?_, ?_, ?_, hX, hbl, hA b hbl, fun w hw => va_Nw.of (nest_tabs hw) (hts w (List.mem_filter.mp hw).1), fun q hq => va_Nc.of (hf _ (fl_nc q hq))⟩, rfl, rfl, rfl⟩
  · match k, hk with
    | 0, hk => cases hk; exact hI
    | 1, hk => cases hk; exact hJ
    | k + 2, hk => simp at hk
  · have hi2 : i < 41 := (List.getElem?_eq_some_iff.mp hi).1
    have e : stI i = q := by unfold stI; rw [List.getD_eq_getElem?_getD, hi]; rfl
    have h1 := hE i hi2
    unfold tmS at h1
    rw [e] at h1
    exact vk_R.of (hts _ (fl_st q (List.mem_of_getElem? hi))) h1
  · exact va_Zof (hts _ (by decide +kernel)) (hts _ (by decide +kernel)) hW1 hA
  · exact vx_Zqof (hts _ (by decide +kernel)) (hts _ (by decide +kernel)) (hf _ (by decide +kernel)) hA
  · exact vx_Zqof (hts _ (by decide +kernel)) (hts _ (by decide +kernel)) (hf _ (by decide +kernel)) hA
  · exact va_Zof (hts _ (by decide +kernel)) (hts _ (by decide +kernel)) (va_eqi (hf _ (by decide +kernel))) hA
  · exact va_Zqof (hts _ (by decide +kernel)) (hts _ (by decide +kernel)) (hf _ (by decide +kernel)) hA
end BG
