theorem SimR.mono {g : GG} {r r2 : va_W} {aC : Nat} {ca : List Nat} {cl : List (Nat → Int32)} (h : SimR g r aC ca cl) (hm : ∀ p ∈ r, p ∈ r2) : SimR g r2 aC ca cl := ⟨hm _ h.1, fun k hk => hm _ (h.2 k hk)⟩
theorem OM.mono {g : GG} {ne nt : Nat} {r r2 : va_W} {aO aT : Nat} {oa : List Nat} {os : List OT} (h : OM g ne nt r aO aT oa os) (hm : ∀ p ∈ r, p ∈ r2) : OM g ne nt r2 aO aT oa os :=
  ⟨h.1, h.2.1, hm _ h.2.2.1, hm _ h.2.2.2.1, fun k hk => ⟨hm _ (h.2.2.2.2 k hk).1, (h.2.2.2.2 k hk).2.1, fun T hT => ⟨TM.mono hm 4 T ((h.2.2.2.2 k hk).2.2 T hT).1, ((h.2.2.2.2 k hk).2.2 T hT).2⟩⟩⟩
theorem gd_del {ca : List Nat} {c k : Nat} : (ca.eraseIdx c).getD k 0 = if k < c then ca.getD k 0 else ca.getD (k + 1) 0 := by
  rw [List.getD_eq_getElem?_getD, List.getD_eq_getElem?_getD, List.getD_eq_getElem?_getD, List.getElem?_eraseIdx]
  split <;> rfl
theorem SimR.del {g : GG} {r r2 : va_W} {aC q c : Nat} {ca : List Nat} {cl : List (Nat → Int32)} (h : SimR g r aC ca cl) (hl : ca.length = cl.length) (hc : c < ca.length) (hq : (q, qA g 4 (ca.eraseIdx c).length (fun k => (ca.eraseIdx c)[k]?)) ∈ r2) (hm : ∀ p ∈ r, p ∈ r2) : SimR g r2 q (ca.eraseIdx c) (cl.eraseIdx c) := by
  refine ⟨hq, fun k hk => ?_⟩
  rw [List.length_eraseIdx_of_lt hc] at hk
  rw [gd_del, rw5_del]
  split
  · exact hm _ (h.2 k (by omega))
  · exact hm _ (h.2 (k + 1) (by omega))
theorem CVl_del {ne nt c : Nat} {ca : List Nat} {cl : List (Nat → Int32)} (h : CV ne nt ca cl) (hc : c < cl.length) : CV ne nt (ca.eraseIdx c) (cl.eraseIdx c) :=
  ⟨by rw [List.length_eraseIdx_of_lt hc, List.length_eraseIdx_of_lt (by have := h.1; omega), h.1], by have := List.length_eraseIdx_le cl c; have := h.2.1; omega, CV_del h.2.2 hc⟩
/-- the class and the Sim, alike -/
def PS (g : GG) (ad : Nat → Nat) (s : Nat) (W : va_W) (ne nt : Nat) (cl : List (Nat → Int32)) (os : List OT) (d : Nat) (ev cr : Int32) : Prop :=
  ∃ (aC aD aO aT : Nat) (ca oa : List Nat) (w r : va_W), W = simO s aC aD aO aT ne nt ev cr :: (aD, zA g 10 (dbF d)) :: (w ++ r) ∧ CI g ad w ne nt cl os d ev cr ∧ SimR g r aC ca cl ∧ OM g ne nt r aO aT oa os ∧ CV ne nt ca cl ∧ CD cl
theorem dbF_turn {d w : Nat} : upd (dbF d) w (bI (!d.testBit w)) = dbF (d ^^^ 2 ^ w) := by
  rw [dbF_set, if_neg (by cases d.testBit w <;> decide)]
theorem cr_sub (a b : Int32) : a - b = a - b := rfl
