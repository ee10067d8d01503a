theorem rq {B a b c : Nat} (h : a + b = c) : B + a + b ≤ B + c := by
  rw [Nat.add_assoc, h]
  exact Nat.le_refl _
abbrev kT (j : Nat) : List Int32 := bytS.getD j []
/-- a text: one of the class's own, or a made one -/
abbrev SZ : Type := Nat ⊕ (Nat × Nat × (Nat → Int32))
def sv (g : GG) : SZ → Value
  | .inl i => .ref (gK g i)
  | .inr z => .ref z.1
def sw (g : GG) (n : Nat) : SZ → va_W
  | .inl _ => []
  | .inr z => [(z.1, .inr (12, [.ref z.2.1, .int (0 : Int32), .int (0 : Int32), .int (0 : Int32)])), (z.2.1, yA g n z.2.2)]
def sP (L : List Int32) : SZ → Prop
  | .inl i => i < 61 ∧ kT i = L
  | .inr z => LB z.2.2 L
abbrev sbC (a v : Nat) (L : List Int32) : Nat × va_E := (a, .inr (13, [.ref v, .int (0 : Int32), .int (0 : Int32), .int (nI L.length)]))
def BL (L : List Int32) (m : Nat) (f : Nat → Int32) : Prop := LB f L ∧ L.length ≤ m ∧ m ≤ 4000
theorem BL.nil : BL [] 16 (fun _ => 0) := ⟨⟨sb_fit0, fun j hj => absurd hj (Nat.not_lt_zero j)⟩, by decide, by decide⟩
theorem lnA {L L2 : List Int32} {n n2 : Nat} (h : L.length ≤ n) (h2 : L2.length ≤ n2) : (L ++ L2).length ≤ n + n2 := by
  rw [List.length_append]
  omega
theorem cj_apK {g : GG} {t : va_W} {i a v m : Nat} {f : Nat → Int32} {L L9 : List Int32} (hi : i < 61) (e9 : L9 = L ++ kT i) (hB : BL L m f) (hq : L9.length ≤ 2000) : Ct g mJ4_append_15ec4 6 1 4002 [.ref a, .ref (gK g i)] (sbC a v L :: (v, yA g m f) :: t)
    (Dq (fun (z : Nat × Nat × (Nat → Int32)) => some (.ref a)) (fun z => sbC a z.1 L9 :: (z.1, yA g z.2.1 z.2.2) :: t) (fun z => BL L9 z.2.1 z.2.2)) := by
  subst e9
  have e : L.length + lenS.getD i 0 = (L ++ kT i).length := by rw [List.length_append, len_ok i hi]
  have h := cj_appendK (g := g) (t := t) (a := a) (v := v) hi hB.1 hB.2.1 hB.2.2 (by rw [e]; exact hq)
  rw [e] at h
  exact h
theorem cj_apI {g : GG} {t : va_W} {a v m x9 : Nat} {f : Nat → Int32} {L L9 : List Int32} (hx : x9 < 1000000) (e9 : L9 = L ++ dgL x9) (hB : BL L m f) (hq : L9.length ≤ 2000) : Ct g mJ4_append_bf812 6 1 4002 [.ref a, .int (nI x9)] (sbC a v L :: (v, yA g m f) :: t)
    (Dq (fun (z : Nat × Nat × (Nat → Int32)) => some (.ref a)) (fun z => sbC a z.1 L9 :: (z.1, yA g z.2.1 z.2.2) :: t) (fun z => BL L9 z.2.1 z.2.2)) := by
  subst e9
  have e : L.length + (dgL x9).length = (L ++ dgL x9).length := by rw [List.length_append]
  have h := cj_appendI (g := g) (t := t) (a := a) (v := v) hB.1 hB.2.1 hB.2.2 hx (by rw [e]; exact hq)
  rw [e] at h
  exact h
theorem cj_apX {g : GG} {t : va_W} {a v m : Nat} {f : Nat → Int32} {L L2 L9 : List Int32} {z : SZ} (hz : sP L2 z) (e9 : L9 = L ++ L2) (hB : BL L m f) (hq : L9.length ≤ 2000) : Ct g mJ4_append_15ec4 6 1 4002 [.ref a, sv g z] (sbC a v L :: (v, yA g m f) :: (sw g L2.length z ++ t))
    (Dq (fun (z : Nat × Nat × (Nat → Int32)) => some (.ref a)) (fun u => sbC a u.1 L9 :: (u.1, yA g u.2.1 u.2.2) :: (sw g L2.length z ++ t)) (fun z => BL L9 z.2.1 z.2.2)) := by
  subst e9
  cases z with
  | inl i =>
    obtain ⟨hi, rfl⟩ := hz
    exact cj_apK hi rfl hB hq
  | inr z =>
    obtain ⟨s, b, fb⟩ := z
    have e : L.length + L2.length = (L ++ L2).length := by rw [List.length_append]
    have h := cj_appendS (g := g) (t := t) (a := a) (v := v) (s := s) (b := b) (L2 := L2) (n := L2.length) hB.1 hB.2.1 hB.2.2 (by rw [e]; exact hq) hz rfl
    rw [e] at h
    exact h
theorem cj_strB {g : GG} {t : va_W} {a v m : Nat} {f : Nat → Int32} {L : List Int32} (hB : BL L m f) : Ct g mJ4_toString_0e30d 7 2 4006 [.ref a] (sbC a v L :: (v, yA g m f) :: t)
    (Dq (fun (z : Nat × Nat × (Nat → Int32)) => some (.ref z.1)) (fun z => (z.1, .inr (12, [.ref z.2.1, .int (0 : Int32), .int (0 : Int32), .int (0 : Int32)])) :: (z.2.1, yA g L.length z.2.2) :: sbC a v L :: (v, yA g m f) :: t) (fun z => LB z.2.2 L)) := cj_toStr hB.1 hB.2.1 hB.2.2
theorem dgL_6 {v : Nat} (h : v < 1000000) : (dgL v).length ≤ 6 := by
  have h1 : ∀ i, i ≤ 6 → 0 < i → v < 10 ^ i → (dgL v).length ≤ i := by
    intro i
    induction i with
    | zero => intro _ h0; exact absurd h0 (by decide)
    | succ i ih =>
      intro hi _ hv
      by_cases h2 : v < 10
      · rw [dgL_1 h2]
        show 1 ≤ i + 1
        omega
      · by_cases h3 : v < 10 ^ i
        · by_cases h0 : 0 < i
          · have := ih (by omega) h0 h3
            omega
          · rw [show i = 0 by omega] at h3
            have : v < 1 := h3
            omega
        · rw [dgL_len (i + 1) v hv (Nat.le_trans (Nat.pow_le_pow_right (by decide) hi : 10 ^ (i + 1) ≤ 10 ^ 6) (by decide)) (by omega) (Or.inr (by show 10 ^ i ≤ v; omega))]
          exact Nat.le_refl _
  exact h1 6 (by decide) (by decide) h
theorem dgL_t1 {v : Nat} (h : v < 10) : (dgL v).length ≤ 1 := by rw [dgL_1 h]; exact Nat.le_refl 1
theorem dgL_t2 {v : Nat} (h : v < 100) : (dgL v).length ≤ 2 := by
  by_cases h1 : v < 10
  · rw [dgL_1 h1]; exact (by decide : 1 ≤ 2)
  · rw [dgL_10 (by omega) h]; exact Nat.le_refl 2
theorem kl_13 : (kT 13).length = 7 := by decide +kernel
theorem kl_14 : (kT 14).length = 1 := by decide +kernel
theorem kl_15 : (kT 15).length = 8 := by decide +kernel
theorem kl_16 : (kT 16).length = 7 := by decide +kernel
theorem kl_17 : (kT 17).length = 2 := by decide +kernel
theorem kl_18 : (kT 18).length = 4 := by decide +kernel
theorem kl_19 : (kT 19).length = 4 := by decide +kernel
theorem kl_20 : (kT 20).length = 0 := by decide +kernel
theorem kl_21 : (kT 21).length = 9 := by decide +kernel
theorem kl_22 : (kT 22).length = 7 := by decide +kernel
theorem kl_23 : (kT 23).length = 1 := by decide +kernel
theorem kl_24 : (kT 24).length = 7 := by decide +kernel
theorem kl_25 : (kT 25).length = 9 := by decide +kernel
theorem kl_26 : (kT 26).length = 6 := by decide +kernel
theorem kl_27 : (kT 27).length = 8 := by decide +kernel
theorem kl_28 : (kT 28).length = 6 := by decide +kernel
theorem kl_29 : (kT 29).length = 10 := by decide +kernel
theorem kl_30 : (kT 30).length = 11 := by decide +kernel
theorem kl_31 : (kT 31).length = 11 := by decide +kernel
theorem kl_32 : (kT 32).length = 1 := by decide +kernel
theorem kl_33 : (kT 33).length = 1 := by decide +kernel
theorem kl_34 : (kT 34).length = 1 := by decide +kernel
theorem kl_35 : (kT 35).length = 1 := by decide +kernel
theorem kl_36 : (kT 36).length = 4 := by decide +kernel
theorem kl_37 : (kT 37).length = 4 := by decide +kernel
theorem kl_38 : (kT 38).length = 1 := by decide +kernel
theorem kl_39 : (kT 39).length = 1 := by decide +kernel
theorem kl_40 : (kT 40).length = 1 := by decide +kernel
theorem kl_41 : (kT 41).length = 2 := by decide +kernel
theorem kl_42 : (kT 42).length = 2 := by decide +kernel
theorem kl_43 : (kT 43).length = 12 := by decide +kernel
theorem kl_44 : (kT 44).length = 6 := by decide +kernel
theorem kl_45 : (kT 45).length = 9 := by decide +kernel
theorem kl_46 : (kT 46).length = 8 := by decide +kernel
theorem kl_47 : (kT 47).length = 1 := by decide +kernel
theorem kl_48 : (kT 48).length = 3 := by decide +kernel
theorem kl_49 : (kT 49).length = 1 := by decide +kernel
theorem kl_50 : (kT 50).length = 1 := by decide +kernel
theorem kl_51 : (kT 51).length = 1 := by decide +kernel
theorem kl_52 : (kT 52).length = 2 := by decide +kernel
theorem kl_53 : (kT 53).length = 4 := by decide +kernel
theorem kl_54 : (kT 54).length = 1 := by decide +kernel
theorem kl_55 : (kT 55).length = 1 := by decide +kernel
theorem kl_56 : (kT 56).length = 3 := by decide +kernel
theorem kl_57 : (kT 57).length = 2 := by decide +kernel
/-- a tree's text -/
def txt : ∀ k, TT k → List Int32
  | 0, T => nomatch T
  | k + 1, T =>
    let ta : List Int32 := match T.2.1 with | none => [] | some x => txt k x
    let tb : List Int32 := match T.2.2 with | none => [] | some x => txt k x
    match T.1.2.1 with
    | 0 => ((([] : List Int32) ++ kT 20) ++ dgL T.1.2.2.1)
    | 1 => kT 27
    | 2 => kT 28
    | 3 => kT 29
    | 4 => (((([] : List Int32) ++ kT 30) ++ dgL T.1.2.2.1) ++ kT 47)
    | 5 => (((([] : List Int32) ++ kT 31) ++ dgL T.1.2.2.1) ++ kT 47)
    | 6 => (((([] : List Int32) ++ kT 48) ++ ta) ++ kT 49)
    | 7 => (((((((([] : List Int32) ++ kT 50) ++ ta) ++ kT 49) ++ kT 32) ++ kT 50) ++ tb) ++ kT 49)
    | 8 => (((((((([] : List Int32) ++ kT 50) ++ ta) ++ kT 49) ++ kT 33) ++ kT 50) ++ tb) ++ kT 49)
    | 9 => (((((((([] : List Int32) ++ kT 50) ++ ta) ++ kT 49) ++ kT 34) ++ kT 50) ++ tb) ++ kT 49)
    | 10 => (((((((([] : List Int32) ++ kT 50) ++ ta) ++ kT 49) ++ kT 35) ++ kT 50) ++ tb) ++ kT 49)
    | 11 => (((((([] : List Int32) ++ kT 36) ++ ta) ++ kT 51) ++ tb) ++ kT 49)
    | 12 => (((((([] : List Int32) ++ kT 37) ++ ta) ++ kT 51) ++ tb) ++ kT 49)
    | 20 => (((([] : List Int32) ++ ta) ++ kT 38) ++ tb)
    | 21 => (((([] : List Int32) ++ ta) ++ kT 39) ++ tb)
    | 22 => (((([] : List Int32) ++ ta) ++ kT 40) ++ tb)
    | 23 => (((([] : List Int32) ++ ta) ++ kT 41) ++ tb)
    | 24 => (((([] : List Int32) ++ ta) ++ kT 42) ++ tb)
    | 25 => (((((([] : List Int32) ++ kT 43) ++ dgL T.1.2.2.1) ++ kT 52) ++ dgL T.1.2.2.2) ++ kT 47)
    | 26 => (((([] : List Int32) ++ kT 44) ++ dgL T.1.2.2.1) ++ kT 47)
    | 27 => (((([] : List Int32) ++ kT 45) ++ dgL T.1.2.2.1) ++ kT 47)
    | 28 => (((([] : List Int32) ++ kT 46) ++ dgL T.1.2.2.1) ++ kT 47)
    | 29 => (((([] : List Int32) ++ kT 53) ++ ta) ++ kT 54)
    | 30 => (((((((([] : List Int32) ++ kT 55) ++ ta) ++ kT 54) ++ kT 56) ++ kT 55) ++ tb) ++ kT 54)
    | _ => (((((((([] : List Int32) ++ kT 55) ++ ta) ++ kT 54) ++ kT 57) ++ kT 55) ++ tb) ++ kT 54)
