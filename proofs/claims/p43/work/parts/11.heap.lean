section HH
variable {g : GG} {M : MT} {d x y : Nat} {pc : Nat} {ls : List (Nat × Value)} {st : List Value} {ws : va_W} {Q : Rs → va_W → Prop}
/-- a place of the pool that names a field: k of the class ci, of type ty -/
def FL (own : String) (idx ci k : Nat) (ty : FieldType) (fin : Bool) : Prop := ∃ (C : String) (T : u_T) (N : Nat) (ty0 : Nat → FieldType), vwCl[ci]? = some (C, T, N) ∧ k < N ∧ (∀ w ∈ u_ws C T N, w ∈ gtbl) ∧
  (∀ j, j < N → parseFieldDescriptor (T j).2.2.1 = some (ty0 j)) ∧ (∀ a, a < N → ∀ b, b < N → a ≠ b → (T a).2.1 ≠ (T b).2.1) ∧ ty0 k = ty ∧ (T k).2.2.2 = fin ∧
  (Cond.fieldLink own idx (T k).1 (T k).2.1 (T k).2.2.1 ∈ gtbl ∨ ∃ host, Cond.fieldLinkNest own idx (T k).1 (T k).2.1 (T k).2.2.1 host ∈ gnest)
theorem r_getf {idx ci k : Nat} {ty : FieldType} {fin : Bool} {a : Nat} {fs : List Value} {v : Value} (q : Nat) (hd : decode (mC M) pc = .ok (.getfield idx, 3)) (hf : FL (mY M).cls idx ci k ty fin) (ho : ws[q]? = some (a, .inr (ci, fs))) (hv : fs[k]? = some v)
    (kk : R g M d x y (pc + 3) ls (v :: st) ws Q) : R g M d x y pc ls (.ref a :: st) ws Q := by
  intro p l e Rm s m args below meth c H locs cells slots la cx hr hs hl hc1 hc2
  obtain ⟨C, T, N, ty0, h1, h2, h3, -, -, -, -, h4⟩ := hf
  obtain ⟨k1, k2, k3, k4, -, -, -, -, -, -, -, -, kn, -⟩ := id cx
  rcases h4 with h4 | ⟨host, h4⟩
  · exact va_get (C := C) (T := T) (N := N) (D := gD g) (cl := vwCl) (tys := gT g) (ci := ci) k1 k2 k4 h3 k3 kn.1 hr.1 q ho h1 k h2 (k4 _ h4) (fun _ h => h) hv hd (kk p l e Rm s m args below meth c H locs cells slots la cx hr hs hl hc1 hc2)
  · exact va_getN (C := C) (T := T) (N := N) (D := gD g) (cl := vwCl) (tys := gT g) (ci := ci) k1 k2 k4 h3 k3 kn.1 hr.1 q ho h1 k h2 (va_Nw.use rfl (kn.2.2.2.2.2.2.2.2.2.2.2.2.1 _ h4)) (fun _ h => h) hv hd (kk p l e Rm s m args below meth c H locs cells slots la cx hr hs hl hc1 hc2)
theorem r_putf {idx ci k : Nat} {ty : FieldType} {a : Nat} {fs : List Value} {v : Value} {ws2 : va_W} (q : Nat) (hd : decode (mC M) pc = .ok (.putfield idx, 3)) (hf : FL (mY M).cls idx ci k ty false) (ho : ws[q]? = some (a, .inr (ci, fs))) (hl : k < fs.length) (hn : narrow ty v = v) (hfit : fits ty v = true)
    (hw : ws.set q (a, .inr (ci, fs.set k v)) = ws2) (kk : R g M d x y (pc + 3) ls st ws2 Q) : R g M d x y pc ls (v :: .ref a :: st) ws Q := by
  intro p l e Rm s m args below meth c H locs cells slots la cx hr hs hl1 hc1 hc2
  subst hw
  obtain ⟨C, T, N, ty0, h1, h2, h3, h5, h6, h7, h8, h4⟩ := hf
  obtain ⟨k1, k2, k3, k4, -, -, -, -, -, -, -, -, kn, -⟩ := id cx
  rcases h4 with h4 | ⟨host, h4⟩
  · exact va_put (C := C) (T := T) (N := N) (D := gD g) (cl := vwCl) (tys := gT g) (ci := ci) (ty := ty) k1 k2 k4 h3 ty0 h5 h6 k3 kn.1 hr.1 hr.2.1 hs q ho h1 k h2 (k4 _ h4) (fun _ h => h) h8 (by rw [h5 k h2, h7]) hn hfit hl hd
      (fun H1 locs1 p1 p2 p3 => kk p l e Rm s m args below meth c H1 locs1 cells slots la cx ⟨p1, p2, Nat.le_trans (cx.2.2.2.2.2.2.2.2.2.2.2.2.2) p3.1⟩ p3 hl1 hc1 hc2)
  · exact va_putN (C := C) (T := T) (N := N) (D := gD g) (cl := vwCl) (tys := gT g) (ci := ci) (ty := ty) k1 k2 k4 h3 ty0 h5 h6 k3 kn.1 hr.1 hr.2.1 hs q ho h1 k h2 (va_Nw.use rfl (kn.2.2.2.2.2.2.2.2.2.2.2.2.1 _ h4)) (fun _ h => h) h8 (by rw [h5 k h2, h7]) hn hfit hl hd
      (fun H1 locs1 p1 p2 p3 => kk p l e Rm s m args below meth c H1 locs1 cells slots la cx ⟨p1, p2, Nat.le_trans (cx.2.2.2.2.2.2.2.2.2.2.2.2.2) p3.1⟩ p3 hl1 hc1 hc2)
/-- a final field, in the constructor -/
def FF (own : String) (idx ci k : Nat) (ty : FieldType) : Prop := ∃ (C : String) (T : u_T) (N : Nat) (ty0 : Nat → FieldType), vwCl[ci]? = some (C, T, N) ∧ k < N ∧ (∀ w ∈ u_ws C T N, w ∈ gtbl) ∧
  (∀ j, j < N → parseFieldDescriptor (T j).2.2.1 = some (ty0 j)) ∧ (∀ a, a < N → ∀ b, b < N → a ≠ b → (T a).2.1 ≠ (T b).2.1) ∧ ty0 k = ty ∧ (T k).2.2.2 = true ∧ (T k).1 = own ∧ Cond.fieldLink own idx (T k).1 (T k).2.1 (T k).2.2.1 ∈ gtbl
theorem r_putF {idx ci k : Nat} {ty : FieldType} {a : Nat} {fs : List Value} {v : Value} {ws2 : va_W} (q : Nat) (hd : decode (mC M) pc = .ok (.putfield idx, 3)) (hi : (mY M).name = "<init>") (hf : FF (mY M).cls idx ci k ty) (ho : ws[q]? = some (a, .inr (ci, fs))) (hl : k < fs.length) (hn : narrow ty v = v) (hfit : fits ty v = true)
    (hw : ws.set q (a, .inr (ci, fs.set k v)) = ws2) (kk : R g M d x y (pc + 3) ls st ws2 Q) : R g M d x y pc ls (v :: .ref a :: st) ws Q := by
  intro p l e Rm s m args below meth c H locs cells slots la cx hr hs hl1 hc1 hc2
  subst hw
  obtain ⟨C, T, N, ty0, h1, h2, h3, h5, h6, h7, h8, h9, h4⟩ := hf
  obtain ⟨k1, k2, k3, k4, -, -, -, -, -, -, -, kname, kn, -⟩ := id cx
  exact va_putF (C := C) (T := T) (N := N) (D := gD g) (cl := vwCl) (tys := gT g) (ci := ci) (ty := ty) k1 k2 k4 h3 ty0 h5 h6 k3 kn.1 hr.1 hr.2.1 hs q ho h1 k h2 (k4 _ h4) (fun _ h => h) h8 (kname.trans hi) h9 (by rw [h5 k h2, h7]) hn hfit hl hd
      (fun H1 locs1 p1 p2 p3 => kk p l e Rm s m args below meth c H1 locs1 cells slots la cx ⟨p1, p2, Nat.le_trans (cx.2.2.2.2.2.2.2.2.2.2.2.2.2) p3.1⟩ p3 hl1 hc1 hc2)
/-- rows of whole numbers -/
abbrev iA (g : GG) (n : Nat) (f : Nat → Int32) : va_E := .inl (gI g, n, .inl f)
abbrev lA (g : GG) (n : Nat) (f : Nat → Int64) : va_E := .inl (gJ g, n, .inr (.inl f))
def ib (i : Int32) (n : Nat) : Bool := decide (0 ≤ i.toInt) && decide (i.toInt < n)
theorem ib_in {i : Int32} {n : Nat} (h : ib i n = true) : vp_in i n := by
  simp only [ib, Bool.and_eq_true, decide_eq_true_eq] at h
  exact vp_in_iff.mpr h
theorem r_iald {n : Nat} {f : Nat → Int32} {i : Int32} {a : Nat} (q : Nat) (hd : decode (mC M) pc = .ok (.iaload, 1)) (ho : ws[q]? = some (a, iA g n f)) (hi : ib i n = true)
    (kk : R g M d x y (pc + 1) ls (.int (f i.toNatClampNeg) :: st) ws Q) : R g M d x y pc ls (.int i :: .ref a :: st) ws Q := by
  intro p l e Rm s m args below meth c H locs cells slots la cx hr hs hl hc1 hc2
  exact va_iald (tys := gT g) cx.1 cx.2.1 cx.2.2.2.2.2.2.2.2.2.2.2.2.1.1 hr.1 q 0 ho rfl (ib_in hi) hd (kk p l e Rm s m args below meth c H locs cells slots la cx hr hs hl hc1 hc2)
theorem r_lald {n : Nat} {f : Nat → Int64} {i : Int32} {a : Nat} (q : Nat) (hd : decode (mC M) pc = .ok (.laload, 1)) (ho : ws[q]? = some (a, lA g n f)) (hi : ib i n = true)
    (kk : R g M d x y (pc + 1) ls (.long (f i.toNatClampNeg) :: st) ws Q) : R g M d x y pc ls (.int i :: .ref a :: st) ws Q := by
  intro p l e Rm s m args below meth c H locs cells slots la cx hr hs hl hc1 hc2
  exact va_lald (tys := gT g) cx.1 cx.2.1 cx.2.2.2.2.2.2.2.2.2.2.2.2.1.1 hr.1 q 1 ho rfl (ib_in hi) hd (kk p l e Rm s m args below meth c H locs cells slots la cx hr hs hl hc1 hc2)
theorem r_iast {n : Nat} {f : Nat → Int32} {i v : Int32} {a : Nat} {ws2 : va_W} (q : Nat) (hd : decode (mC M) pc = .ok (.iastore, 1)) (ho : ws[q]? = some (a, iA g n f)) (hi : ib i n = true) (hw : ws.set q (a, iA g n (upd f i.toNatClampNeg v)) = ws2)
    (kk : R g M d x y (pc + 1) ls st ws2 Q) : R g M d x y pc ls (.int v :: .int i :: .ref a :: st) ws Q := by
  intro p l e Rm s m args below meth c H locs cells slots la cx hr hs hl hc1 hc2
  subst hw
  exact va_iast (tys := gT g) cx.1 cx.2.1 cx.2.2.2.2.2.2.2.2.2.2.2.2.1.1 hr.1 hr.2.1 hs q 0 ho rfl (ib_in hi) hd (fun H1 locs1 p1 p2 p3 => kk p l e Rm s m args below meth c H1 locs1 cells slots la cx ⟨p1, p2, Nat.le_trans (cx.2.2.2.2.2.2.2.2.2.2.2.2.2) p3.1⟩ p3 hl hc1 hc2)
theorem r_last {n : Nat} {f : Nat → Int64} {i : Int32} {v : Int64} {a : Nat} {ws2 : va_W} (q : Nat) (hd : decode (mC M) pc = .ok (.lastore, 1)) (ho : ws[q]? = some (a, lA g n f)) (hi : ib i n = true) (hw : ws.set q (a, lA g n (vp_updL f i.toNatClampNeg v)) = ws2)
    (kk : R g M d x y (pc + 1) ls st ws2 Q) : R g M d x y pc ls (.long v :: .int i :: .ref a :: st) ws Q := by
  intro p l e Rm s m args below meth c H locs cells slots la cx hr hs hl hc1 hc2
  subst hw
  exact va_last (tys := gT g) cx.1 cx.2.1 cx.2.2.2.2.2.2.2.2.2.2.2.2.1.1 hr.1 hr.2.1 hs q 1 ho rfl (ib_in hi) hd (fun H1 locs1 p1 p2 p3 => kk p l e Rm s m args below meth c H1 locs1 cells slots la cx ⟨p1, p2, Nat.le_trans (cx.2.2.2.2.2.2.2.2.2.2.2.2.2) p3.1⟩ p3 hl hc1 hc2)
theorem r_alenI {n : Nat} {f : Nat → Int32} {a : Nat} {v : Int32} (q : Nat) (hd : decode (mC M) pc = .ok (.arraylength, 1)) (ho : ws[q]? = some (a, iA g n f)) (hv : Int32.ofNat n = v)
    (kk : R g M d x y (pc + 1) ls (.int v :: st) ws Q) : R g M d x y pc ls (.ref a :: st) ws Q := by
  intro p l e Rm s m args below meth c H locs cells slots la cx hr hs hl hc1 hc2
  exact va_alen (tys := gT g) (ty := .int) cx.1 cx.2.1 cx.2.2.2.2.2.2.2.2.2.2.2.2.1.1 hr.1 q 0 ho rfl hv hd (kk p l e Rm s m args below meth c H locs cells slots la cx hr hs hl hc1 hc2)
theorem r_alenL {n : Nat} {f : Nat → Int64} {a : Nat} {v : Int32} (q : Nat) (hd : decode (mC M) pc = .ok (.arraylength, 1)) (ho : ws[q]? = some (a, lA g n f)) (hv : Int32.ofNat n = v)
    (kk : R g M d x y (pc + 1) ls (.int v :: st) ws Q) : R g M d x y pc ls (.ref a :: st) ws Q := by
  intro p l e Rm s m args below meth c H locs cells slots la cx hr hs hl hc1 hc2
  exact va_alen (tys := gT g) (ty := .long) cx.1 cx.2.1 cx.2.2.2.2.2.2.2.2.2.2.2.2.1.1 hr.1 q 1 ho rfl hv hd (kk p l e Rm s m args below meth c H locs cells slots la cx hr hs hl hc1 hc2)
/-- the script -/
theorem r_sld {i : Int32} (hd : decode (mC M) pc = .ok (.iaload, 1)) (hi : ib i (gL g) = true)
    (kk : R g M d x y (pc + 1) ls (.int (gx g i.toNatClampNeg) :: st) ws Q) : R g M d x y pc ls (.int i :: .ref (gb g) :: st) ws Q := by
  intro p l e Rm s m args below meth c H locs cells slots la cx hr hs hl hc1 hc2
  obtain ⟨-, -, -, -, -, -, -, -, -, kx, kb, ka, -⟩ := cx.2.2.2.2.2.2.2.2.2.2.2.2.1
  exact va_sld cx.1 cx.2.1 kx kb ka hs (ib_in hi) hd (kk p l e Rm s m args below meth c H locs cells slots la cx hr hs hl hc1 hc2)
theorem r_slen (hd : decode (mC M) pc = .ok (.arraylength, 1)) 
    (kk : R g M d x y (pc + 1) ls (.int (Int32.ofNat (gL g)) :: st) ws Q) : R g M d x y pc ls (.ref (gb g) :: st) ws Q := by
  intro p l e Rm s m args below meth c H locs cells slots la cx hr hs hl hc1 hc2
  obtain ⟨-, -, -, -, -, -, -, -, -, kx, kb, ka, -⟩ := cx.2.2.2.2.2.2.2.2.2.2.2.2.1
  exact va_slen cx.1 cx.2.1 kx kb ka hs hd (kk p l e Rm s m args below meth c H locs cells slots la cx hr hs hl hc1 hc2)
/-- a new object stands ahead of the others -/
def NL (own : String) (idx ci N : Nat) (fs : List Value) : Prop := ∃ (C : String) (T : u_T) (ty0 : Nat → FieldType), vwCl[ci]? = some (C, T, N) ∧ (∀ w ∈ u_ws C T N, w ∈ gtbl) ∧ (∀ j, j < N → parseFieldDescriptor (T j).2.2.1 = some (ty0 j)) ∧ Cond.classLink own idx C ∈ gtbl ∧ Cond.instantiable C N ∈ gtbl ∧ Cond.initialized C ∈ gtbl ∧ ∀ j, j < N → defaultValue (ty0 j) = vp_V fs j
theorem r_new {idx ci N : Nat} {fs : List Value} (hd : decode (mC M) pc = .ok (.new idx, 3)) (hn : NL (mY M).cls idx ci N fs) (kk : ∀ q : Nat, R g M d x y (pc + 3) ls (.ref q :: st) ((q, .inr (ci, fs)) :: ws) Q) : R g M d (x + 1) (y + N) pc ls st ws Q := by
  intro p l e Rm s m args below meth c H locs cells slots la cx hr hs hl hc1 hc2
  obtain ⟨C, T, ty0, h1, h2, h3, h4, h5, h6, h7⟩ := hn
  obtain ⟨k1, k2, k3, k4, -, -, -, -, -, -, -, -, kn, kb⟩ := id cx
  exact va_new (C := C) (T := T) (N := N) (D := gD g) (cl := vwCl) (tys := gT g) (ci := ci) (fs := fs) k1 k2 k4 h2 ty0 h3 k3 (k4 _ h4) (k4 _ h5) (k4 _ h6) kn.1 hr.1 hr.2.1 hs (fun q hq => Nat.le_trans kb hq) h1 h7 (by omega) (by omega) hd
    (fun q H1 p1 p2 p3 => kk q p l e Rm s m args below meth c H1 locs (cells + 1) (slots + N) la cx (HR.perm ⟨p1, p2, Nat.le_trans kb p3.1⟩ (List.perm_append_singleton _ _).symm) p3 hl (by omega) (by omega))
theorem r_newI {n : Int32} {N : Nat} (hd : decode (mC M) pc = .ok (.newarray .int, 2)) (hw : Cond.arrayClass .int ∈ gtbl) (hn : ¬ n < 0) (hN : n.toNatClampNeg = N) (hb : N ≤ 100000) (kk : ∀ q : Nat, R g M d x y (pc + 2) ls (.ref q :: st) ((q, iA g N (fun _ => 0)) :: ws) Q) : R g M d (x + 1) (y + N) pc ls (.int n :: st) ws Q := by
  intro p l e Rm s m args below meth c H locs cells slots la cx hr hs hl hc1 hc2
  obtain ⟨k1, k2, k3, k4, -, -, -, -, -, -, -, -, kn, kb⟩ := id cx
  refine va_newa (D := gD g) (cl := vwCl) (tys := gT g) (atype := .int) (a0 := (N, .inl (fun _ => 0))) k1 k2 (k4 _ hw) rfl kn.1 hr.1 hr.2.1 hs (fun q hq => Nat.le_trans kb hq) (fun cA => rfl) hn hN (by show N * 4 ≤ 536870912; omega) (by omega) (by omega) hd
    (fun q cA H1 p0 p1 p2 p3 => ?_)
  have e : cA = gI g := by
    have e1 := (p0.2 8 (cA, .int) rfl).2
    have e2 := (p0.2 0 (gI g, .int) rfl).2
    exact Option.some.inj (Eq.trans (Eq.symm e1) e2)
  subst e
  exact kk q p l e Rm s m args below meth c H1 locs (cells + 1) (slots + N) la cx (HR.perm ⟨p1, p2, Nat.le_trans kb p3.1⟩ (List.perm_append_singleton _ _).symm) p3 hl (by omega) (by omega)
theorem r_newJ {n : Int32} {N : Nat} (hd : decode (mC M) pc = .ok (.newarray .long, 2)) (hw : Cond.arrayClass .long ∈ gtbl) (hn : ¬ n < 0) (hN : n.toNatClampNeg = N) (hb : N ≤ 100000) (kk : ∀ q : Nat, R g M d x y (pc + 2) ls (.ref q :: st) ((q, lA g N (fun _ => 0)) :: ws) Q) : R g M d (x + 1) (y + N) pc ls (.int n :: st) ws Q := by
  intro p l e Rm s m args below meth c H locs cells slots la cx hr hs hl hc1 hc2
  obtain ⟨k1, k2, k3, k4, -, -, -, -, -, -, -, -, kn, kb⟩ := id cx
  refine va_newa (D := gD g) (cl := vwCl) (tys := gT g) (atype := .long) (a0 := (N, .inr (.inl (fun _ => 0)))) k1 k2 (k4 _ hw) rfl kn.1 hr.1 hr.2.1 hs (fun q hq => Nat.le_trans kb hq) (fun cA => rfl) hn hN (by show N * 8 ≤ 536870912; omega) (by omega) (by omega) hd
    (fun q cA H1 p0 p1 p2 p3 => ?_)
  have e : cA = gJ g := by
    have e1 := (p0.2 8 (cA, .long) rfl).2
    have e2 := (p0.2 1 (gJ g, .long) rfl).2
    exact Option.some.inj (Eq.trans (Eq.symm e1) e2)
  subst e
  exact kk q p l e Rm s m args below meth c H1 locs (cells + 1) (slots + N) la cx (HR.perm ⟨p1, p2, Nat.le_trans kb p3.1⟩ (List.perm_append_singleton _ _).symm) p3 hl (by omega) (by omega)
end HH
