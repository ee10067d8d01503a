section MM
variable {g : GG} {M : MT} {d x y : Nat} {pc idx : Nat} {ls : List (Nat × Value)} {rest : List Value} {ws : va_W} {Q : Rs → va_W → Prop} {a b : Int32}
theorem c_mmax (hd : decode (mC M) pc = .ok (.invokestatic idx, 3)) (hl : KS (mY M).cls idx mJ9_max_7cf53 2) (hr8 : (rest.map fun v => v.category).sum ≤ 8) (hdd : 1 ≤ d) (kk : R g M d x y (pc + 3) ls (.int (f_J9_max_7cf53 a b) :: rest) ws Q) : R g M d x y pc ls (.int b :: .int a :: rest) ws Q := by
  intro p l e Rm s m args below meth c H locs cells slots la cx hr hs hl1 hc1 hc2
  obtain ⟨k1, k2, k3, k4, k5, k6, k7, k8, k9, k10, k11, -⟩ := id cx
  exact va_mmax k1 k2 (k6.trans hl1.1.symm) k3 (k4 _ hl.1.1) (k4 _ hl.2.2) (k4 _ hl.1.2.1) (k4 _ hl.1.2.2.1) (by omega) (by omega) (by omega) (by omega) hd (kk p l e Rm s m args below meth c H locs cells slots la cx hr hs hl1 hc1 hc2)
theorem c_mmin (hd : decode (mC M) pc = .ok (.invokestatic idx, 3)) (hl : KS (mY M).cls idx mJ9_min_7cf53 2) (hr8 : (rest.map fun v => v.category).sum ≤ 8) (hdd : 1 ≤ d) (kk : R g M d x y (pc + 3) ls (.int (f_J9_min_7cf53 a b) :: rest) ws Q) : R g M d x y pc ls (.int b :: .int a :: rest) ws Q := by
  intro p l e Rm s m args below meth c H locs cells slots la cx hr hs hl1 hc1 hc2
  obtain ⟨k1, k2, k3, k4, k5, k6, k7, k8, k9, k10, k11, -⟩ := id cx
  exact va_mmin k1 k2 (k6.trans hl1.1.symm) k3 (k4 _ hl.1.1) (k4 _ hl.2.2) (k4 _ hl.1.2.1) (k4 _ hl.1.2.2.1) (by omega) (by omega) (by omega) (by omega) hd (kk p l e Rm s m args below meth c H locs cells slots la cx hr hs hl1 hc1 hc2)
end MM
