/-! the law from its start -/
set_option maxRecDepth 20000 in
theorem kwO_n : kwO.1 = 25 := by decide +kernel
set_option maxRecDepth 20000 in
theorem kwO_k : ∀ k, k < 25 → kwO.2 k = hsh (kwT k) := by decide +kernel
theorem cf_init {g : GG} {a : Nat} {t : va_W} : Ct g mX9_init 8 76 6678 [.ref a] ((a, .inr (9, [.null, .null, .null, .null, .null, .null, .int 0, .int 0])) :: t) (Dq (fun (z : (Nat → Nat) × va_W) => none) (fun z => z.2 ++ t) (fun z => z.1 0 = a ∧ CF g z.1 z.2 0 (fun _ => 0))) :=
  (ct_Main_init (g := g) (a := a) (t := t)).mono (fun r w2 h => by
    obtain ⟨h1, b, h2, h3⟩ := h
    rw [kwO_n] at h3
    exact ⟨(b, _), h1, h3, h2, CF.mk kwO_k⟩)
