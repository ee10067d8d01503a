/-! the relation at the start -/
set_option maxRecDepth 20000 in
theorem kw_all : kwO.1 = 25 ∧ ∀ k, k < 25 → f_M_nameOf 100 (wS k) = some (kwO.2 k) := by decide +kernel
theorem rel_0 : Rel 0 (-1) (fun _ => 0) 0 0 0 (fun _ => 0) (fun _ => 0) (fun _ => 0) (fun _ => 0) (fun _ => 0) 0 (fun _ => 0) (fun _ => 0) (fun _ => 0) (fun _ => 0) (fun _ => 0) (-1) 0 0 (fun _ => 0) kwO.1 kwO.2 0 0 0 0 (-1) 0 0 0 (-1) 0 0 0 (fun _ => 0) (fun _ => 0) 0 0 0 0 (fun _ => 0) (fun _ => 0) (fun _ => 0) (fun _ => 0) (fun _ => 0) (fun _ => 0) (fun _ => 0) (fun _ => 0) (fun _ => 0) (fun _ => 0) (fun _ => 0) (fun _ => 0) := by
  have z : ∀ k, ¬ k < 0 := fun k => Nat.not_lt_zero k
  have hA : Ag (fun _ => 0) (fun _ => (0 : Int32)) := fun j _ => ⟨rfl, show (0 : Nat) < 1024 by decide⟩
  exact ⟨0, 0, 0, 0, 0, 0, fun _ => 0, ⟨rfl, rfl, Nat.zero_le _, fun j hj => absurd hj (z j)⟩, rfl, ⟨rfl, rfl⟩, ⟨rfl, rfl⟩, ⟨rfl, rfl⟩, ⟨rfl, rfl⟩, ⟨⟨Nat.zero_le _, fun j hj => absurd hj (z j)⟩, hA, hA, Nat.zero_le _, Nat.zero_le _, fun i j _ _ => (Nat.zero_testBit j).trans (Nat.zero_testBit i).symm⟩, ⟨Nat.zero_le _, fun _ => 0, fun k hk => absurd hk (z k)⟩, ⟨rfl, rfl, by decide⟩, rfl, rfl, Or.inl rfl, Or.inl rfl, kw_all⟩
