variable {sc : SC}
theorem minF_cong {v v' : Nat → Int32} {n : Nat} (h : ∀ i, i < n → v i = v' i) : ∀ (fu i : Nat) (x : Int32), i + fu ≤ n → tMinF v fu i x = tMinF v' fu i x := by
  intro fu
  induction fu with
  | zero => intro i x _; rfl
  | succ fu ih =>
    intro i x hi
    show tMinF v fu (i + 1) (zmin x (v i)) = tMinF v' fu (i + 1) (zmin x (v' i))
    rw [h i (by omega), ih (i + 1) _ (by omega)]
theorem maxF_cong {v v' : Nat → Int32} {n : Nat} (h : ∀ i, i < n → v i = v' i) : ∀ (fu i : Nat) (x : Int32), i + fu ≤ n → tMaxF v fu i x = tMaxF v' fu i x := by
  intro fu
  induction fu with
  | zero => intro i x _; rfl
  | succ fu ih =>
    intro i x hi
    show tMaxF v fu (i + 1) (zmax x (v i)) = tMaxF v' fu (i + 1) (zmax x (v' i))
    rw [h i (by omega), ih (i + 1) _ (by omega)]
theorem bd_all {E : Nat → Int32} {A v : Int32} {f g : Nat} (hg : g < 10) (h : ∀ i, i < 10 → -1000000 ≤ (A * E i + v).toInt ∧ (A * E i + v).toInt ≤ 1000000) : ∀ i, f ≤ i → i ≤ g → bd (A * E i + v) := fun i _ b => h i (by omega)
