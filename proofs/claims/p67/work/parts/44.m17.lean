variable {sc : SC}
theorem k3 {S : ZS} (h : S.1 23 = 3) : ¬ S.1 23 = 0 := by rw [h]; decide
theorem k1 {S : ZS} (h : S.1 23 = 1) : ¬ S.1 23 = 0 := by rw [h]; decide
