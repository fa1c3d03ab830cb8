variable {sc : SC}
section QE
variable {n a b : Nat} {v : Int32} {T : TS} {S X R M : ZS}
theorem el_bd (h : Rel n T (M.2 0)) {i : Nat} (hi : i < n) : bd (tva T i) := by
  rw [h.2.2.2.2.2 i hi]
  exact (h.2.2.2.1 1 (by decide) (by decide) (by rw [gp_1]; exact h.1.1.1)).2.2.1 i (by rw [gp_1]; exact Nat.zero_le _) (by rw [gp_1]; exact hi)
end QE
