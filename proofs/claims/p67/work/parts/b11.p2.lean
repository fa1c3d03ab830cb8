variable {sc : SC}
section QF
variable {n f a b : Nat} {v p : Int32} {q : Int64} {T : TS} {S X R M : ZS}
theorem tLeaf_eq (h : Rel n T (M.2 0)) (hf : f < n) : tLeaf T (nI f) = lf n f := by
  have h40 := h.1.1.2
  have hL := h.2.2.1
  have key : ∀ (d k fu : Nat), 1 ≤ k → k < 128 → 128 ≤ k * 2 ^ d → d ≤ fu → (gp n k).1 ≤ f → f < (gp n k).2 → tLeafF T (nI f) fu k = lf n f := by
    intro d
    induction d with
    | zero => intro k fu h1 h2 h3; rw [Nat.pow_zero] at h3; omega
    | succ d ih =>
      intro k fu h1 h2 h3 hfu ha hb
      have h4b : k * 2 ^ (d + 1) = (2 * k) * 2 ^ d := by rw [Nat.pow_succ, Nat.mul_comm (2 ^ d) 2, ← Nat.mul_assoc, Nat.mul_comm k 2]
      have h5b : (2 * k) * 2 ^ d ≤ (2 * k + 1) * 2 ^ d := Nat.mul_le_mul_right _ (by omega)
      obtain ⟨fu', rfl⟩ : ∃ m, fu = m + 1 := ⟨fu - 1, by omega⟩
      rw [tLeafF]
      by_cases c : (gp n k).1 + 2 ≤ (gp n k).2
      · obtain ⟨m, g1, g2, g3, g4, g5⟩ := gpc h40 h1 h2 c
        have h9 := gp_40 n k h40
        have l2 := ((hL (2 * k) (by omega) (by omega)).1 (by rw [g3]; exact g1)).2
        rw [g3] at l2
        simp only at l2
        rw [if_pos ⟨g5, (lay_in hL h40 h1 h2).mpr c⟩, l2]
        by_cases q : f < m
        · rw [if_pos ((nI_leI (by omega) (by omega)).mpr (by omega))]
          exact ih (2 * k) fu' (by omega) (by omega) (by omega) (by omega) (by rw [g3]; exact ha) (by rw [g3]; exact q)
        · rw [if_neg (fun z => by have := (nI_leI (a := f) (b := m - 1) (by omega) (by omega)).mp z; omega)]
          exact ih (2 * k + 1) fu' (by omega) (by omega) (by omega) (by omega) (by rw [g4]; simp only; omega) (by rw [g4]; exact hb)
      · rw [if_neg (fun z => c ((lay_in hL h40 h1 h2).mp z.2)), ← lf_un h40 h2 (show (gp n k).2 = (gp n k).1 + 1 by omega), show (gp n k).1 = f by omega]
  exact key 7 1 128 (by decide) (by decide) (by decide) (by decide) (by rw [gp_1]; exact Nat.zero_le _) (by rw [gp_1]; exact hf)
end QF
