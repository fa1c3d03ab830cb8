variable {sc : SC}
/-! ===== a mistake on both sides ===== -/
def Fl (c : Nat) (S M : ZS) : Prop := ¬ S.1 7 = 0 ∧ S.1 7 = M.1 11 ∧ ∃ q, S.1 8 = nI q ∧ q ≤ c ∧ g_c_4_offsetAt (c + 1) q S = M.1 12
section FL
variable {x : Nat → Int32} {t c p : Nat} {S M : ZS} {TU : TS} {v : Int32}
theorem fl_of (h : Sd x t c p S) (hC : Cur x t p M) (h7 : S.1 7 = 0) (h11 : M.1 11 = 0) (hv : ¬ v = 0) : Fl c (g_c_2_fail v S TU) (g_m_fail v M).2 := by
  rw [g_c_2_fail, if_pos h7, g_m_fail, if_pos h11]
  refine ⟨?_, ?_, p, ?_, h.2.2.2.2.2.2, ?_⟩
  · rw [sI_o (by decide), sI_same]; exact hv
  · rw [sI_o (by decide), sI_same]; exact ((sI_o (by decide)).trans (sI_same _ _ _)).symm
  · rw [sI_same]; exact h.2.2.2.2.2.1
  · exact h.off.trans (hC.1.symm.trans (sI_same _ _ _).symm)
theorem c_fail_no (h : ¬ S.1 7 = 0) : g_c_2_fail v S TU = S := if_neg h
theorem c_expect_no {c2 : Nat} (h : ¬ S.1 7 = 0) : g_c_2_expect c2 v S TU = S := if_neg h
/-- on to the next token -/
theorem Sd.next (h : Sd x t c p S) (hp : p < c) : Sd x t c (p + 1) (sI 5 (nI (p + 1)) S) := by
  obtain ⟨a, b, d, e, f, g, k⟩ := h
  exact ⟨a, b, d, e, f, sI_same _ _ _, by omega⟩
theorem Sd.sI {j : Nat} (h : Sd x t c p S) (h4 : ¬ 4 = j) (h5 : ¬ 5 = j) : Sd x t c p (sI j v S) := by
  obtain ⟨a, b, d, e, f, g, k⟩ := h
  exact ⟨a, (sI_o h4).trans b, d, e, f, (sI_o h5).trans g, k⟩
end FL
