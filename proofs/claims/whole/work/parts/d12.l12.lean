variable {sc : SC}
section VALS
variable {t c p : Nat} {S M : ZS} {TU : TS}
theorem val_sim {j : Nat} (hT : mTk t M) (h : Sd (M.2 6) t c p S) (hC : Cur (M.2 6) t p M) (h7 : S.1 7 = 0) (h11 : M.1 11 = 0) :
    (∃ p' v N, p ≤ p' ∧ p' < c ∧ g_m_signed t j M = (true, sA 12 j v N) ∧ g_c_2_readValue (c + 1) true S TU = (v, sI 5 (nI (p' + 1)) S) ∧ (N = M ∨ N = g_m_next t M) ∧ Cur (M.2 6) t p' N) ∨ ((g_m_signed t j M).1 = false ∧ Fl c (g_c_2_readValue (c + 1) true S TU).2 (g_m_signed t j M).2) := by
  have hat := at_is h hC
  rw [g_m_signed, g_c_2_readValue, if_pos h7, h.sp]
  by_cases k : M.1 23 = 4
  · have hp : p < c := at_lt h hC (by rw [k]; decide)
    rw [if_pos k, if_pos ((c_isAt h).mpr (hat.2.2.1.mpr k)), if_pos rfl]
    have hC2 := cur_step hT h hC hp
    have h6 : (g_m_next t M).2 = M.2 := next_2 hT
    have h2 := h.next hp
    rcases plain_sim (TU := TU) (M := g_m_next t M) h2 hC2 ((sI_o (by decide)).trans h7) ((next_err hT).1.trans h11) with ⟨a1, a2, a3, a4, a5⟩ | ⟨a1, a2, a3⟩
    · left
      rw [a5, a3, a4, if_pos rfl, sI_sI]
      exact ⟨p + 1, _, g_m_next t M, by omega, a2, rfl, rfl, Or.inr rfl, hC2⟩
    · right
      rw [a2, if_neg (by decide)]
      exact ⟨rfl, a3⟩
  · rw [if_neg k, if_neg (fun z => k (hat.2.2.1.mp ((c_isAt h).mp z))), if_pos rfl]
    rcases plain_sim (TU := TU) h hC h7 h11 with ⟨a1, a2, a3, a4, a5⟩ | ⟨a1, a2, a3⟩
    · left
      rw [a5, a3, a4, if_pos rfl]
      exact ⟨p, _, M, Nat.le_refl _, a2, rfl, rfl, Or.inl rfl, hC⟩
    · right
      rw [a2, if_neg (by decide)]
      exact ⟨rfl, a3⟩
end VALS
