variable {sc : SC}
/-! ===== a value is read ===== -/
section VALR
variable {x : Nat → Int32} {t c p : Nat} {S M : ZS} {TU : TS}
theorem cur_at {t p : Nat} {M N : ZS} (h : Cur (M.2 6) t p M) (e23 : N.1 23 = M.1 23) (e24 : N.1 24 = M.1 24) (e25 : N.1 25 = M.1 25) (e26 : N.1 26 = M.1 26) (e6 : N.2 6 = M.2 6) : Cur (N.2 6) t p N := by
  obtain ⟨a, b, d⟩ := h
  rw [e6]
  exact ⟨e24.trans a, fun z => ⟨e23.trans (b z).1, e25.trans (b z).2⟩, fun z => ⟨e23.trans (d z).1, e25.trans (d z).2.1, e26.trans (d z).2.2⟩⟩
/-- the next token, from one that isn't the last -/
theorem cur_step {t c p : Nat} {S M : ZS} (hT : mTk t M) (h : Sd (M.2 6) t c p S) (hC : Cur (M.2 6) t p M) (hp : p < c) : Cur (M.2 6) t (p + 1) (g_m_next t M) := by
  have ho := (h.1 p hp).1
  exact cur_next hT (hC.2.2 ho).2.1 (tkP_le ho).1
/-- a number where one is wanted -/
theorem plain_sim (h : Sd x t c p S) (hC : Cur x t p M) (h7 : S.1 7 = 0) (h11 : M.1 11 = 0) :
    (M.1 23 = 3 ∧ p < c ∧ g_c_4_numberAt (c + 1) p S = M.1 26 ∧ g_c_2_expect (c + 1) 2 S TU = sI 5 (nI (p + 1)) S ∧ g_m_is 3 M = (true, M)) ∨ (¬ M.1 23 = 3 ∧ (g_m_is 3 M).1 = false ∧ Fl c (g_c_2_expect (c + 1) 2 S TU) (g_m_is 3 M).2) := by
  have hat := at_is h hC
  rw [g_m_is]
  by_cases k : M.1 23 = 3
  · left
    have hp : p < c := at_lt h hC (by rw [k]; decide)
    have hn : g_c_4_numberAt (c + 1) p S = M.1 26 := by rw [h.num, if_pos hp]; exact (hC.2.2 (h.1 p hp).1).2.2.symm
    rw [if_pos k]
    exact ⟨k, hp, hn, by rw [g_c_2_expect, if_pos h7, h.sp, if_pos (hat.1.mpr k)], rfl⟩
  · right
    have hx : g_c_2_expect (c + 1) 2 S TU = g_c_2_fail 1 S TU := by rw [g_c_2_expect, if_pos h7, h.sp, if_neg (fun z => k (hat.1.mp z))]
    rw [if_neg k, hx]
    exact ⟨k, rfl, fl_of (TU := TU) h hC h7 h11 (by decide)⟩
end VALR
