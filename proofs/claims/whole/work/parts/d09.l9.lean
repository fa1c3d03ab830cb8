variable {sc : SC}
/-! ===== a number is read ===== -/
section NUMR
variable {x : Nat → Int32} {t c p : Nat} {S M : ZS} {TU : TS} {a b : Int32}
theorem at_lt (h : Sd x t c p S) (hC : Cur x t p M) (hk : ¬ M.1 23 = 0) : p < c := by
  rcases Nat.lt_or_ge p c with q | q
  · exact q
  · have e : p = c := by have := h.2.2.2.2.2.2; omega
    exact absurd (hC.2.1 (by rw [e]; exact h.2.2.2.1)).1 hk
theorem c_isAt (h : Sd x t c p S) {v : Int32} : g_c_2_isAt (c + 1) v S TU = true ↔ g_c_4_codeAt (c + 1) p S = v := by
  rw [g_c_2_isAt, h.sp]
  by_cases q : g_c_4_codeAt (c + 1) p S = v
  · rw [if_pos q]; exact ⟨fun _ => q, fun _ => rfl⟩
  · rw [if_neg q]; exact ⟨fun z => (by cases z), fun z => absurd z q⟩
theorem num_sim {j : Nat} (h : Sd x t c p S) (hC : Cur x t p M) (h7 : S.1 7 = 0) (h11 : M.1 11 = 0) :
    ((g_m_number t j a b M).1 = true ∧ p < c ∧ (a ≤ M.1 26 ∧ M.1 26 ≤ b) ∧ g_c_2_readNumber (c + 1) a b S TU = (M.1 26, sI 5 (nI (p + 1)) S) ∧ (g_m_number t j a b M).2 = g_m_next t (sA 12 j (M.1 26) M)) ∨ ((g_m_number t j a b M).1 = false ∧ Fl c (g_c_2_readNumber (c + 1) a b S TU).2 (g_m_number t j a b M).2) := by
  have hat := at_is h hC
  rw [g_m_number, g_m_is, g_c_2_readNumber, h.sp]
  by_cases k : M.1 23 = 3
  · have hp : p < c := at_lt h hC (by rw [k]; decide)
    have hcd := hat.1.mpr k
    have ho := (h.1 p hp).1
    have hn : g_c_4_numberAt (c + 1) p S = M.1 26 := by rw [h.num, if_pos hp]; exact (hC.2.2 ho).2.2.symm
    have hx : g_c_2_expect (c + 1) 2 S TU = sI 5 (nI (p + 1)) S := by rw [g_c_2_expect, if_pos h7, h.sp, if_pos hcd]
    rw [if_pos k, if_pos ((c_isAt h).mpr hcd), hn, hx, m_in]
    by_cases q1 : M.1 26 < a
    · right
      have hq : ¬ (a ≤ M.1 26 ∧ M.1 26 ≤ b) := fun z => absurd z.1 (Int32.not_le.mpr q1)
      have f := fl_of (TU := TU) (v := 2) h hC h7 h11 (by decide)
      rw [if_pos q1, if_pos rfl, decide_eq_false hq, if_neg (by decide), c_expect_no f.1]
      exact ⟨rfl, f⟩
    · rw [if_neg q1, if_pos rfl]
      by_cases q2 : M.1 26 ≤ b
      · left
        rw [if_pos q2, decide_eq_true ⟨Int32.not_lt.mp q1, q2⟩, if_pos rfl]
        exact ⟨rfl, hp, ⟨Int32.not_lt.mp q1, q2⟩, rfl, rfl⟩
      · right
        have f := fl_of (TU := TU) (v := 2) h hC h7 h11 (by decide)
        rw [if_neg q2, decide_eq_false (fun z => q2 z.2), if_neg (by decide), c_expect_no f.1]
        exact ⟨rfl, f⟩
  · right
    have hcd : ¬ g_c_4_codeAt (c + 1) p S = 2 := fun z => k (hat.1.mp z)
    have hx : g_c_2_expect (c + 1) 2 S TU = g_c_2_fail 1 S TU := by rw [g_c_2_expect, if_pos h7, h.sp, if_neg hcd]
    rw [if_neg k, if_neg (fun z => hcd ((c_isAt h).mp z)), if_neg (show ¬ false = true by decide), hx]
    exact ⟨rfl, fl_of (TU := TU) h hC h7 h11 (by decide)⟩
end NUMR
