variable {sc : SC}
/-! ===== a command's end ===== -/
section ENDR
variable {x : Nat → Int32} {t c p : Nat} {S M : ZS} {TU : TS}
theorem end_sim (can : Bool) (h : Sd x t c p S) (hC : Cur x t p M) (h7 : S.1 7 = 0) (h11 : M.1 11 = 0) :
    (can = true ∧ M.1 23 = 1 ∧ p < c ∧ g_c_2_ends (c + 1) can S TU = (true, sI 5 (nI (p + 1)) S) ∧ g_m_stops can M = (true, M)) ∨ ((g_c_2_ends (c + 1) can S TU).1 = false ∧ (g_m_stops can M).1 = false ∧ Fl c (g_c_2_ends (c + 1) can S TU).2 (g_m_stops can M).2) := by
  have hat := at_is h hC
  rw [g_m_stops, g_m_is, g_c_2_ends]
  by_cases k : M.1 23 = 1
  · have hp : p < c := at_lt h hC (by rw [k]; decide)
    have hcd := hat.2.1.mpr k
    have hx : g_c_2_expect (c + 1) 6 S TU = sI 5 (nI (p + 1)) S := by rw [g_c_2_expect, if_pos h7, h.sp, if_pos hcd]
    rw [if_pos k, if_pos ((c_isAt h).mpr hcd), hx]
    have h9 : (sI 5 (nI (p + 1)) S).1 7 = 0 := (sI_o (by decide)).trans h7
    cases can with
    | true =>
      left
      rw [if_pos rfl, if_pos h9, if_pos rfl, if_pos rfl]
      exact ⟨rfl, k, hp, rfl, rfl⟩
    | false =>
      right
      have f := fl_of (TU := TU) (v := 4) h hC h7 h11 (by decide)
      rw [if_neg (by decide), c_expect_no f.1, if_neg f.1, if_pos rfl, if_neg (by decide)]
      exact ⟨rfl, rfl, f⟩
  · right
    have hcd : ¬ g_c_4_codeAt (c + 1) p S = 6 := fun z => k (hat.2.1.mp z)
    have hx : g_c_2_expect (c + 1) 6 S TU = g_c_2_fail 1 S TU := by rw [g_c_2_expect, if_pos h7, h.sp, if_neg hcd]
    have f := fl_of (TU := TU) (v := 1) h hC h7 h11 (by decide)
    rw [if_neg k, if_neg (fun z => hcd ((c_isAt h).mp z)), hx, if_neg f.1, if_neg (show ¬ false = true by decide)]
    exact ⟨rfl, rfl, f⟩
end ENDR
