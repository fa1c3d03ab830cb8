variable {sc : SC}
/-! ===== a word ahead ===== -/
theorem splL_at {x : Nat → Int32} {a w : Nat} : ∀ fu k, splL x a w fu k = true → ∀ j, k ≤ j → j < k + fu → x (a + j) = (zby w).getD j 0 := by
  intro fu
  induction fu with
  | zero => intro k _ j h1 h2; omega
  | succ fu ih =>
    intro k h j h1 h2
    rw [splL] at h
    by_cases q : x (a + k) = (zby w).getD k 0
    · rw [if_pos q] at h
      by_cases p : j = k
      · rw [p]; exact q
      · exact ih (k + 1) h j (by omega) (by omega)
    · rw [if_neg q] at h; cases h
theorem spl_at {x : Nat → Int32} {a e w : Nat} (h : spl x a e w = true) : e - a = (zby w).length ∧ ∀ j, j < (zby w).length → x (a + j) = (zby w).getD j 0 := by
  rw [spl] at h
  by_cases q : e - a = (zby w).length
  · rw [if_pos q] at h
    exact ⟨q, fun j hj => splL_at _ 0 h j (Nat.zero_le _) (by omega)⟩
  · rw [if_neg q] at h; cases h
theorem spl_no {x : Nat → Int32} {a e w v : Nat} (hne : ¬ zby w = zby v) (h : spl x a e w = true) : spl x a e v = false := by
  refine Bool.eq_false_iff.mpr (fun g => hne ?_)
  obtain ⟨l1, h1⟩ := spl_at h
  obtain ⟨l2, h2⟩ := spl_at g
  have hl : (zby w).length = (zby v).length := l1.symm.trans l2
  refine List.ext_getElem hl (fun j p1 p2 => ?_)
  have e1 := h1 j p1
  have e2 := h2 j p2
  rw [List.getD_eq_getElem?_getD, List.getElem?_eq_getElem p1] at e1
  rw [List.getD_eq_getElem?_getD, List.getElem?_eq_getElem p2] at e2
  exact e1.symm.trans e2
def wA (c : Int32) : Int32 := if c = 9 then 0 else if c = 10 then 1 else if c = 11 then 2 else if c = 12 then 3 else if c = 13 then 4 else if c = 14 then 5 else if c = 15 then 6 else if c = 8 then 7 else -1
theorem m_word {t : Nat} {M : ZS} (h2 : M.1 23 = 2) : g_m_wordAhead t M = wA (wdC (M.2 6) (mo M) (me M)) := by
  rw [g_m_wordAhead, m_spl h2, m_spl h2, m_spl h2, m_spl h2, m_spl h2, m_spl h2, m_spl h2, m_spl h2, spl_eq _ _ _ (show zby 21 = zby 2 from rfl), spl_eq _ _ _ (show zby 22 = zby 3 from rfl), spl_eq _ _ _ (show zby 23 = zby 4 from rfl), spl_eq _ _ _ (show zby 24 = zby 5 from rfl), spl_eq _ _ _ (show zby 25 = zby 6 from rfl), spl_eq _ _ _ (show zby 26 = zby 7 from rfl), spl_eq _ _ _ (show zby 27 = zby 8 from rfl), spl_eq _ _ _ (show zby 28 = zby 1 from rfl), wdC]
  generalize M.2 6 = x
  generalize mo M = a
  generalize me M = e
  by_cases b0 : spl x a e 0 = true
  · rw [if_pos b0, spl_no (v := 2) (by decide) b0, spl_no (v := 3) (by decide) b0, spl_no (v := 4) (by decide) b0, spl_no (v := 5) (by decide) b0, spl_no (v := 6) (by decide) b0, spl_no (v := 7) (by decide) b0, spl_no (v := 8) (by decide) b0, spl_no (v := 1) (by decide) b0]
    decide
  · rw [if_neg b0]
    by_cases b1 : spl x a e 1 = true
    · rw [if_pos b1, spl_no (v := 2) (by decide) b1, spl_no (v := 3) (by decide) b1, spl_no (v := 4) (by decide) b1, spl_no (v := 5) (by decide) b1, spl_no (v := 6) (by decide) b1, spl_no (v := 7) (by decide) b1, spl_no (v := 8) (by decide) b1, if_pos b1]
      decide
    · rw [if_neg b1, if_neg b1]
      by_cases b2 : spl x a e 2 = true
      · rw [if_pos b2, if_pos b2]; decide
      · rw [if_neg b2, if_neg b2]
        by_cases b3 : spl x a e 3 = true
        · rw [if_pos b3, if_pos b3]; decide
        · rw [if_neg b3, if_neg b3]
          by_cases b4 : spl x a e 4 = true
          · rw [if_pos b4, if_pos b4]; decide
          · rw [if_neg b4, if_neg b4]
            by_cases b5 : spl x a e 5 = true
            · rw [if_pos b5, if_pos b5]; decide
            · rw [if_neg b5, if_neg b5]
              by_cases b6 : spl x a e 6 = true
              · rw [if_pos b6, if_pos b6]; decide
              · rw [if_neg b6, if_neg b6]
                by_cases b7 : spl x a e 7 = true
                · rw [if_pos b7, if_pos b7]; decide
                · rw [if_neg b7, if_neg b7]
                  by_cases b8 : spl x a e 8 = true
                  · rw [if_pos b8, if_pos b8]; decide
                  · rw [if_neg b8, if_neg b8]; decide
