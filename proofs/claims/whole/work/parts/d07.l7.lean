variable {sc : SC}
/-! ===== the class's place ===== -/
def Sd (x : Nat → Int32) (t c p : Nat) (S : ZS) : Prop := TkR x t c S ∧ S.1 4 = nI (c + 1) ∧ (S.2 2 c = 0 ∧ S.2 3 c = nI t ∧ S.2 4 c = 0) ∧ tkO x t c = t ∧ c ≤ 600 ∧ S.1 5 = nI p ∧ p ≤ c
section SD
variable {x : Nat → Int32} {t c p : Nat} {S M : ZS} {TU : TS}
theorem Sd.sp (h : Sd x t c p S) : sp S = p := by
  obtain ⟨-, -, -, -, h1, h2, h3⟩ := h
  show (S.1 5).toNatClampNeg = p
  rw [h2, nI_clamp (by omega)]
theorem Sd.code (h : Sd x t c p S) : g_c_4_codeAt (c + 1) p S = if p < c then tkC x t p else 0 := by
  obtain ⟨h0, -, ⟨e1, e2, e3⟩, -, h1, h2, h3⟩ := h
  by_cases q : p < c
  · rw [if_pos q]; exact (tk_code h0 q).1
  · rw [if_neg q, show p = c by omega]; exact (if_neg (by omega)).trans e1
theorem Sd.num (h : Sd x t c p S) : g_c_4_numberAt (c + 1) p S = if p < c then tkV x t p else 0 := by
  obtain ⟨h0, -, ⟨e1, e2, e3⟩, -, h1, h2, h3⟩ := h
  by_cases q : p < c
  · rw [if_pos q]; exact (tk_code h0 q).2.2
  · rw [if_neg q, show p = c by omega]; exact (if_neg (by omega)).trans e3
theorem Sd.off (h : Sd x t c p S) : g_c_4_offsetAt (c + 1) p S = nI (tkO x t p) := by
  obtain ⟨h0, -, ⟨e1, e2, e3⟩, h9, h1, h2, h3⟩ := h
  by_cases q : p < c
  · exact (tk_code h0 q).2.1
  · rw [show p = c by omega, h9]; exact (if_neg (by omega)).trans e2
/-- both see the same token -/
theorem at_is (h : Sd x t c p S) (hC : Cur x t p M) : (g_c_4_codeAt (c + 1) p S = 2 ↔ M.1 23 = 3) ∧ (g_c_4_codeAt (c + 1) p S = 6 ↔ M.1 23 = 1) ∧ (g_c_4_codeAt (c + 1) p S = 3 ↔ M.1 23 = 4) ∧ (g_c_4_codeAt (c + 1) p S = 4 ↔ M.1 23 = 5) ∧ (g_c_4_codeAt (c + 1) p S = 5 ↔ M.1 23 = 6) ∧ (g_c_4_codeAt (c + 1) p S = 0 ↔ M.1 23 = 0) := by
  rw [h.code]
  obtain ⟨h0, -, -, h9, h1, h2, h3⟩ := h
  obtain ⟨c1, c2, c3⟩ := hC
  by_cases q : p < c
  · obtain ⟨k1, -, -⟩ := c3 (h0 p q).1
    rw [if_pos q, k1]
    obtain ⟨a1, a2, a3, a4, a5, a6⟩ := tcd_is x (tkO x t p) (tkP x t (p + 1))
    refine ⟨a1, a2, a3, a4, a5, fun z => absurd z a6, fun z => ?_⟩
    have := lxK_rg x (tkO x t p) (tkP x t (p + 1))
    have z2 : lxK x (tkO x t p) (tkP x t (p + 1)) = 0 := z
    rw [z2] at this
    exact absurd this (by decide)
  · rw [if_neg q, (c2 (by rw [show p = c by omega]; exact h9)).1]
    decide
end SD
