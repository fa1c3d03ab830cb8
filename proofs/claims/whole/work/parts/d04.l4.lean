variable {sc : SC}
/-! ===== where the reference reads ===== -/
/-- the token it has before it is token p -/
def Cur (x : Nat → Int32) (t p : Nat) (M : ZS) : Prop := M.1 24 = nI (tkO x t p) ∧ (tkO x t p = t → M.1 23 = 0 ∧ M.1 25 = nI t) ∧ (tkO x t p < t → M.1 23 = tkK x t p ∧ M.1 25 = nI (tkP x t (p + 1)) ∧ M.1 26 = tkV x t p)
theorem tkO_le {x : Nat → Int32} {t p : Nat} (h : tkP x t p ≤ t) : tkO x t p ≤ t := (lxO_le x h).2
theorem tkP_le {x : Nat → Int32} {t p : Nat} (h : tkO x t p < t) : tkP x t (p + 1) ≤ t ∧ tkO x t p < tkP x t (p + 1) := by
  have := lxE_le x h
  exact ⟨this.2, this.1⟩
theorem cur_next {t p : Nat} {M : ZS} (hT : mTk t M) (hp : M.1 25 = nI (tkP (M.2 6) t p)) (hl : tkP (M.2 6) t p ≤ t) : Cur (M.2 6) t p (g_m_next t M) := by
  have e1 : me M = tkP (M.2 6) t p := me_nI hp (by have := hT.2.1; omega)
  have eo : lxO (M.2 6) t (me M) = tkO (M.2 6) t p := by rw [e1]; rfl
  have ho := tkO_le hl
  rw [next_eq hT, lxS, eo]
  by_cases c : tkO (M.2 6) t p = t
  · rw [if_pos c]
    refine ⟨by rw [c]; exact ((sI_o (by decide)).trans (sI_o (by decide))).trans (sI_same _ _ _), fun _ => ⟨sI_same _ _ _, (sI_o (by decide)).trans (sI_same _ _ _)⟩, fun z => by omega⟩
  · rw [if_neg c]
    have eP : lxE (M.2 6) t (tkO (M.2 6) t p) = tkP (M.2 6) t (p + 1) := rfl
    refine ⟨((sI_o (by decide)).trans (sI_o (by decide))).trans ((sI_o (by decide)).trans (sI_same _ _ _)), fun z => absurd z c, fun _ => ⟨?_, ?_, ?_⟩⟩
    · exact (sI_o (by decide)).trans (sI_same _ _ _)
    · exact ((sI_o (by decide)).trans (sI_o (by decide))).trans (sI_same _ _ _)
    · exact sI_same _ _ _
/-- the class's tokens as its questions answer -/
theorem tk_code {x : Nat → Int32} {t c i : Nat} {S : ZS} (h : TkR x t c S) (hi : i < c) : g_c_4_codeAt (c + 1) i S = tkC x t i ∧ g_c_4_offsetAt (c + 1) i S = nI (tkO x t i) ∧ g_c_4_numberAt (c + 1) i S = tkV x t i := by
  obtain ⟨-, h1, h2, h3⟩ := h i hi
  exact ⟨(if_neg (by omega)).trans h1, (if_neg (by omega)).trans h2, (if_neg (by omega)).trans h3⟩
