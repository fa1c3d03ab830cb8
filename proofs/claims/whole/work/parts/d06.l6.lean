variable {sc : SC}
/-! ===== codes against kinds ===== -/
theorem sort_rg (v : Int32) : g_m_sortOf v = 1 ∨ g_m_sortOf v = 2 ∨ g_m_sortOf v = 3 ∨ g_m_sortOf v = 4 ∨ g_m_sortOf v = 5 ∨ g_m_sortOf v = 6 ∨ g_m_sortOf v = 7 := by
  unfold g_m_sortOf
  repeat' split
  all_goals decide
theorem lxK_rg (x : Nat → Int32) (o e : Nat) : lxK x o e = 1 ∨ lxK x o e = 2 ∨ lxK x o e = 3 ∨ lxK x o e = 4 ∨ lxK x o e = 5 ∨ lxK x o e = 6 ∨ lxK x o e = 7 := by
  have h := sort_rg (x o)
  unfold lxK
  by_cases c : g_m_sortOf (x o) = 3
  · rw [if_pos c]
    split
    all_goals decide
  · rw [if_neg c]; exact h
theorem wdC_rg (x : Nat → Int32) (a e : Nat) : wdC x a e = 1 ∨ wdC x a e = 7 ∨ wdC x a e = 8 ∨ wdC x a e = 9 ∨ wdC x a e = 10 ∨ wdC x a e = 11 ∨ wdC x a e = 12 ∨ wdC x a e = 13 ∨ wdC x a e = 14 ∨ wdC x a e = 15 := by
  unfold wdC
  repeat' split
  all_goals decide
/-- a sign's or a number's code stands for its kind -/
theorem tcd_is (x : Nat → Int32) (o e : Nat) : (tcd x o e = 2 ↔ lxK x o e = 3) ∧ (tcd x o e = 6 ↔ lxK x o e = 1) ∧ (tcd x o e = 3 ↔ lxK x o e = 4) ∧ (tcd x o e = 4 ↔ lxK x o e = 5) ∧ (tcd x o e = 5 ↔ lxK x o e = 6) ∧ ¬ tcd x o e = 0 := by
  unfold tcd
  by_cases c : lxK x o e = 2
  · rw [if_pos c, c]
    have h := wdC_rg x o e
    generalize wdC x o e = w at h ⊢
    rcases h with h | h | h | h | h | h | h | h | h | h <;> rw [h] <;> decide
  · rw [if_neg c]
    have h := lxK_rg x o e
    generalize lxK x o e = k at h c ⊢
    rcases h with h | h | h | h | h | h | h <;> rw [h] at c ⊢ <;> first | exact absurd rfl c | decide
