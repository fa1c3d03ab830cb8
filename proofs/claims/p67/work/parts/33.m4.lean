variable {sc : SC}
def mEq (S R : ZS) : Prop := (∀ k, ¬ k = 19 → R.1 k = S.1 k) ∧ (∀ j, ¬ j = 8 → ¬ j = 9 → ¬ j = 10 → R.2 j = S.2 j)
theorem mEq.rfl' (S : ZS) : mEq S S := ⟨fun _ _ => rfl, fun _ _ _ _ => rfl⟩
theorem mEq.trans {S R Q : ZS} (h : mEq S R) (g : mEq R Q) : mEq S Q := ⟨fun k hk => (g.1 k hk).trans (h.1 k hk), fun j a b c => (g.2 j a b c).trans (h.2 j a b c)⟩
theorem grL2 {n : Nat} (h40 : n ≤ 40) : ∀ (fu k : Nat) (S : ZS), k + fu = 128 → 1 ≤ k → gr2 n k S → gr2 n 128 (g_m_grows_L2 n fu k S) ∧ (g_m_grows_L2 n fu k S).1 = S.1 ∧ ∀ j, ¬ j = 8 → ¬ j = 9 → ¬ j = 10 → (g_m_grows_L2 n fu k S).2 j = S.2 j := by
  intro fu
  induction fu with
  | zero => intro k S hk h1 h; exact ⟨(by omega : k = 128) ▸ h, rfl, fun _ _ _ _ => rfl⟩
  | succ fu ih =>
    intro k S hk h1 h
    have ha40 := gp_40 n k h40
    rw [g_m_grows_L2]
    by_cases c : nI (gp n k).1 = nI (gp n k).2 - 1
    · rw [if_pos c]
      have h2 := ih (k + 1) _ (by omega) (by omega) (gr2_leaf h h40 h1 (by omega) ((zgp_eq ha40.1 ha40.2).mp c))
      exact ⟨h2.1, h2.2.1, fun j a b d => (h2.2.2 j a b d).trans (by rw [sA_x d])⟩
    · rw [if_neg c]
      have hnl := fun e => c ((zgp_eq ha40.1 ha40.2).mpr e)
      by_cases c2 : nI (gp n k).2 - 1 ≤ nI (gp n k).1
      · rw [if_pos c2]
        exact ih (k + 1) _ (by omega) (by omega) (gr2_none h h40 h1 (by omega) hnl (zgp_ge ha40.1 ha40.2 c2))
      · rw [if_neg c2]
        have hw := zgp_lt ha40.1 ha40.2 c2
        have h64 := gp_near n k h40 (by omega) hw
        have h2 := ih (k + 1) _ (by omega) (by omega) (gr2_in h h40 h1 hw h64)
        exact ⟨h2.1, h2.2.1, fun j a b d => (h2.2.2 j a b d).trans (by rw [sA_x b, sA_x a, sA_x b, sA_x a])⟩
theorem grL1 {n : Nat} (hn : 1 ≤ n) (h40 : n ≤ 40) : ∀ (fu k : Nat) (S : ZS), k + fu = 128 → gr1 k S → gr2 n 128 (g_m_grows_L1 n fu k S) ∧ (g_m_grows_L1 n fu k S).1 = S.1 ∧ ∀ j, ¬ j = 8 → ¬ j = 9 → ¬ j = 10 → (g_m_grows_L1 n fu k S).2 j = S.2 j := by
  intro fu
  induction fu with
  | zero =>
    intro k S hk h
    have h2 := grL2 h40 127 1 _ (by omega) (by omega) (gr2_0 ((by omega : k = 128) ▸ h) hn h40)
    exact ⟨h2.1, h2.2.1, fun j a b d => (h2.2.2 j a b d).trans (by rw [sA_x b])⟩
  | succ fu ih =>
    intro k S hk h
    have h2 := ih (k + 1) _ (by omega) (gr1_step h)
    exact ⟨h2.1, h2.2.1, fun j a b d => (h2.2.2 j a b d).trans (by rw [sA_x b, sA_x a])⟩
theorem mEq_grows {n : Nat} (S : ZS) (hn : 1 ≤ n) (h40 : n ≤ 40) : mEq S (g_m_grows n S) := by
  rw [g_m_grows]
  by_cases c : S.1 19 = nI n
  · rw [if_pos c]; exact mEq.rfl' S
  · rw [if_neg c]
    have h2 := grL1 hn h40 128 0 (sI 19 (nI n) S) (by omega) (fun j hj => absurd hj (Nat.not_lt_zero j))
    refine ⟨fun k hk => ?_, fun j a b d => ?_⟩
    · rw [h2.2.1]; simp [sI, upd, hk]
    · rw [h2.2.2 j a b d]; rfl
noncomputable def g_m_ends (n : Nat) (k : Nat) (_S : ZS) : Bool := (if nI ((gp n k).1) = nI (gp n k).2 - 1 then true else false)
noncomputable def g_m_isMarked (k : Nat) (S : ZS) : Bool := (if S.2 0 (44 + k) = 1 then (if S.2 0 (172 + k) = 0 then false else true) else true)
