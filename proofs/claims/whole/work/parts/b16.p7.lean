variable {sc : SC}
/-! ===== what questions leave behind ===== -/
theorem s2_firstAtLeast (n f : Nat) (v : Int32) : ∀ (fu : Nat) (i : Nat) (S : ZS), (g_m_firstAtLeast_L n f v fu i S).2 = S := by
  intro fu
  induction fu with
  | zero => intros; rfl
  | succ fu ih =>
    intro i S
    rw [g_m_firstAtLeast_L]
    repeat' split
    all_goals first | rfl | exact ih _ S
theorem s2_firstBelow (n f : Nat) (v : Int32) : ∀ (fu : Nat) (i : Nat) (S : ZS), (g_m_firstBelow_L n f v fu i S).2 = S := by
  intro fu
  induction fu with
  | zero => intros; rfl
  | succ fu ih =>
    intro i S
    rw [g_m_firstBelow_L]
    repeat' split
    all_goals first | rfl | exact ih _ S
theorem s2_lastAtLeast (n f : Nat) (v : Int32) : ∀ (fu : Nat) (x : Int32) (i : Nat) (S : ZS), (g_m_lastAtLeast_L n f v fu x i S).2 = S := by
  intro fu
  induction fu with
  | zero => intros; rfl
  | succ fu ih =>
    intro x i S
    rw [g_m_lastAtLeast_L]
    repeat' split
    all_goals first | rfl | exact ih _ _ S
theorem s2_longestRun (n : Nat) (v : Int32) : ∀ (fu : Nat) (b c : Int32) (i : Nat) (S : ZS), (g_m_longestRun_L n v fu b c i S).2 = S := by
  intro fu
  induction fu with
  | zero => intros; rfl
  | succ fu ih =>
    intro b c i S
    rw [g_m_longestRun_L]
    repeat' split
    all_goals first | rfl | exact ih _ _ _ S
theorem s2_occurrence (n : Nat) (v m : Int32) : ∀ (fu : Nat) (c : Int32) (i : Nat) (S : ZS), (g_m_occurrence_L n v m fu c i S).2 = S := by
  intro fu
  induction fu with
  | zero => intros; rfl
  | succ fu ih =>
    intro c i S
    rw [g_m_occurrence_L]
    repeat' split
    all_goals first | rfl | exact ih _ _ S
theorem s2_prefixAtLeast (n : Nat) (v : Int64) : ∀ (fu : Nat) (s : Int64) (i : Nat) (S : ZS), (g_m_prefixAtLeast_L n v fu s i S).2 = S := by
  intro fu
  induction fu with
  | zero => intros; rfl
  | succ fu ih =>
    intro s i S
    rw [g_m_prefixAtLeast_L]
    repeat' split
    all_goals first | rfl | exact ih _ _ S
theorem s2_runCount (n f t : Nat) : ∀ (fu : Nat) (c i : Nat) (S : ZS), (g_m_runCount_L n f t fu c i S).2 = S := by
  intro fu
  induction fu with
  | zero => intros; rfl
  | succ fu ih =>
    intro c i S
    rw [g_m_runCount_L]
    repeat' split
    all_goals first | rfl | exact ih _ _ S
theorem s2_steepestStep (n f t : Nat) : ∀ (fu : Nat) (c : Int32) (i : Nat) (S : ZS), (g_m_steepestStep_L n f t fu c i S).2 = S := by
  intro fu
  induction fu with
  | zero => intros; rfl
  | succ fu ih =>
    intro c i S
    rw [g_m_steepestStep_L]
    repeat' split
    all_goals first | rfl | exact ih _ _ S
theorem s2_goesOn (n f t : Nat) (e : Int32) : ∀ (fu : Nat) (i : Nat) (S : ZS), (g_m_goesOn_L n f t e fu i S).2 = S := by
  intro fu
  induction fu with
  | zero => intros; rfl
  | succ fu ih =>
    intro i S
    rw [g_m_goesOn_L]
    repeat' split
    all_goals first | rfl | exact ih _ S
theorem s2_distinctCount (n f t : Nat) : ∀ (fu : Nat) (c i : Nat) (S : ZS), (g_m_distinctCount_L n f t fu c i S).2 = S := by
  intro fu
  induction fu with
  | zero => intros; rfl
  | succ fu ih =>
    intro c i S
    rw [g_m_distinctCount_L]
    repeat' split
    all_goals first | rfl | exact ih _ _ S
theorem s2_storedSum (n k : Nat) : ∀ (fu : Nat) (s : Int64) (i : Nat) (S : ZS), (g_m_storedSum_L n k fu s i S).2 = S := by
  intro fu
  induction fu with
  | zero => intros; rfl
  | succ fu ih =>
    intro s i S
    rw [g_m_storedSum_L]
    repeat' split
    all_goals first | rfl | exact ih _ _ S
theorem s2_storedOne (n k : Nat) (e : Int32) : ∀ (fu : Nat) (b : Int32) (i : Nat) (S : ZS), (g_m_storedOne_L n k e fu b i S).2 = S := by
  intro fu
  induction fu with
  | zero => intros; rfl
  | succ fu ih =>
    intro b i S
    rw [g_m_storedOne_L]
    repeat' split
    all_goals first | rfl | exact ih _ _ S
theorem s2_depth (n : Nat) : ∀ (fu : Nat) (c : Int32) (i : Nat) (S : ZS), (g_m_depth_L n fu c i S).2 = S := by
  intro fu
  induction fu with
  | zero => intros; rfl
  | succ fu ih =>
    intro c i S
    rw [g_m_depth_L]
    repeat' split
    all_goals first | rfl | exact ih _ _ S
theorem s2_marksAbove (n f : Nat) : ∀ (fu : Nat) (c m : Nat) (S : ZS), (g_m_marksAbove_L n f fu c m S).2 = S := by
  intro fu
  induction fu with
  | zero => intros; rfl
  | succ fu ih =>
    intro c m S
    rw [g_m_marksAbove_L]
    repeat' split
    all_goals first | rfl | exact ih _ _ S
theorem s2_violations (n : Nat) : ∀ (fu : Nat) (c i : Nat) (S : ZS), (g_m_violations_L n fu c i S).2 = S := by
  intro fu
  induction fu with
  | zero => intros; rfl
  | succ fu ih =>
    intro c i S
    rw [g_m_violations_L]
    repeat' split
    all_goals first | rfl | exact ih _ _ S
theorem s2_markedNodes (n : Nat) : ∀ (fu : Nat) (c k : Nat) (S : ZS), (g_m_markedNodes_L n fu c k S).2 = S := by
  intro fu
  induction fu with
  | zero => intros; rfl
  | succ fu ih =>
    intro c k S
    rw [g_m_markedNodes_L]
    repeat' split
    all_goals first | rfl | exact ih _ _ S
/-- only thrown, the geometry and what a try writes to has changed -/
def qF (M R : ZS) : Prop := (∀ k, ¬ k = 15 → ¬ k = 19 → ¬ k = 21 → ¬ k = 22 → R.1 k = M.1 k) ∧ (∀ j, 3 ≤ j → j ≤ 7 → R.2 j = M.2 j) ∧ (∀ k, k < 300 → R.2 0 k = M.2 0 k) ∧ mFg R
theorem qF_15 {M : ZS} (v : Int32) (h : mFg M) : qF M (sI 15 v M) := ⟨fun _ a _ _ _ => sI_o a, fun _ _ _ => rfl, fun _ _ => rfl, h.gF (gF_I (by decide))⟩
theorem qF_gr {n : Nat} {M R : ZS} (h : qF M R) (h1 : 1 ≤ n) (h40 : n ≤ 40) : qF M (g_m_grows n R) := by
  have e := mEq_grows (n := n) R h1 h40
  exact ⟨fun k a b c d => (e.1 k b).trans (h.1 k a b c d), fun j a b => (e.2 j (by omega) (by omega) (by omega)).trans (h.2.1 j a b), fun k a => (congrFun (e.2 0 (by decide) (by decide) (by decide)) k).trans (h.2.2.1 k a), h.2.2.2.gF (uF_grows (n := n) R h1 h40).2.2⟩
theorem qF_s {M R : ZS} (v : Int32) (h : qF M R) : qF M (sI 15 v R) := ⟨fun k a b c d => (sI_o a).trans (h.1 k a b c d), h.2.1, h.2.2.1, h.2.2.2.gF (gF_I (by decide))⟩
theorem qF_rfl {M : ZS} (h : mFg M) : qF M M := ⟨fun _ _ _ _ _ => rfl, fun _ _ _ => rfl, fun _ _ => rfl, h⟩
/-- .. and nothing was thrown -/
def q0 (M R : ZS) : Prop := qF M R ∧ R.1 15 = 0
theorem q0_15 {M : ZS} (h : mFg M) : q0 M (sI 15 0 M) := ⟨qF_15 0 h, sI_same _ _ _⟩
theorem q0_gr {n : Nat} {M R : ZS} (h : q0 M R) (h1 : 1 ≤ n) (h40 : n ≤ 40) : q0 M (g_m_grows n R) := ⟨qF_gr h.1 h1 h40, ((mEq_grows (n := n) R h1 h40).1 15 (by decide)).trans h.2⟩
theorem q0_s {M R : ZS} (h : qF M R) : q0 M (sI 15 0 R) := ⟨qF_s 0 h, sI_same _ _ _⟩
section QFM
variable {n a b k : Nat} {v w : Int32} {q : Int64} {M : ZS}

theorem qf_sum (hF : mFg M) (h1 : 1 ≤ n) (h40 : n ≤ 40) : q0 M (g_m_sum n a b M).2 := q0_gr (q0_15 hF) h1 h40
theorem qf_least (hF : mFg M) (h1 : 1 ≤ n) (h40 : n ≤ 40) : q0 M (g_m_least n a b M).2 := q0_gr (q0_15 hF) h1 h40
theorem qf_greatest (hF : mFg M) (h1 : 1 ≤ n) (h40 : n ≤ 40) : q0 M (g_m_greatest n a b M).2 := q0_gr (q0_15 hF) h1 h40
theorem qf_leastCount (hF : mFg M) (h1 : 1 ≤ n) (h40 : n ≤ 40) : q0 M (g_m_leastCount n a b M).2 := q0_gr (q0_15 hF) h1 h40
theorem qf_greatestCount (hF : mFg M) (h1 : 1 ≤ n) (h40 : n ≤ 40) : q0 M (g_m_greatestCount n a b M).2 := q0_gr (q0_15 hF) h1 h40
theorem qf_firstLeast (hF : mFg M) (h1 : 1 ≤ n) (h40 : n ≤ 40) : q0 M (g_m_firstLeast n a b M).2 := q0_gr (q0_15 hF) h1 h40
theorem qf_firstGreatest (hF : mFg M) (h1 : 1 ≤ n) (h40 : n ≤ 40) : q0 M (g_m_firstGreatest n a b M).2 := q0_gr (q0_15 hF) h1 h40
theorem qf_mean (hF : mFg M) (h1 : 1 ≤ n) (h40 : n ≤ 40) : q0 M (g_m_mean n a b M).2 := q0_gr (q0_15 hF) h1 h40
theorem qf_greatestShare (hF : mFg M) (h1 : 1 ≤ n) (h40 : n ≤ 40) : q0 M (g_m_greatestShare n a b M).2 := q0_gr (q0_15 hF) h1 h40
theorem qf_greatestAddition (hF : mFg M) (h1 : 1 ≤ n) (h40 : n ≤ 40) : q0 M (g_m_greatestAddition n a b M).2 := q0_gr (q0_15 hF) h1 h40
theorem qf_totalIfAssigned (hF : mFg M) (h1 : 1 ≤ n) (h40 : n ≤ 40) : q0 M (g_m_totalIfAssigned n a b v M).2 := q0_gr (q0_15 hF) h1 h40
theorem qf_element (hF : mFg M) (h1 : 1 ≤ n) (h40 : n ≤ 40) : q0 M (g_m_element n a M).2 := q0_gr (q0_15 hF) h1 h40
theorem qf_canAdd (hF : mFg M) (h1 : 1 ≤ n) (h40 : n ≤ 40) : q0 M (g_m_canAdd n a b v M).2 := by
  rw [g_m_canAdd]
  repeat' split
  all_goals first | exact q0_15 hF | exact q0_gr (q0_15 hF) h1 h40
theorem qf_runCount (hF : mFg M) (h1 : 1 ≤ n) (h40 : n ≤ 40) : q0 M (g_m_runCount n a b M).2 := by
  rw [g_m_runCount]
  repeat' split
  all_goals first | exact q0_15 hF | exact q0_gr (q0_15 hF) h1 h40 | (rw [s2_runCount]; exact q0_gr (q0_15 hF) h1 h40)
theorem qf_steepestStep (hF : mFg M) (h1 : 1 ≤ n) (h40 : n ≤ 40) : q0 M (g_m_steepestStep n a b M).2 := by
  rw [g_m_steepestStep]
  repeat' split
  all_goals first | exact q0_15 hF | exact q0_gr (q0_15 hF) h1 h40 | (rw [s2_steepestStep]; exact q0_gr (q0_15 hF) h1 h40)
theorem qf_firstAtLeast (hF : mFg M) (h1 : 1 ≤ n) (h40 : n ≤ 40) : q0 M (g_m_firstAtLeast n a v M).2 := by
  rw [g_m_firstAtLeast]
  repeat' split
  all_goals first | exact q0_15 hF | exact q0_gr (q0_15 hF) h1 h40 | (rw [s2_firstAtLeast]; exact q0_gr (q0_15 hF) h1 h40)
theorem qf_firstBelow (hF : mFg M) (h1 : 1 ≤ n) (h40 : n ≤ 40) : q0 M (g_m_firstBelow n a v M).2 := by
  rw [g_m_firstBelow]
  repeat' split
  all_goals first | exact q0_15 hF | exact q0_gr (q0_15 hF) h1 h40 | (rw [s2_firstBelow]; exact q0_gr (q0_15 hF) h1 h40)
theorem qf_lastAtLeast (hF : mFg M) (h1 : 1 ≤ n) (h40 : n ≤ 40) : q0 M (g_m_lastAtLeast n a v M).2 := by
  rw [g_m_lastAtLeast]
  repeat' split
  all_goals first | exact q0_15 hF | exact q0_gr (q0_15 hF) h1 h40 | (rw [s2_lastAtLeast]; exact q0_gr (q0_15 hF) h1 h40)
theorem qf_longestRun (hF : mFg M) (h1 : 1 ≤ n) (h40 : n ≤ 40) : q0 M (g_m_longestRun n v M).2 := by
  rw [g_m_longestRun]
  repeat' split
  all_goals first | exact q0_15 hF | exact q0_gr (q0_15 hF) h1 h40 | (rw [s2_longestRun]; exact q0_gr (q0_15 hF) h1 h40)
theorem qf_occurrence (hF : mFg M) (h1 : 1 ≤ n) (h40 : n ≤ 40) : q0 M (g_m_occurrence n v w M).2 := by
  rw [g_m_occurrence]
  repeat' split
  all_goals first | exact q0_15 hF | exact q0_gr (q0_15 hF) h1 h40 | (rw [s2_occurrence]; exact q0_gr (q0_15 hF) h1 h40)
theorem qf_prefixAtLeast (hF : mFg M) (h1 : 1 ≤ n) (h40 : n ≤ 40) : q0 M (g_m_prefixAtLeast n q M).2 := by
  rw [g_m_prefixAtLeast]
  repeat' split
  all_goals first | exact q0_15 hF | exact q0_gr (q0_15 hF) h1 h40 | (rw [s2_prefixAtLeast]; exact q0_gr (q0_15 hF) h1 h40)
theorem qf_distinctCount (hF : mFg M) (h1 : 1 ≤ n) (h40 : n ≤ 40) : q0 M (g_m_distinctCount n a b M).2 := by
  rw [g_m_distinctCount]
  repeat' split
  all_goals first | exact q0_15 hF | exact q0_gr (q0_15 hF) h1 h40 | (rw [s2_distinctCount]; exact q0_gr (q0_15 hF) h1 h40)
theorem qf_violations (hF : mFg M) (h1 : 1 ≤ n) (h40 : n ≤ 40) : q0 M (g_m_violations n M).2 := by
  rw [g_m_violations]
  repeat' split
  all_goals first | exact q0_15 hF | exact q0_gr (q0_15 hF) h1 h40 | (rw [s2_violations]; exact q0_gr (q0_15 hF) h1 h40)
theorem qf_markedNodes (hF : mFg M) (h1 : 1 ≤ n) (h40 : n ≤ 40) : q0 M (g_m_markedNodes n M).2 := by
  rw [g_m_markedNodes]
  repeat' split
  all_goals first | exact q0_15 hF | exact q0_gr (q0_15 hF) h1 h40 | (rw [s2_markedNodes]; exact q0_gr (q0_15 hF) h1 h40)
theorem qf_goesOn {e : Int32} (hF : mFg M) (h1 : 1 ≤ n) (h40 : n ≤ 40) : q0 M (g_m_goesOn n a b e (sI 15 0 M)).2 := by
  rw [g_m_goesOn]
  repeat' split
  all_goals first | exact q0_15 hF | exact q0_gr (q0_15 hF) h1 h40 | (rw [s2_goesOn]; exact q0_gr (q0_15 hF) h1 h40)
theorem qf_isAscending (hF : mFg M) (h1 : 1 ≤ n) (h40 : n ≤ 40) : q0 M (g_m_isAscending n a b M).2 := by
  rw [g_m_isAscending]
  split <;> exact qf_goesOn hF h1 h40
theorem qf_isDescending (hF : mFg M) (h1 : 1 ≤ n) (h40 : n ≤ 40) : q0 M (g_m_isDescending n a b M).2 := by
  rw [g_m_isDescending]
  split <;> exact qf_goesOn hF h1 h40
theorem qf_firstIndex (hF : mFg M) (h1 : 1 ≤ n) (h40 : n ≤ 40) : q0 M (g_m_firstIndex n k M).2 := q0_s (qF_gr (qF_rfl hF) h1 h40)
theorem qf_lastIndex (hF : mFg M) (h1 : 1 ≤ n) (h40 : n ≤ 40) : q0 M (g_m_lastIndex n k M).2 := q0_s (qF_gr (qF_rfl hF) h1 h40)
theorem qf_markFactor (hF : mFg M) (h1 : 1 ≤ n) (h40 : n ≤ 40) : q0 M (g_m_markFactor n k M).2 := q0_s (qF_gr (qF_rfl hF) h1 h40)
theorem qf_markOffset (hF : mFg M) (h1 : 1 ≤ n) (h40 : n ≤ 40) : q0 M (g_m_markOffset n k M).2 := q0_s (qF_gr (qF_rfl hF) h1 h40)
theorem qf_leafOf (hF : mFg M) (h1 : 1 ≤ n) (h40 : n ≤ 40) : q0 M (g_m_leafOf n a M).2 := q0_s (qF_gr (qF_rfl hF) h1 h40)
theorem qf_isLeaf (hF : mFg M) (h1 : 1 ≤ n) (h40 : n ≤ 40) : q0 M (g_m_isLeaf n k M).2 := by
  rw [g_m_isLeaf]
  split <;> exact q0_s (qF_gr (qF_rfl hF) h1 h40)
theorem qf_storedSum (hF : mFg M) (h1 : 1 ≤ n) (h40 : n ≤ 40) : q0 M (g_m_storedSum n k M).2 := by
  rw [g_m_storedSum, s2_storedSum]
  exact q0_s (qF_gr (qF_rfl hF) h1 h40)
theorem qf_storedOne {e : Int32} (hF : mFg M) (h1 : 1 ≤ n) (h40 : n ≤ 40) : q0 M (g_m_storedOne n k e M).2 := by
  rw [g_m_storedOne, s2_storedOne]
  exact q0_s (qF_gr (qF_rfl hF) h1 h40)
theorem qf_storedLeast (hF : mFg M) (h1 : 1 ≤ n) (h40 : n ≤ 40) : q0 M (g_m_storedLeast n k M).2 := qf_storedOne hF h1 h40
theorem qf_storedGreatest (hF : mFg M) (h1 : 1 ≤ n) (h40 : n ≤ 40) : q0 M (g_m_storedGreatest n k M).2 := qf_storedOne hF h1 h40
theorem qf_depth (hF : mFg M) (h1 : 1 ≤ n) (h40 : n ≤ 40) : q0 M (g_m_depth n M).2 := by
  rw [g_m_depth, s2_depth]
  exact q0_gr (q0_15 hF) h1 h40
theorem qf_marksAbove (hF : mFg M) (h1 : 1 ≤ n) (h40 : n ≤ 40) : q0 M (g_m_marksAbove n a M).2 := by
  rw [g_m_marksAbove, s2_marksAbove]
  exact q0_s (qF_gr (qF_rfl hF) h1 h40)
end QFM
