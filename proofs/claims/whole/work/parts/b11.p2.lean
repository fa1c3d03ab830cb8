variable {sc : SC}
/-! ===== searches, nodes, marks ===== -/
section QF
variable {n f a b : Nat} {v p : Int32} {q : Int64} {T : TS} {S X R M : ZS}
theorem q_fal (hV : ∀ i, i < n → g_m_valueG n i M = tva T i) : ∀ (fu i : Nat), i + fu ≤ n → g_c_6_firstAtLeast_L n f v fu i S X R T = (g_m_firstAtLeast_L n f v fu i M).1 := by
  intro fu
  induction fu with
  | zero => intro i _; rfl
  | succ fu ih =>
    intro i h
    rw [g_m_firstAtLeast_L, g_c_6_firstAtLeast_L, hV i (by omega)]
    by_cases e : tva T i < v
    · rw [if_pos e, if_pos e]; exact ih _ (by omega)
    · rw [if_neg e, if_neg e]
theorem e_firstAtLeast (h : Rel n T (M.2 0)) (hO : mOK n M) (hf : f < n) : g_c_6_firstAtLeast n f v S X R T = (g_m_firstAtLeast n f v M).1 := by
  obtain ⟨hG, hV, -⟩ := qst h hO
  have e1 : (g_m_value n f (sI 15 (0) M)).1 = tva T f := hV f hf
  rw [g_c_6_firstAtLeast, g_m_firstAtLeast, e1, show n - f = (n - (f + 1)) + 1 by omega, g_c_6_firstAtLeast_L]
  by_cases e : tva T f < v
  · rw [if_pos e, if_pos e]; exact q_fal hV _ _ (by omega)
  · rw [if_neg e, if_neg e]
theorem q_fbl (hV : ∀ i, i < n → g_m_valueG n i M = tva T i) : ∀ (fu i : Nat), i + fu ≤ n → g_c_6_firstBelow_L n f v fu i S X R T = (g_m_firstBelow_L n f v fu i M).1 := by
  intro fu
  induction fu with
  | zero => intro i _; rfl
  | succ fu ih =>
    intro i h
    rw [g_m_firstBelow_L, g_c_6_firstBelow_L, hV i (by omega)]
    by_cases e : v ≤ tva T i
    · rw [if_pos e, if_pos e]; exact ih _ (by omega)
    · rw [if_neg e, if_neg e]
theorem e_firstBelow (h : Rel n T (M.2 0)) (hO : mOK n M) (hf : f < n) : g_c_6_firstBelow n f v S X R T = (g_m_firstBelow n f v M).1 := by
  obtain ⟨hG, hV, -⟩ := qst h hO
  have e1 : (g_m_value n f (sI 15 (0) M)).1 = tva T f := hV f hf
  rw [g_c_6_firstBelow, g_m_firstBelow, e1, show n - f = (n - (f + 1)) + 1 by omega, g_c_6_firstBelow_L]
  by_cases e : v ≤ tva T f
  · rw [if_pos e, if_pos e]; exact q_fbl hV _ _ (by omega)
  · rw [if_neg e, if_neg e]
theorem q_lal (hV : ∀ i, i < n → g_m_valueG n i M = tva T i) : ∀ (fu : Nat) (x : Int32) (j k : Nat), fu ≤ n → g_c_6_lastAtLeast_L n f v fu x j S X R T = (g_m_lastAtLeast_L n f v fu x k M).1 := by
  intro fu
  induction fu with
  | zero => intro x j k _; rfl
  | succ fu ih =>
    intro x j k h
    rw [g_m_lastAtLeast_L, g_c_6_lastAtLeast_L, hV fu (by omega)]
    by_cases e : tva T fu < v
    · rw [if_pos e, if_pos e]; exact ih _ _ _ (by omega)
    · rw [if_neg e, if_neg e]
theorem e_lastAtLeast (h : Rel n T (M.2 0)) (hO : mOK n M) (hf : f < n) : g_c_6_lastAtLeast n f v S X R T = (g_m_lastAtLeast n f v M).1 := by
  obtain ⟨hG, hV, -⟩ := qst h hO
  have e1 : (g_m_value n f (sI 15 (0) M)).1 = tva T f := hV f hf
  rw [g_c_6_lastAtLeast, g_m_lastAtLeast, e1, g_c_6_lastAtLeast_L]
  by_cases e : tva T f < v
  · rw [if_pos e, if_pos e, Int32.sub_eq_add_neg]; exact q_lal hV _ _ _ _ (by omega)
  · rw [if_neg e, if_neg e]
theorem q_lrun (hV : ∀ i, i < n → g_m_valueG n i M = tva T i) : ∀ (fu : Nat) (x c : Int32) (i : Nat), i + fu ≤ n → g_c_6_longestRun_L n v fu x c i S X R T = (g_m_longestRun_L n v fu x c i M).1 := by
  intro fu
  induction fu with
  | zero => intro x c i _; rfl
  | succ fu ih =>
    intro x c i h
    rw [g_m_longestRun_L, g_c_6_longestRun_L, hV i (by omega)]
    by_cases e : tva T i = v
    · rw [if_pos e, if_pos e]; exact ih _ _ _ (by omega)
    · rw [if_neg e, if_neg e]; exact ih _ _ _ (by omega)
theorem e_longestRun (h : Rel n T (M.2 0)) (hO : mOK n M) : g_c_6_longestRun n v S X R T = (g_m_longestRun n v M).1 := by
  obtain ⟨hG, hV, -⟩ := qst h hO
  have h1 := h.1.1.1
  have e1 : (g_m_value n 0 (sI 15 (0) M)).1 = tva T 0 := hV 0 (by omega)
  obtain ⟨m, rfl⟩ : ∃ m, n = m + 1 := ⟨n - 1, by omega⟩
  rw [g_c_6_longestRun, g_m_longestRun, e1, g_c_6_longestRun_L, Nat.add_sub_cancel]
  by_cases e : tva T 0 = v
  · rw [if_pos e, if_pos e, Int32.zero_add]; exact q_lrun hV _ _ _ _ (by omega)
  · rw [if_neg e, if_neg e]; exact q_lrun hV _ _ _ _ (by omega)
theorem q_occ (hV : ∀ i, i < n → g_m_valueG n i M = tva T i) : ∀ (fu : Nat) (c : Int32) (i : Nat), i + fu ≤ n → g_c_6_occurrence_L n v p fu c i S X R T = (g_m_occurrence_L n v p fu c i M).1 := by
  intro fu
  induction fu with
  | zero => intro c i _; rfl
  | succ fu ih =>
    intro c i h
    rw [g_m_occurrence_L, g_c_6_occurrence_L, hV i (by omega)]
    by_cases e : tva T i = v
    · rw [if_pos e, if_pos e]
      by_cases e2 : c = p
      · rw [if_pos e2, if_pos e2]
      · rw [if_neg e2, if_neg e2]; exact ih _ _ (by omega)
    · rw [if_neg e, if_neg e]; exact ih _ _ (by omega)
theorem e_occurrence (h : Rel n T (M.2 0)) (hO : mOK n M) : g_c_6_occurrence n v p S X R T = (g_m_occurrence n v p M).1 := by
  obtain ⟨hG, hV, -⟩ := qst h hO
  have h1 := h.1.1.1
  have e1 : (g_m_value n 0 (sI 15 (0) M)).1 = tva T 0 := hV 0 (by omega)
  obtain ⟨m, rfl⟩ : ∃ m, n = m + 1 := ⟨n - 1, by omega⟩
  rw [g_c_6_occurrence, g_m_occurrence, e1, g_c_6_occurrence_L, Nat.add_sub_cancel]
  by_cases e : tva T 0 = v
  · rw [if_pos e, if_pos e]
    by_cases e2 : (0 : Int32) = p
    · rw [if_pos e2, if_pos e2]
      rfl
    · rw [if_neg e2, if_neg e2, Int32.zero_add]; exact q_occ hV _ _ _ (by omega)
  · rw [if_neg e, if_neg e]; exact q_occ hV _ _ _ (by omega)
theorem q_pre (hV : ∀ i, i < n → g_m_valueG n i M = tva T i) : ∀ (fu : Nat) (x : Int64) (i : Nat), i + fu ≤ n → g_c_6_prefixAtLeast_L n q fu x i S X R T = (g_m_prefixAtLeast_L n q fu x i M).1 := by
  intro fu
  induction fu with
  | zero => intro x i _; rfl
  | succ fu ih =>
    intro x i h
    rw [g_m_prefixAtLeast_L, g_c_6_prefixAtLeast_L, hV i (by omega)]
    by_cases e : x + (tva T i).toInt64 < q
    · rw [if_pos e, if_pos e]; exact ih _ _ (by omega)
    · rw [if_neg e, if_neg e]
theorem e_prefixAtLeast (h : Rel n T (M.2 0)) (hO : mOK n M) : g_c_6_prefixAtLeast n q S X R T = (g_m_prefixAtLeast n q M).1 := by
  obtain ⟨hG, hV, -⟩ := qst h hO
  have h1 := h.1.1.1
  have e1 : (g_m_value n 0 (sI 15 (0) M)).1 = tva T 0 := hV 0 (by omega)
  obtain ⟨m, rfl⟩ : ∃ m, n = m + 1 := ⟨n - 1, by omega⟩
  rw [g_c_6_prefixAtLeast, g_m_prefixAtLeast, e1, g_c_6_prefixAtLeast_L, Nat.add_sub_cancel]
  by_cases e : 0 + (tva T 0).toInt64 < q
  · rw [if_pos e, if_pos e]; exact q_pre hV _ _ _ (by omega)
  · rw [if_neg e, if_neg e]; rfl
theorem q_dis (hG : mGr n M) (hV : ∀ i, i < n → g_m_valueG n i M = tva T i) (hft : a ≤ b) (ht : b < n) : ∀ (fu c i : Nat), i + fu ≤ n → g_c_6_distinctCount_L n a b fu i (nI c) S X R T = nI (g_m_distinctCount_L n a b fu c i M).1 := by
  intro fu
  induction fu with
  | zero => intro c i _; rfl
  | succ fu ih =>
    intro c i h
    rw [g_m_distinctCount_L, g_c_6_distinctCount_L, hV i (by omega), w_first hG hV hft ht]
    by_cases e : (g_m_firstOf n a b (tva T i) M).1 = nI i
    · rw [if_pos e, if_pos e, nI_1]; exact ih _ _ (by omega)
    · rw [if_neg e, if_neg e]; exact ih _ _ (by omega)
theorem e_distinctCount (h : Rel n T (M.2 0)) (hO : mOK n M) (hft : a ≤ b) (ht : b < n) : g_c_6_distinctCount n a b S X R T = nI (g_m_distinctCount n a b M).1 := by
  obtain ⟨hG, hV, -⟩ := qst h hO
  have e1 : (g_m_value n a (sI 15 (0) M)).1 = tva T a := hV a (by omega)
  rw [g_c_6_distinctCount, g_m_distinctCount, e1, show b + 1 - a = (b - a) + 1 by omega, g_c_6_distinctCount_L, w_first hG hV hft ht]
  by_cases e : (g_m_firstOf n a b (tva T a) (g_m_grows n (sI 15 0 M))).1 = nI a
  · rw [if_pos e, if_pos e]; exact q_dis hG hV hft ht _ 1 _ (by omega)
  · rw [if_neg e, if_neg e]; exact q_dis hG hV hft ht _ 0 _ (by omega)
theorem e_element (h : Rel n T (M.2 0)) (hO : mOK n M) (hf : f < n) : g_c_6_element n f S X R T = (g_m_element n f M).1 := by
  obtain ⟨hG, hV, -⟩ := qst h hO
  exact (hV f hf).symm
/-! nodes -/
theorem tLeaf_eq (h : Rel n T (M.2 0)) (hf : f < n) : tLeaf T (nI f) = lf n f := by
  have h40 := h.1.1.2
  have hL := h.2.2.1
  have key : ∀ (d k fu : Nat), 1 ≤ k → k < 128 → 128 ≤ k * 2 ^ d → d ≤ fu → (gp n k).1 ≤ f → f < (gp n k).2 → tLeafF T (nI f) fu k = lf n f := by
    intro d
    induction d with
    | zero => intro k fu h1 h2 h3; rw [Nat.pow_zero] at h3; omega
    | succ d ih =>
      intro k fu h1 h2 h3 hfu ha hb
      have h4b : k * 2 ^ (d + 1) = (2 * k) * 2 ^ d := by rw [Nat.pow_succ, Nat.mul_comm (2 ^ d) 2, ← Nat.mul_assoc, Nat.mul_comm k 2]
      have h5b : (2 * k) * 2 ^ d ≤ (2 * k + 1) * 2 ^ d := Nat.mul_le_mul_right _ (by omega)
      obtain ⟨fu', rfl⟩ : ∃ m, fu = m + 1 := ⟨fu - 1, by omega⟩
      rw [tLeafF]
      by_cases c : (gp n k).1 + 2 ≤ (gp n k).2
      · obtain ⟨m, g1, g2, g3, g4, g5⟩ := gpc h40 h1 h2 c
        have h9 := gp_40 n k h40
        have l2 := ((hL (2 * k) (by omega) (by omega)).1 (by rw [g3]; exact g1)).2
        rw [g3] at l2
        simp only at l2
        rw [if_pos ⟨g5, (lay_in hL h40 h1 h2).mpr c⟩, l2]
        by_cases q : f < m
        · rw [if_pos ((nI_leI (by omega) (by omega)).mpr (by omega))]
          exact ih (2 * k) fu' (by omega) (by omega) (by omega) (by omega) (by rw [g3]; exact ha) (by rw [g3]; exact q)
        · rw [if_neg (fun z => by have := (nI_leI (a := f) (b := m - 1) (by omega) (by omega)).mp z; omega)]
          exact ih (2 * k + 1) fu' (by omega) (by omega) (by omega) (by omega) (by rw [g4]; simp only; omega) (by rw [g4]; exact hb)
      · rw [if_neg (fun z => c ((lay_in hL h40 h1 h2).mp z.2)), ← lf_un h40 h2 (show (gp n k).2 = (gp n k).1 + 1 by omega), show (gp n k).1 = f by omega]
  exact key 7 1 128 (by decide) (by decide) (by decide) (by decide) (by rw [gp_1]; exact Nat.zero_le _) (by rw [gp_1]; exact hf)
theorem e_leafOf (h : Rel n T (M.2 0)) (hf : f < n) : nI (g_c_6_leafOf n f S X R T) = (g_m_leafOf n f M).1 := by
  rw [g_c_6_leafOf, tLeaf_eq h hf]
  rfl
theorem lvl_deep {M' : ZS} : ∀ (fu c m : Nat), tLvl fu m c = g_m_deep_L n f fu c m M' := by
  intro fu
  induction fu with
  | zero => intro c m; rfl
  | succ fu ih =>
    intro c m
    rw [tLvl, g_m_deep_L]
    by_cases e : m = 0
    · rw [if_pos e, if_pos (by omega)]
    · rw [if_neg e, if_neg (by omega)]; exact ih _ _
theorem q_depth (h : Rel n T (M.2 0)) {M' : ZS} : ∀ (fu : Nat) (c : Int32) (i : Nat), i + fu ≤ n → g_c_6_depth_L n fu c i S X R T = (g_m_depth_L n fu c i M').1 := by
  intro fu
  induction fu with
  | zero => intro c i _; rfl
  | succ fu ih =>
    intro c i hi
    rw [g_c_6_depth_L, g_m_depth_L, tLeaf_eq h (by omega), g_m_deep, lvl_deep (n := n) (f := i) (M' := M')]
    exact ih _ _ (by omega)
theorem e_depth (h : Rel n T (M.2 0)) : g_c_6_depth n S X R T = (g_m_depth n M).1 := q_depth h n 0 0 (by omega)
theorem mk_eq (h : Rel n T (M.2 0)) {M' : ZS} (e : M'.2 0 = M.2 0) {k : Nat} (h1 : 1 ≤ k) (h2 : k < 128) (hx : (gp n k).1 < (gp n k).2) : g_m_isMarked k M' = decide (¬ tfa T k = 1 ∨ ¬ tog T k = 0) := by
  have hR := (h.2.2.2.1 k h1 h2 hx).1
  have m1 : tfa T k = M.2 0 (44 + k) := hR.1
  have m2 : tog T k = M.2 0 (172 + k) := hR.2
  have g := isMk_iff k M'
  rw [e, ← m1, ← m2] at g
  by_cases c : ¬ tfa T k = 1 ∨ ¬ tog T k = 0
  · rw [g.mpr c, decide_eq_true c]
  · rw [decide_eq_false c]
    exact Bool.eq_false_iff.mpr (fun z => c (g.mp z))
theorem q_above (h : Rel n T (M.2 0)) {M' : ZS} (e : M'.2 0 = M.2 0) : ∀ (fu c m : Nat), m < 2 ^ fu → (m = 0 ∨ (m < 128 ∧ (gp n m).1 < (gp n m).2)) → g_c_6_marksAbove_L n f (fu + 1) m (nI c) S X R T = (g_m_marksAbove_L n f fu c m M').1 := by
  have h40 := h.1.1.2
  intro fu
  induction fu with
  | zero =>
    intro c m hm _
    have : m = 0 := by rw [Nat.pow_zero] at hm; omega
    subst this
    rw [g_c_6_marksAbove_L, if_pos (by decide)]
    rfl
  | succ fu ih =>
    intro c m hm hx
    rw [g_c_6_marksAbove_L, g_m_marksAbove_L]
    by_cases z : m = 0
    · rw [if_pos (by omega), if_pos (by omega)]
    · obtain ⟨x1, x2⟩ := hx.resolve_left z
      have hn : m / 2 = 0 ∨ (m / 2 < 128 ∧ (gp n (m / 2)).1 < (gp n (m / 2)).2) := by
        by_cases y : 2 ≤ m
        · right
          have := gp_par h40 y x1 x2
          exact ⟨by omega, by omega⟩
        · left; omega
      rw [if_neg (show ¬ m < 1 by omega), if_neg (show ¬ m ≤ 0 by omega), mk_eq h e (by omega) x1 x2]
      rw [Nat.pow_succ] at hm
      by_cases y : ¬ tfa T m = 1 ∨ ¬ tog T m = 0
      · rw [decide_eq_true y, if_pos rfl, if_pos rfl, nI_1]
        exact ih _ _ (by omega) hn
      · rw [decide_eq_false y, if_neg (by decide), if_neg (by decide)]
        exact ih _ _ (by omega) hn
theorem e_marksAbove (h : Rel n T (M.2 0)) (hO : mOK n M) (hf : f < n) : g_c_6_marksAbove n f S X R T = (g_m_marksAbove n f M).1 := by
  have h40 := h.1.1.2
  have e : (sI 15 0 (g_m_grows n M)).2 0 = M.2 0 := (mEq_grows (n := n) M h.1.1.1 h40).2 0 (by decide) (by decide) (by decide)
  have hl := lf_gp h40 hf
  rw [g_c_6_marksAbove, g_m_marksAbove, tLeaf_eq h hf]
  refine q_above h e 6 0 _ (by omega) ?_
  by_cases y : 2 ≤ lf n f
  · right
    have := gp_par h40 y hl.2.2 (by rw [hl.1]; exact Nat.lt_succ_self _)
    exact ⟨by omega, by omega⟩
  · left; omega
theorem q_marked (h : Rel n T (M.2 0)) {M' : ZS} (e : M'.2 0 = M.2 0) : ∀ (fu c k : Nat), 1 ≤ k → k + fu = 128 → g_c_6_markedNodes_L n fu (nI c) k S X R T = nI (g_m_markedNodes_L n fu c k M').1 := by
  have h40 := h.1.1.2
  intro fu
  induction fu with
  | zero => intro c k _ _; rfl
  | succ fu ih =>
    intro c k h1 h2
    rw [g_c_6_markedNodes_L, g_m_markedNodes_L, g_m_isNode]
    have h9 := gp_40 n k h40
    by_cases x : (gp n k).1 < (gp n k).2
    · have nz : ¬ nI (gp n k).2 - 1 < nI ((gp n k).1) := by
        have e9 : nI (gp n k).2 - 1 = nI ((gp n k).2 - 1) := pk_sub (a := (gp n k).2) (b := 1) (by omega)
        rw [e9, nI_ltI (by omega) (by omega)]
        omega
      rw [if_neg nz, if_pos rfl, mk_eq h e h1 (by omega) x]
      by_cases y : ¬ tfa T k = 1 ∨ ¬ tog T k = 0
      · rw [decide_eq_true y, if_pos rfl, if_pos rfl, nI_1]
        exact ih _ _ (by omega) (by omega)
      · rw [decide_eq_false y, if_neg (by decide), if_neg (by decide)]
        exact ih _ _ (by omega) (by omega)
    · have nz : nI (gp n k).2 - 1 < nI ((gp n k).1) := by
        have := gp_le n k
        rw [show (gp n k).2 = (gp n k).1 by omega, Int32.lt_iff_toInt_lt, show (1 : Int32) = nI 1 by decide, pk_sub_toInt (by omega) (by decide), nI_toInt (by omega)]
        omega
      have m0 := h.2.2.2.2.1 k h1 (by omega) x
      have y : ¬ (¬ tfa T k = 1 ∨ ¬ tog T k = 0) := fun z => z.elim (fun z => z m0.1) (fun z => z m0.2)
      rw [if_pos nz, decide_eq_false y, if_neg (by decide), if_neg (show ¬ false = true by decide)]
      exact ih _ _ (by omega) (by omega)
theorem e_markedNodes (h : Rel n T (M.2 0)) (hO : mOK n M) : g_c_6_markedNodes n S X R T = nI (g_m_markedNodes n M).1 := by
  have h40 := h.1.1.2
  have e : (g_m_grows n (sI 15 0 M)).2 0 = M.2 0 := (qst h hO).2.2
  have key := q_marked (S := S) (X := X) (R := R) h e 126 0 2 (by decide) (by decide)
  have key1 := q_marked (S := S) (X := X) (R := R) h e 126 1 2 (by decide) (by decide)
  have hx : (gp n 1).1 < (gp n 1).2 := by rw [gp_1]; exact h.1.1.1
  have nz : ¬ nI (gp n 1).2 - 1 < nI ((gp n 1).1) := by
    have e9 : nI (gp n 1).2 - 1 = nI ((gp n 1).2 - 1) := pk_sub (a := (gp n 1).2) (b := 1) (by omega)
    have h9 := gp_40 n 1 h40
    rw [e9, nI_ltI (by omega) (by omega)]
    omega
  rw [g_c_6_markedNodes, g_m_markedNodes, g_m_isNode, if_neg nz, if_pos rfl, mk_eq h e (by decide) (by decide) hx, g_c_6_markedNodes_L]
  by_cases y : ¬ tfa T 1 = 1 ∨ ¬ tog T 1 = 0
  · rw [decide_eq_true y, if_pos rfl, if_pos rfl]
    exact key1
  · rw [decide_eq_false y, if_neg (by decide), if_neg (by decide)]
    exact key
end QF
