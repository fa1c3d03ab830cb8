variable {sc : SC}
/-! ===== questions about elements: both sides' loops ===== -/
theorem zmin_self (a : Int32) : zmin a a = a := by
  unfold zmin
  split
  · rfl
  · rfl
theorem zmax_self (a : Int32) : zmax a a = a := by
  unfold zmax
  split
  · rfl
  · rfl
theorem i_m0 (a b : Int32) : a - b = 0 ↔ a = b := by
  constructor
  · intro h
    have e : a - b + b = a := by rw [Int32.sub_eq_add_neg, Int32.add_assoc, Int32.add_comm (-b) b, ← Int32.sub_eq_add_neg, Int32.sub_self, Int32.add_zero]
    rw [h, Int32.zero_add] at e
    exact e.symm
  · intro h
    rw [h, Int32.sub_self]
section QS
variable {n f t : Nat} {v : Int32} {T : TS} {S X R M : ZS}
theorem q_min (hV : ∀ i, i < n → g_m_valueG n i M = tva T i) : ∀ (fu : Nat) (x : Int32) (i : Nat), i + fu ≤ n → (g_m_leastOf_L n f t fu x i M).1 = tMinF (tva T) fu i x := by
  intro fu
  induction fu with
  | zero => intro x i _; rfl
  | succ fu ih =>
    intro x i h
    rw [g_m_leastOf_L, hV i (by omega)]
    exact ih _ _ (by omega)
theorem q_max (hV : ∀ i, i < n → g_m_valueG n i M = tva T i) : ∀ (fu : Nat) (x : Int32) (i : Nat), i + fu ≤ n → (g_m_greatestOf_L n f t fu x i M).1 = tMaxF (tva T) fu i x := by
  intro fu
  induction fu with
  | zero => intro x i _; rfl
  | succ fu ih =>
    intro x i h
    rw [g_m_greatestOf_L, hV i (by omega)]
    exact ih _ _ (by omega)
theorem q_many (hV : ∀ i, i < n → g_m_valueG n i M = tva T i) : ∀ (fu c i : Nat), i + fu ≤ n → g_c_6_countOf_L f t v fu i (nI c) S X R T = nI (g_m_many_L n f t v fu c i M).1 := by
  intro fu
  induction fu with
  | zero => intro c i _; rfl
  | succ fu ih =>
    intro c i h
    rw [g_m_many_L, g_c_6_countOf_L, hV i (by omega)]
    by_cases e : tva T i = v
    · rw [if_pos e, if_pos e, nI_1]
      exact ih _ _ (by omega)
    · rw [if_neg e, if_neg e]
      exact ih _ _ (by omega)
theorem q_first (hV : ∀ i, i < n → g_m_valueG n i M = tva T i) : ∀ (fu i : Nat), i + fu ≤ n → g_c_6_firstWith_L f t v fu i S X R T = (g_m_firstOf_L n f t v fu i M).1 := by
  intro fu
  induction fu with
  | zero => intro i _; rfl
  | succ fu ih =>
    intro i h
    rw [g_m_firstOf_L, g_c_6_firstWith_L, hV i (by omega)]
    by_cases e : tva T i = v
    · rw [if_pos e, if_pos e]
    · rw [if_neg e, if_neg e]
      exact ih _ (by omega)
theorem q_sum (hV : ∀ i, i < n → g_m_valueG n i M = tva T i) : ∀ (fu i : Nat) (x : Int64), i + fu ≤ n → g_c_6_totalOf_L f t fu i x S X R T = (g_m_sumOf_L n f t fu x i M).1 := by
  intro fu
  induction fu with
  | zero => intro i x _; rfl
  | succ fu ih =>
    intro i x h
    rw [g_m_sumOf_L, g_c_6_totalOf_L, hV i (by omega)]
    exact ih _ _ (by omega)
/-- the reference's own words, over a grown state -/
theorem w_least (hG : mGr n M) (hV : ∀ i, i < n → g_m_valueG n i M = tva T i) (hft : f ≤ t) (ht : t < n) : (g_m_leastOf n f t M).1 = tMinF (tva T) (t - f) (f + 1) (tva T f) := by
  have e : (g_m_value n f M).1 = tva T f := by
    show g_m_valueG n f (g_m_grows n M) = _
    rw [hG.grows]; exact hV f (by omega)
  rw [g_m_leastOf, e, hG.grows, q_min hV _ _ _ (by omega), show t + 1 - f = (t - f) + 1 by omega]
  show tMinF (tva T) (t - f) (f + 1) (zmin (tva T f) (tva T f)) = _
  rw [zmin_self]
theorem w_greatest (hG : mGr n M) (hV : ∀ i, i < n → g_m_valueG n i M = tva T i) (hft : f ≤ t) (ht : t < n) : (g_m_greatestOf n f t M).1 = tMaxF (tva T) (t - f) (f + 1) (tva T f) := by
  have e : (g_m_value n f M).1 = tva T f := by
    show g_m_valueG n f (g_m_grows n M) = _
    rw [hG.grows]; exact hV f (by omega)
  rw [g_m_greatestOf, e, hG.grows, q_max hV _ _ _ (by omega), show t + 1 - f = (t - f) + 1 by omega]
  show tMaxF (tva T) (t - f) (f + 1) (zmax (tva T f) (tva T f)) = _
  rw [zmax_self]
theorem w_val (hG : mGr n M) (hV : ∀ i, i < n → g_m_valueG n i M = tva T i) {i : Nat} (hi : i < n) : (g_m_value n i M).1 = tva T i := by
  show g_m_valueG n i (g_m_grows n M) = _
  rw [hG.grows]; exact hV i hi
theorem w_many (hG : mGr n M) (hV : ∀ i, i < n → g_m_valueG n i M = tva T i) (hft : f ≤ t) (ht : t < n) : g_c_6_countOf f t v S X R T = nI (g_m_many n f t v M).1 := by
  rw [g_c_6_countOf, show t + 1 - f = (t - f) + 1 by omega, g_c_6_countOf_L, g_m_many, w_val hG hV (by omega), hG.grows]
  by_cases e : tva T f = v
  · rw [if_pos e, if_pos e]
    exact q_many hV _ 1 _ (by omega)
  · rw [if_neg e, if_neg e]
    exact q_many hV _ 0 _ (by omega)
theorem w_first (hG : mGr n M) (hV : ∀ i, i < n → g_m_valueG n i M = tva T i) (hft : f ≤ t) (ht : t < n) : g_c_6_firstWith f t v S X R T = (g_m_firstOf n f t v M).1 := by
  rw [g_c_6_firstWith, show t + 1 - f = (t - f) + 1 by omega, g_c_6_firstWith_L, g_m_firstOf, w_val hG hV (by omega), hG.grows]
  by_cases e : tva T f = v
  · rw [if_pos e, if_pos e]
  · rw [if_neg e, if_neg e]
    exact q_first hV _ _ (by omega)
theorem w_sum (hG : mGr n M) (hV : ∀ i, i < n → g_m_valueG n i M = tva T i) (hft : f ≤ t) (ht : t < n) : g_c_6_totalOf f t S X R T = (g_m_sumOf n f t M).1 := by
  rw [g_c_6_totalOf, show t + 1 - f = (t - f) + 1 by omega, g_c_6_totalOf_L, g_m_sumOf, w_val hG hV (by omega), hG.grows]
  exact q_sum hV _ _ _ (by omega)
end QS
/-- what a question finds: a row that stands to the tree, thrown cleared, the geometry grown -/
theorem qst {n : Nat} {T : TS} {M : ZS} (h : Rel n T (M.2 0)) (hO : mOK n M) : mGr n (g_m_grows n (sI 15 0 M)) ∧ (∀ i, i < n → g_m_valueG n i (g_m_grows n (sI 15 0 M)) = tva T i) ∧ (g_m_grows n (sI 15 0 M)).2 0 = M.2 0 := by
  have h1 := h.1.1.1
  have h40 := h.1.1.2
  have e : (g_m_grows n (sI 15 0 M)).2 0 = M.2 0 := (mEq_grows (n := n) (sI 15 0 M) h1 h40).2 0 (by decide) (by decide) (by decide)
  refine ⟨mGr_of h1 h40 (hO.sI (by decide)), fun i hi => ?_, e⟩
  rw [valG_el h40 hi, e]
  exact (h.2.2.2.2.2 i hi).symm
noncomputable abbrev qM (n : Nat) (M : ZS) : ZS := g_m_grows n (sI 15 0 M)
section QG
variable {n f t : Nat} {v : Int32} {S : ZS}
theorem gf_sum (h : g_m_grows n (g_m_grows n S) = g_m_grows n S) : (g_m_sumOf n f t S).1 = (g_m_sumOf n f t (g_m_grows n S)).1 := by
  show (g_m_sumOf_L n f t (t - f) (0 + ((g_m_valueG n f (g_m_grows n S)).toInt64)) (f + 1) (g_m_grows n S)).1 = (g_m_sumOf_L n f t (t - f) (0 + ((g_m_valueG n f (g_m_grows n (g_m_grows n S))).toInt64)) (f + 1) (g_m_grows n (g_m_grows n S))).1
  rw [h]
theorem gf_least (h : g_m_grows n (g_m_grows n S) = g_m_grows n S) : (g_m_leastOf n f t S).1 = (g_m_leastOf n f t (g_m_grows n S)).1 := by
  show (g_m_leastOf_L n f t (t + 1 - f) (g_m_valueG n f (g_m_grows n S)) f (g_m_grows n S)).1 = (g_m_leastOf_L n f t (t + 1 - f) (g_m_valueG n f (g_m_grows n (g_m_grows n S))) f (g_m_grows n (g_m_grows n S))).1
  rw [h]
theorem gf_greatest (h : g_m_grows n (g_m_grows n S) = g_m_grows n S) : (g_m_greatestOf n f t S).1 = (g_m_greatestOf n f t (g_m_grows n S)).1 := by
  show (g_m_greatestOf_L n f t (t + 1 - f) (g_m_valueG n f (g_m_grows n S)) f (g_m_grows n S)).1 = (g_m_greatestOf_L n f t (t + 1 - f) (g_m_valueG n f (g_m_grows n (g_m_grows n S))) f (g_m_grows n (g_m_grows n S))).1
  rw [h]
end QG
section QE
variable {n a b : Nat} {v : Int32} {T : TS} {S X R M : ZS}
theorem e_sum (h : Rel n T (M.2 0)) (hO : mOK n M) (hft : a ≤ b) (ht : b < n) : g_c_6_sum n a b S X R T = (g_m_sum n a b M).1 := by
  obtain ⟨hG, hV, -⟩ := qst h hO
  rw [g_c_6_sum, w_sum hG hV hft ht, g_m_sum, gf_sum hG.grows]
theorem e_least (h : Rel n T (M.2 0)) (hO : mOK n M) (hft : a ≤ b) (ht : b < n) : g_c_6_least n a b S X R T = (g_m_least n a b M).1 := by
  obtain ⟨hG, hV, -⟩ := qst h hO
  rw [g_c_6_least, g_m_least, gf_least hG.grows, w_least hG hV hft ht]
theorem e_greatest (h : Rel n T (M.2 0)) (hO : mOK n M) (hft : a ≤ b) (ht : b < n) : g_c_6_greatest n a b S X R T = (g_m_greatest n a b M).1 := by
  obtain ⟨hG, hV, -⟩ := qst h hO
  rw [g_c_6_greatest, g_m_greatest, gf_greatest hG.grows, w_greatest hG hV hft ht]
theorem e_firstLeast (h : Rel n T (M.2 0)) (hO : mOK n M) (hft : a ≤ b) (ht : b < n) : g_c_6_firstLeast n a b S X R T = (g_m_firstLeast n a b M).1 := by
  obtain ⟨hG, hV, -⟩ := qst h hO
  rw [g_c_6_firstLeast, g_m_firstLeast, gf_least hG.grows, w_least hG hV hft ht, w_first hG hV hft ht]
theorem e_firstGreatest (h : Rel n T (M.2 0)) (hO : mOK n M) (hft : a ≤ b) (ht : b < n) : g_c_6_firstGreatest n a b S X R T = (g_m_firstGreatest n a b M).1 := by
  obtain ⟨hG, hV, -⟩ := qst h hO
  rw [g_c_6_firstGreatest, g_m_firstGreatest, gf_greatest hG.grows, w_greatest hG hV hft ht, w_first hG hV hft ht]
theorem e_leastCount (h : Rel n T (M.2 0)) (hO : mOK n M) (hft : a ≤ b) (ht : b < n) : g_c_6_leastCount n a b S X R T = nI (g_m_leastCount n a b M).1 := by
  obtain ⟨hG, hV, -⟩ := qst h hO
  rw [g_c_6_leastCount, g_m_leastCount, gf_least hG.grows, w_least hG hV hft ht, w_many hG hV hft ht]
theorem e_greatestCount (h : Rel n T (M.2 0)) (hO : mOK n M) (hft : a ≤ b) (ht : b < n) : g_c_6_greatestCount n a b S X R T = nI (g_m_greatestCount n a b M).1 := by
  obtain ⟨hG, hV, -⟩ := qst h hO
  rw [g_c_6_greatestCount, g_m_greatestCount, gf_greatest hG.grows, w_greatest hG hV hft ht, w_many hG hV hft ht]
theorem e_mean (h : Rel n T (M.2 0)) (hO : mOK n M) (hft : a ≤ b) (ht : b < n) : g_c_6_mean n a b S X R T = (g_m_mean n a b M).1 := by
  obtain ⟨hG, hV, -⟩ := qst h hO
  rw [g_c_6_mean, g_m_mean, gf_sum hG.grows, w_sum hG hV hft ht]
theorem e_greatestShare (h : Rel n T (M.2 0)) (hO : mOK n M) (hft : a ≤ b) (ht : b < n) : g_c_6_greatestShare n a b S X R T = (g_m_greatestShare n a b M).1 := by
  obtain ⟨hG, hV, -⟩ := qst h hO
  rw [g_c_6_greatestShare, g_m_greatestShare, gf_greatest hG.grows, w_greatest hG hV hft ht, w_many hG hV hft ht]
theorem e_greatestAddition (h : Rel n T (M.2 0)) (hO : mOK n M) (hft : a ≤ b) (ht : b < n) : g_c_6_greatestAddition n a b S X R T = (g_m_greatestAddition n a b M).1 := by
  obtain ⟨hG, hV, -⟩ := qst h hO
  rw [g_c_6_greatestAddition, g_m_greatestAddition, gf_greatest hG.grows, w_greatest hG hV hft ht]
theorem e_totalIfAssigned (h : Rel n T (M.2 0)) (hO : mOK n M) (hft : a ≤ b) (ht : b < n) : g_c_6_totalIfAssigned n a b v S X R T = (g_m_totalIfAssigned n a b v M).1 := by
  obtain ⟨hG, hV, -⟩ := qst h hO
  rw [g_c_6_totalIfAssigned, g_m_totalIfAssigned, gf_sum hG.grows, w_sum hG hV hft ht, w_sum hG hV (Nat.zero_le _) (by omega)]
theorem el_bd (h : Rel n T (M.2 0)) {i : Nat} (hi : i < n) : bd (tva T i) := by
  rw [h.2.2.2.2.2 i hi]
  exact (h.2.2.2.1 1 (by decide) (by decide) (by rw [gp_1]; exact h.1.1.1)).2.2.1 i (by rw [gp_1]; exact Nat.zero_le _) (by rw [gp_1]; exact hi)
theorem min_bd {w : Nat → Int32} (hb : ∀ i, i < n → bd (w i)) : ∀ (fu i : Nat) (x : Int32), i + fu ≤ n → bd x → bd (tMinF w fu i x) ∧ (tMinF w fu i x).toInt ≤ x.toInt := by
  intro fu
  induction fu with
  | zero => intro i x _ hx; exact ⟨hx, Int.le_refl _⟩
  | succ fu ih =>
    intro i x hi hx
    show bd (tMinF w fu (i + 1) (zmin x (w i))) ∧ (tMinF w fu (i + 1) (zmin x (w i))).toInt ≤ x.toInt
    rcases zmin_or x (w i) with ⟨q1, q2⟩ | ⟨q1, q2⟩
    · rw [q1]; exact ih (i + 1) x (by omega) hx
    · rw [q1]
      have := ih (i + 1) (w i) (by omega) (hb i (by omega))
      exact ⟨this.1, by omega⟩
theorem max_bd {w : Nat → Int32} (hb : ∀ i, i < n → bd (w i)) : ∀ (fu i : Nat) (x : Int32), i + fu ≤ n → bd x → bd (tMaxF w fu i x) ∧ x.toInt ≤ (tMaxF w fu i x).toInt := by
  intro fu
  induction fu with
  | zero => intro i x _ hx; exact ⟨hx, Int.le_refl _⟩
  | succ fu ih =>
    intro i x hi hx
    show bd (tMaxF w fu (i + 1) (zmax x (w i))) ∧ x.toInt ≤ (tMaxF w fu (i + 1) (zmax x (w i))).toInt
    rcases zmax_or x (w i) with ⟨q1, q2⟩ | ⟨q1, q2⟩
    · rw [q1]; exact ih (i + 1) x (by omega) hx
    · rw [q1]
      have := ih (i + 1) (w i) (by omega) (hb i (by omega))
      exact ⟨this.1, by omega⟩
theorem w_fits (h : Rel n T (M.2 0)) (hft : a ≤ b) (ht : b < n) (hv : -9999 ≤ v ∧ v ≤ 9999) (S' : ZS) (hG : mGr n (g_m_grows n S')) (hV : ∀ i, i < n → g_m_valueG n i (g_m_grows n S') = tva T i) : (g_m_fits n a b v S').1 = decide (tCan T a b v) := by
  have hb : ∀ i, i < n → bd (tva T i) := fun i hi => el_bd h hi
  have e1 : (g_m_leastOf n a b S').1 = tMinF (tva T) (b - a) (a + 1) (tva T a) := by
    rw [gf_least hG.grows]
    exact w_least hG hV hft ht
  have e2 : (g_m_greatestOf n a b (g_m_grows n S')).1 = tMaxF (tva T) (b - a) (a + 1) (tva T a) := w_greatest hG hV hft ht
  obtain ⟨⟨b1, b2⟩, b3⟩ := min_bd hb (b - a) (a + 1) (tva T a) (by omega) (hb a (by omega))
  obtain ⟨⟨c1, c2⟩, c3⟩ := max_bd hb (b - a) (a + 1) (tva T a) (by omega) (hb a (by omega))
  obtain ⟨v1, v2⟩ := hv
  rw [Int32.le_iff_toInt_le] at v1 v2
  have n1 : (-9999 : Int32).toInt = -9999 := by decide
  have n2 : (9999 : Int32).toInt = 9999 := by decide
  have n3 : (-1000000 : Int32).toInt = -1000000 := by decide
  have n4 : (1000000 : Int32).toInt = 1000000 := by decide
  rw [n1] at v1
  rw [n2] at v2
  have k1 := i_add (a := tMinF (tva T) (b - a) (a + 1) (tva T a)) (b := v) ⟨by omega, by omega⟩ ⟨by omega, by omega⟩
  have k2 := i_add (a := tMaxF (tva T) (b - a) (a + 1) (tva T a)) (b := v) ⟨by omega, by omega⟩ ⟨by omega, by omega⟩
  rw [g_m_fits, e1, e2]
  by_cases d1 : tMinF (tva T) (b - a) (a + 1) (tva T a) + v < (-1000000)
  · rw [if_pos d1]
    refine (decide_eq_false (fun z => ?_)).symm
    have z1 := z.1.1
    rw [Int32.lt_iff_toInt_lt] at d1
    rw [Int32.le_iff_toInt_le] at z1
    omega
  · rw [if_neg d1]
    by_cases d2 : 1000000 < tMaxF (tva T) (b - a) (a + 1) (tva T a) + v
    · rw [if_pos d2]
      refine (decide_eq_false (fun z => ?_)).symm
      have z1 := z.2.2
      rw [Int32.lt_iff_toInt_lt] at d2
      rw [Int32.le_iff_toInt_le] at z1
      omega
    · rw [if_neg d2]
      rw [Int32.lt_iff_toInt_lt] at d1 d2
      refine (decide_eq_true ⟨⟨?_, ?_⟩, ⟨?_, ?_⟩⟩).symm <;> rw [Int32.le_iff_toInt_le] <;> omega
theorem e_canAdd (h : Rel n T (M.2 0)) (hO : mOK n M) (hft : a ≤ b) (ht : b < n) (hv : -9999 ≤ v ∧ v ≤ 9999) : g_c_6_canAdd n a b v S X R T = (g_m_canAdd n a b v M).1 := by
  rw [g_c_6_canAdd, g_m_canAdd, w_fits h hft ht hv (sI 15 0 M) (qst h hO).1 (qst h hO).2.1]
  by_cases c : tCan T a b v
  · rw [decide_eq_true c, if_pos rfl]
  · rw [decide_eq_false c, if_neg (by decide)]
/-! runs and order -/
theorem q_run (hV : ∀ i, i < n → g_m_valueG n i M = tva T i) : ∀ (fu c i : Nat), i + fu < n → g_c_6_runCount_L n a b fu (i + 1) (nI c) S X R T = nI (g_m_runCount_L n a b fu c i M).1 := by
  intro fu
  induction fu with
  | zero => intro c i _; rfl
  | succ fu ih =>
    intro c i h
    rw [g_m_runCount_L, g_c_6_runCount_L, hV i (by omega), hV (i + 1) (by omega), g_c_6_stepTo, Nat.add_sub_cancel]
    by_cases e : tva T i = tva T (i + 1)
    · rw [if_pos e, if_pos ((i_m0 _ _).mpr e.symm)]
      exact ih _ _ (by omega)
    · rw [if_neg e, if_neg (fun z => e ((i_m0 _ _).mp z).symm), nI_1]
      exact ih _ _ (by omega)
theorem e_runCount (h : Rel n T (M.2 0)) (hO : mOK n M) (hft : a ≤ b) (ht : b < n) : g_c_6_runCount n a b S X R T = nI (g_m_runCount n a b M).1 := by
  obtain ⟨hG, hV, -⟩ := qst h hO
  rw [g_c_6_runCount, g_m_runCount]
  by_cases c : b ≤ a
  · rw [if_pos c, show b - a = 0 by omega]
    rfl
  · have e1 : (g_m_value n a (sI 15 (0) M)).1 = tva T a := hV a (by omega)
    rw [if_neg c, e1, hV (a + 1) (by omega), show b - a = (b - (a + 1)) + 1 by omega, g_c_6_runCount_L, g_c_6_stepTo, Nat.add_sub_cancel]
    by_cases e : tva T a = tva T (a + 1)
    · rw [if_pos e, if_pos ((i_m0 _ _).mpr e.symm)]
      exact q_run hV _ 1 _ (by omega)
    · rw [if_neg e, if_neg (fun z => e ((i_m0 _ _).mp z).symm)]
      exact q_run hV _ 2 _ (by omega)
theorem dif_bd {x y : Int32} (hx : bd x) (hy : bd y) : (x - y).toInt = x.toInt - y.toInt ∧ sml (x - y) := by
  obtain ⟨a1, a2⟩ := hx
  obtain ⟨c1, c2⟩ := hy
  have e := i_sub (a := x) (b := y) ⟨by omega, by omega⟩ ⟨by omega, by omega⟩
  exact ⟨e, ⟨by omega, by omega⟩⟩
theorem neg_le {x : Int32} (h : sml x) : 0 ≤ -1 * x ↔ x ≤ 0 := by
  obtain ⟨a1, a2⟩ := h
  have e : (0 : Int32).toInt = 0 := by decide
  rw [i_m1, Int32.le_iff_toInt_le, Int32.le_iff_toInt_le, i_neg ⟨by omega, by omega⟩, e]
  omega
theorem q_asc (hV : ∀ i, i < n → g_m_valueG n i M = tva T i) : ∀ (fu i : Nat), i + fu < n → g_c_6_isAscending_L n a b fu (i + 1) S X R T = (g_m_goesOn_L n a b 1 fu i M).1 := by
  intro fu
  induction fu with
  | zero => intro i _; rfl
  | succ fu ih =>
    intro i h
    rw [g_m_goesOn_L, g_c_6_isAscending_L, hV i (by omega), hV (i + 1) (by omega), g_c_6_stepTo, Nat.add_sub_cancel, Int32.one_mul]
    by_cases e : 0 ≤ tva T (i + 1) - tva T i
    · rw [if_pos e, if_pos e]
      exact ih _ (by omega)
    · rw [if_neg e, if_neg e]
theorem q_desc (hV : ∀ i, i < n → g_m_valueG n i M = tva T i) (hb : ∀ i, i < n → bd (tva T i)) : ∀ (fu i : Nat), i + fu < n → g_c_6_isDescending_L n a b fu (i + 1) S X R T = (g_m_goesOn_L n a b (-1) fu i M).1 := by
  intro fu
  induction fu with
  | zero => intro i _; rfl
  | succ fu ih =>
    intro i h
    have hd := neg_le (dif_bd (hb (i + 1) (by omega)) (hb i (by omega))).2
    rw [g_m_goesOn_L, g_c_6_isDescending_L, hV i (by omega), hV (i + 1) (by omega), g_c_6_stepTo, Nat.add_sub_cancel]
    by_cases e : tva T (i + 1) - tva T i ≤ 0
    · rw [if_pos e, if_pos (hd.mpr e)]
      exact ih _ (by omega)
    · rw [if_neg e, if_neg (fun z => e (hd.mp z))]
theorem e_isAscending (h : Rel n T (M.2 0)) (hO : mOK n M) (hft : a ≤ b) (ht : b < n) : g_c_6_isAscending n a b S X R T = (g_m_isAscending n a b M).1 := by
  obtain ⟨hG, hV, -⟩ := qst h hO
  have key : g_c_6_isAscending n a b S X R T = (g_m_goesOn n a b 1 (sI 15 0 M)).1 := by
    rw [g_c_6_isAscending, g_m_goesOn]
    by_cases c : b ≤ a
    · rw [if_pos c, show b - a = 0 by omega]
      rfl
    · have e1 : (g_m_value n (a + 1) (sI 15 (0) M)).1 = tva T (a + 1) := hV (a + 1) (by omega)
      rw [if_neg c, e1, hV a (by omega), show b - a = (b - (a + 1)) + 1 by omega, g_c_6_isAscending_L, g_c_6_stepTo, Nat.add_sub_cancel, Int32.one_mul]
      by_cases e : 0 ≤ tva T (a + 1) - tva T a
      · rw [if_pos e, if_pos e]
        exact q_asc hV _ _ (by omega)
      · rw [if_neg e, if_neg e]
  rw [key, g_m_isAscending]
  by_cases c : (g_m_goesOn n a b 1 (sI 15 0 M)).1 = true
  · rw [if_pos c, c]
  · rw [if_neg c]
    exact Bool.eq_false_iff.mpr c
theorem e_isDescending (h : Rel n T (M.2 0)) (hO : mOK n M) (hft : a ≤ b) (ht : b < n) : g_c_6_isDescending n a b S X R T = (g_m_isDescending n a b M).1 := by
  obtain ⟨hG, hV, -⟩ := qst h hO
  have hb : ∀ i, i < n → bd (tva T i) := fun i hi => el_bd h hi
  have key : g_c_6_isDescending n a b S X R T = (g_m_goesOn n a b (-1) (sI 15 0 M)).1 := by
    rw [g_c_6_isDescending, g_m_goesOn]
    by_cases c : b ≤ a
    · rw [if_pos c, show b - a = 0 by omega]
      rfl
    · have e1 : (g_m_value n (a + 1) (sI 15 (0) M)).1 = tva T (a + 1) := hV (a + 1) (by omega)
      have hd := neg_le (dif_bd (hb (a + 1) (by omega)) (hb a (by omega))).2
      rw [if_neg c, e1, hV a (by omega), show b - a = (b - (a + 1)) + 1 by omega, g_c_6_isDescending_L, g_c_6_stepTo, Nat.add_sub_cancel]
      by_cases e : tva T (a + 1) - tva T a ≤ 0
      · rw [if_pos e, if_pos (hd.mpr e)]
        exact q_desc hV hb _ _ (by omega)
      · rw [if_neg e, if_neg (fun z => e (hd.mp z))]
  rw [key, g_m_isDescending]
  by_cases c : (g_m_goesOn n a b (-1) (sI 15 0 M)).1 = true
  · rw [if_pos c, c]
  · rw [if_neg c]
    exact Bool.eq_false_iff.mpr c
theorem zabs_if (x : Int32) : zabs x = if 0 ≤ x then x else -x := by
  unfold zabs
  by_cases c : 0 ≤ x
  · rw [if_pos c, if_pos c]
  · rw [if_neg c, if_neg c, Int32.sub_eq_add_neg, Int32.zero_add]
theorem q_steep (hV : ∀ i, i < n → g_m_valueG n i M = tva T i) : ∀ (fu : Nat) (c : Int32) (i : Nat), i + fu < n → g_c_6_steepestStep_L n a b fu (i + 1) c S X R T = (g_m_steepestStep_L n a b fu c i M).1 := by
  intro fu
  induction fu with
  | zero => intro c i _; rfl
  | succ fu ih =>
    intro c i h
    rw [g_m_steepestStep_L, g_c_6_steepestStep_L, hV i (by omega), hV (i + 1) (by omega), g_c_6_stepTo, Nat.add_sub_cancel, zabs_if]
    by_cases e : 0 ≤ tva T (i + 1) - tva T i
    · rw [if_pos e, if_pos e]
      exact ih _ _ (by omega)
    · rw [if_neg e, if_neg e]
      exact ih _ _ (by omega)
theorem e_steepestStep (h : Rel n T (M.2 0)) (hO : mOK n M) (hft : a ≤ b) (ht : b < n) : g_c_6_steepestStep n a b S X R T = (g_m_steepestStep n a b M).1 := by
  obtain ⟨hG, hV, -⟩ := qst h hO
  rw [g_c_6_steepestStep, g_m_steepestStep]
  by_cases c : b ≤ a
  · rw [if_pos c, show b - a = 0 by omega]
    rfl
  · have e1 : (g_m_value n (a + 1) (sI 15 (0) M)).1 = tva T (a + 1) := hV (a + 1) (by omega)
    rw [if_neg c, e1, hV a (by omega), show b - a = (b - (a + 1)) + 1 by omega, g_c_6_steepestStep_L, g_c_6_stepTo, Nat.add_sub_cancel, zabs_if]
    by_cases e : 0 ≤ tva T (a + 1) - tva T a
    · rw [if_pos e, if_pos e]
      exact q_steep hV _ _ _ (by omega)
    · rw [if_neg e, if_neg e]
      exact q_steep hV _ _ _ (by omega)
end QE
