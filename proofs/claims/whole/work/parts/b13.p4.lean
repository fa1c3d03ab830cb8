variable {sc : SC}
/-! ===== an element more, an element less ===== -/
theorem clr : ∀ (fu k : Nat) (S : ZS), k + fu = 128 → (∀ y, y < 44 → (g_m_clearMarks_L fu k S).2 0 y = S.2 0 y) ∧ (∀ j, k ≤ j → j < 128 → (g_m_clearMarks_L fu k S).2 0 (44 + j) = 1 ∧ (g_m_clearMarks_L fu k S).2 0 (172 + j) = 0) ∧ ∀ j, j < k → (g_m_clearMarks_L fu k S).2 0 (44 + j) = S.2 0 (44 + j) ∧ (g_m_clearMarks_L fu k S).2 0 (172 + j) = S.2 0 (172 + j) := by
  intro fu
  induction fu with
  | zero => intro k S h; exact ⟨fun _ _ => rfl, fun j p q => by omega, fun _ _ => ⟨rfl, rfl⟩⟩
  | succ fu ih =>
    intro k S h
    obtain ⟨r1, r2, r3⟩ := ih (k + 1) (sA 0 (172 + k) (0) (sA 0 (44 + k) (1) S)) (by omega)
    have w : ∀ y, (sA 0 (172 + k) (0) (sA 0 (44 + k) (1) S)).2 0 y = if y = 172 + k then 0 else if y = 44 + k then 1 else S.2 0 y := fun y => rfl
    refine ⟨fun y hy => ?_, fun j p q => ?_, fun j p => ?_⟩
    · rw [g_m_clearMarks_L, r1 y hy, w, if_neg (by omega), if_neg (by omega)]
    · rw [g_m_clearMarks_L]
      by_cases z : j = k
      · obtain ⟨s1, s2⟩ := r3 j (by omega)
        rw [s1, s2, w, w, z, if_neg (by omega), if_pos rfl, if_pos rfl]
        exact ⟨rfl, rfl⟩
      · exact r2 j (by omega) q
    · obtain ⟨s1, s2⟩ := r3 j (by omega)
      rw [g_m_clearMarks_L, s1, s2, w, w, if_neg (by omega), if_neg (by omega), if_neg (by omega), if_neg (by omega)]
      exact ⟨rfl, rfl⟩
theorem set2 {n : Nat} (h40 : n ≤ 40) : ∀ (fu i : Nat) (S : ZS), i + fu = n → (∀ q, q < n → (g_m_settles_L2 n fu i S).2 0 (4 + q) = if i ≤ q then S.2 11 q else S.2 0 (4 + q)) ∧ (∀ j, j < 128 → (g_m_settles_L2 n fu i S).2 0 (44 + j) = 1 ∧ (g_m_settles_L2 n fu i S).2 0 (172 + j) = 0) ∧ ∀ y, y < 4 → (g_m_settles_L2 n fu i S).2 0 y = S.2 0 y := by
  intro fu
  induction fu with
  | zero =>
    intro i S h
    obtain ⟨r1, r2, r3⟩ := clr (zopq 128) 0 S (by rw [zopq_eq])
    refine ⟨fun q hq => ?_, fun j hj => r2 j (Nat.zero_le _) hj, fun y hy => r1 y (by omega)⟩
    rw [if_neg (by omega)]
    exact r1 _ (by omega)
  | succ fu ih =>
    intro i S h
    obtain ⟨r1, r2, r3⟩ := ih (i + 1) (sA 0 (4 + i) (S.2 11 (i)) S) (by omega)
    have w : ∀ y, (sA 0 (4 + i) (S.2 11 (i)) S).2 0 y = if y = 4 + i then S.2 11 i else S.2 0 y := fun y => rfl
    have w1 : (sA 0 (4 + i) (S.2 11 (i)) S).2 11 = S.2 11 := rfl
    refine ⟨fun q hq => ?_, r2, fun y hy => ?_⟩
    · rw [g_m_settles_L2, r1 q hq, w1, w]
      by_cases z : q = i
      · rw [if_neg (by omega), if_pos (by omega), if_pos (by omega), z]
      · by_cases z2 : i + 1 ≤ q
        · rw [if_pos z2, if_pos (by omega)]
        · rw [if_neg z2, if_neg (by omega), if_neg (by omega)]
    · rw [g_m_settles_L2, r3 y hy, w, if_neg (by omega)]
theorem set1 {n : Nat} {V : Nat → Int32} (h40 : n ≤ 40) : ∀ (fu i : Nat) (S : ZS), i + fu = n → (∀ q, q < n → g_m_valueG n q S = V q) → (∀ q, q < i → S.2 11 q = V q) → (∀ q, q < n → (g_m_settles_L1 n fu i S).2 0 (4 + q) = V q) ∧ (∀ j, j < 128 → (g_m_settles_L1 n fu i S).2 0 (44 + j) = 1 ∧ (g_m_settles_L1 n fu i S).2 0 (172 + j) = 0) ∧ ∀ y, y < 4 → (g_m_settles_L1 n fu i S).2 0 y = S.2 0 y := by
  intro fu
  induction fu with
  | zero =>
    intro i S h hV hM
    obtain ⟨r1, r2, r3⟩ := set2 h40 n 0 S (by omega)
    refine ⟨fun q hq => ?_, r2, r3⟩
    rw [g_m_settles_L1, r1 q hq, if_pos (Nat.zero_le _)]
    exact hM q (by omega)
  | succ fu ih =>
    intro i S h hV hM
    have e : (sA 11 (i) ((g_m_valueG n i S)) S).2 0 = S.2 0 := rfl
    obtain ⟨r1, r2, r3⟩ := ih (i + 1) (sA 11 (i) ((g_m_valueG n i S)) S) (by omega) (fun q hq => (valueG_eq e).trans (hV q hq)) (fun q hq => by
      show (if q = i then g_m_valueG n i S else S.2 11 q) = V q
      by_cases z : q = i
      · rw [if_pos z, z]; exact hV i (by omega)
      · rw [if_neg z]; exact hM q (by omega))
    exact ⟨r1, r2, r3⟩
theorem set0 {n : Nat} {T : TS} {M : ZS} (h : Rel n T (M.2 0)) (hO : mOK n M) : (∀ q, q < n → (g_m_settles n M).2 0 (4 + q) = tva T q) ∧ (∀ j, j < 128 → (g_m_settles n M).2 0 (44 + j) = 1 ∧ (g_m_settles n M).2 0 (172 + j) = 0) ∧ ∀ y, y < 4 → (g_m_settles n M).2 0 y = M.2 0 y := by
  have h1 := h.1.1.1
  have h40 := h.1.1.2
  have e0 : (g_m_grows n M).2 0 = M.2 0 := (mEq_grows (n := n) M h1 h40).2 0 (by decide) (by decide) (by decide)
  have hV : ∀ i, i < n → g_m_valueG n i (g_m_grows n M) = tva T i := fun i hi => by
    rw [valG_el h40 hi, e0]; exact (h.2.2.2.2.2 i hi).symm
  have e : (sA 11 (0) ((g_m_value n 0 M).1) (g_m_grows n M)).2 0 = (g_m_grows n M).2 0 := rfl
  obtain ⟨r1, r2, r3⟩ := set1 (V := tva T) h40 (n - 1) 1 (sA 11 (0) ((g_m_value n 0 M).1) (g_m_grows n M)) (by omega) (fun q hq => (valueG_eq e).trans (hV q hq)) (fun q hq => by
    show (if q = 0 then g_m_valueG n 0 (g_m_grows n M) else _) = tva T q
    rw [if_pos (by omega), show q = 0 by omega]
    exact hV 0 (by omega))
  exact ⟨r1, r2, fun y hy => (r3 y hy).trans (congrFun e0 y)⟩
theorem Rel_append {n : Nat} {T : TS} {M : ZS} {v : Int32} (h : Rel n T (M.2 0)) (hO : mOK n M) (h39 : n < 40) (hv : bd v) : Rel (n + 1) (tBuild (tSz T (n + 1) (upd (tva T) n v))) ((g_m_appends n v M).2.2 0) := by
  obtain ⟨r1, r2, r3⟩ := set0 h hO
  have hb : ∀ i, i < n → bd (tva T i) := fun i hi => el_bd h hi
  obtain ⟨⟨a1, a2, a3⟩, ⟨b1, b2, b3⟩, -⟩ := h
  have w : ∀ y, (g_m_appends n v M).2.2 0 y = if y = 0 then nI (n + 1) else if y = 4 + n then v else (g_m_settles n M).2 0 y := fun y => rfl
  refine Rel_build (by omega) (by omega) ⟨fun k k1 k2 => ?_, fun i hi => ?_⟩ (fun i hi => ?_) ⟨?_, ?_, ?_, ?_⟩
  · rw [w, w, if_neg (by omega), if_neg (by omega), if_neg (by omega), if_neg (by omega)]
    exact r2 k k2
  · rw [w, if_neg (by omega), upd_at]
    by_cases z : i = n
    · rw [if_pos (by omega), if_pos z]
    · rw [if_neg (by omega), if_neg z]; exact r1 i (by omega)
  · rw [upd_at]
    by_cases z : i = n
    · rw [if_pos z]; exact hv
    · rw [if_neg z]
      exact hb i (by omega)
  · rw [w, if_pos rfl]
  · rw [w, if_neg (by decide), if_neg (by omega), r3 1 (by decide)]; exact b1.symm
  · rw [w, if_neg (by decide), if_neg (by omega), r3 2 (by decide)]; exact b2.symm
  · rw [w, if_neg (by decide), if_neg (by omega), r3 3 (by decide)]; exact b3.symm
theorem Rel_remove {n : Nat} {T : TS} {M : ZS} (h : Rel (n + 1) T (M.2 0)) (hO : mOK (n + 1) M) (h1 : 1 ≤ n) : Rel n (tBuild (tSz T n (tva T))) ((g_m_removes (n + 1) M).2.2 0) ∧ (g_m_removes (n + 1) M).1 = tva T n := by
  obtain ⟨r1, r2, r3⟩ := set0 h hO
  have hb : ∀ i, i < n → bd (tva T i) := fun i hi => el_bd h (by omega)
  obtain ⟨⟨a1, a2, a3⟩, ⟨b1, b2, b3⟩, -⟩ := h
  have w : ∀ y, (g_m_removes (n + 1) M).2.2 0 y = if y = 4 + (n + 1 - 1) then 0 else if y = 0 then nI (n + 1 - 1) else (g_m_settles (n + 1) M).2 0 y := fun y => rfl
  refine ⟨Rel_build h1 (by omega) ⟨fun k k1 k2 => ?_, fun i hi => ?_⟩ hb ⟨?_, ?_, ?_, ?_⟩, ?_⟩
  · rw [w, w, if_neg (by omega), if_neg (by omega), if_neg (by omega), if_neg (by omega)]
    exact r2 k k2
  · rw [w, if_neg (by omega), if_neg (by omega)]; exact r1 i (by omega)
  · rw [w, if_neg (by omega), if_pos rfl, Nat.add_sub_cancel]
  · rw [w, if_neg (by omega), if_neg (by decide), r3 1 (by decide)]; exact b1.symm
  · rw [w, if_neg (by omega), if_neg (by decide), r3 2 (by decide)]; exact b2.symm
  · rw [w, if_neg (by omega), if_neg (by decide), r3 3 (by decide)]; exact b3.symm
  · show (g_m_settles (n + 1) M).2 0 (4 + (n + 1 - 1)) = _
    rw [Nat.add_sub_cancel]
    exact r1 n (by omega)
