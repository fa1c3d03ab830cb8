variable {sc : SC}
/-! ===== what holds between two calls ===== -/
def SnapI (S : ZS) (TN : TS) (M : ZS) : Prop := (S.1 0 = 0 ∧ M.1 6 = 0) ∨ (S.1 0 = 1 ∧ M.1 6 = 1 ∧ ∃ m, Rel m TN (M.2 4))
def InpI (X M : ZS) : Prop := ∃ t, t ≤ 600 ∧ X.1 2 = nI t ∧ M.1 9 = nI t ∧ ∀ i, i < t → X.2 0 i &&& 255 = M.2 5 i
def ErrI (P : ZS) (TU : TS) (M : ZS) : Prop := P.1 7 = M.1 11 ∧ ∃ c q, P.1 4 = nI c ∧ c ≤ 601 ∧ P.1 8 = nI q ∧ q < 2 ^ 31 ∧ g_c_2_errorOffset c q P TU = M.1 12
def RepI (R M : ZS) : Prop := R.1 3 = nI (rr R) ∧ rr R ≤ 360 ∧ M.1 14 = R.1 3 ∧ ∀ i, i < rr R → R.2 1 i = M.2 7 i
def Inv (n : Nat) (S X R : ZS) (T : TS) (P : ZS) (TU : TS) (q : Nat) (G : Nat → TS) (TN : TS) (M : ZS) : Prop :=
  Rel n T (M.2 0) ∧ mFg M ∧ (∃ c, c ≤ 8 ∧ S.1 1 = nI c ∧ M.1 5 = nI c ∧ HistI c q G (M.2 3)) ∧ SnapI S TN M ∧ InpI X M ∧ ErrI P TU M ∧ RepI R M
section INV
variable {n : Nat} {S X R : ZS} {T : TS} {P : ZS} {TU : TS} {rk : Nat} {G : Nat → TS} {TN : TS} {M M' : ZS}
theorem rel_ok (h : Rel n T (M.2 0)) (hF : mFg M) : mOK n M := ⟨h.1.2.2, fun e => hF n h.1.1.1 h.1.1.2 e⟩
theorem Inv.q (h : Inv n S X R T P TU rk G TN M) (g : qF M M') : Inv n S X R T P TU rk G TN M' := by
  obtain ⟨a, b, ⟨c, c1, c2, c3, c4⟩, d, ⟨t, t1, t2, t3, t4⟩, ⟨e1, ec, eq, e2, e3, e4, e5, e6⟩, ⟨f1, f2, f3', f4⟩⟩ := h
  obtain ⟨g1, g2, g3, g4⟩ := g
  have w3 : M'.2 3 = M.2 3 := g2 3 (by decide) (by decide)
  have w4 : M'.2 4 = M.2 4 := g2 4 (by decide) (by decide)
  have w5 : M'.2 5 = M.2 5 := g2 5 (by decide) (by decide)
  have w7 : M'.2 7 = M.2 7 := g2 7 (by decide) (by decide)
  have k5 : M'.1 5 = M.1 5 := g1 5 (by decide) (by decide) (by decide) (by decide)
  have k6 : M'.1 6 = M.1 6 := g1 6 (by decide) (by decide) (by decide) (by decide)
  have k9 : M'.1 9 = M.1 9 := g1 9 (by decide) (by decide) (by decide) (by decide)
  have k11 : M'.1 11 = M.1 11 := g1 11 (by decide) (by decide) (by decide) (by decide)
  have k12 : M'.1 12 = M.1 12 := g1 12 (by decide) (by decide) (by decide) (by decide)
  have k14 : M'.1 14 = M.1 14 := g1 14 (by decide) (by decide) (by decide) (by decide)
  refine ⟨a.cong g3, g4, ⟨c, c1, c2, by rw [k5]; exact c3, by rw [w3]; exact c4⟩, ?_, ⟨t, t1, t2, by rw [k9]; exact t3, by rw [w5]; exact t4⟩, ⟨by rw [k11]; exact e1, ec, eq, e2, e3, e4, e5, by rw [k12]; exact e6⟩, ⟨f1, f2, by rw [k14]; exact f3', by rw [w7]; exact f4⟩⟩
  unfold SnapI
  rw [k6, w4]
  exact d
/-- an index, or none -/
theorem idx1 (h : Rel n T (M.2 0)) (x : Int32) : (∃ a, x = nI a ∧ a < n) ∨ (¬ tIx T x ∧ g_m_isIndex x M = false) := by
  obtain ⟨⟨h1, h40⟩, h2, h3⟩ := h.1
  have e : g_m_isIndex x M = decide (0 ≤ x ∧ x ≤ nI (n - 1)) := by
    rw [g_m_isIndex, m_in, h3, show nI n - 1 = nI (n - 1) from pk_sub (a := n) (b := 1) h1]
  by_cases c : tIx T x
  · left
    obtain ⟨c1, c2⟩ := c
    rw [h2, Int32.lt_iff_toInt_lt, nI_toInt (by omega)] at c2
    have c3 : 0 ≤ x.toInt := Int32.le_iff_toInt_le.mp c1
    refine ⟨x.toInt.toNat, ?_, by omega⟩
    apply Int32.toInt_inj.mp
    rw [nI_toInt (by omega)]
    omega
  · right
    refine ⟨c, ?_⟩
    rw [e]
    refine decide_eq_false (fun z => c ⟨z.1, ?_⟩)
    have z2 := Int32.le_iff_toInt_le.mp z.2
    rw [nI_toInt (by omega)] at z2
    rw [h2, Int32.lt_iff_toInt_lt, nI_toInt (by omega)]
    omega
theorem idx_t (h : Rel n T (M.2 0)) {a : Nat} (ha : a < n) : tIx T (nI a) ∧ g_m_isIndex (nI a) M = true := by
  obtain ⟨⟨h1, h40⟩, h2, h3⟩ := h.1
  refine ⟨⟨(nI_leI (a := 0) (by decide) (by omega)).mpr (Nat.zero_le _), by rw [h2]; exact (nI_ltI (by omega) (by omega)).mpr ha⟩, ?_⟩
  rw [g_m_isIndex, m_in, h3, show nI n - 1 = nI (n - 1) from pk_sub (a := n) (b := 1) h1]
  exact decide_eq_true ⟨(nI_leI (a := 0) (by decide) (by omega)).mpr (Nat.zero_le _), (nI_leI (by omega) (by omega)).mpr (by omega)⟩
/-- two: a range, one that ends before it begins, or one that isn't there -/
theorem idx2 (h : Rel n T (M.2 0)) (x z : Int32) : (∃ a b, x = nI a ∧ z = nI b ∧ a ≤ b ∧ b < n ∧ g_m_isNone x z M = false) ∨ ((tIx T x ∧ tIx T z ∧ z < x) ∧ g_m_isNone x z M = false) ∨ (¬ (tIx T x ∧ tIx T z) ∧ g_m_isNone x z M = true) := by
  have h40 := h.1.1.2
  rcases idx1 h x with ⟨a, ea, ha⟩ | ⟨c1, c2⟩
  · obtain ⟨t1, t2⟩ := idx_t h ha
    rcases idx1 h z with ⟨b, eb, hb⟩ | ⟨c1, c2⟩
    · obtain ⟨t3, t4⟩ := idx_t h hb
      have e : g_m_isNone x z M = false := by rw [g_m_isNone, ea, eb, t2, if_pos rfl, t4, if_pos rfl]
      by_cases c : a ≤ b
      · exact Or.inl ⟨a, b, ea, eb, c, hb, e⟩
      · refine Or.inr (Or.inl ⟨⟨by rw [ea]; exact t1, by rw [eb]; exact t3, ?_⟩, e⟩)
        rw [ea, eb]
        exact (nI_ltI (by omega) (by omega)).mpr (by omega)
    · refine Or.inr (Or.inr ⟨fun z => c1 z.2, ?_⟩)
      rw [g_m_isNone, ea, t2, if_pos rfl, c2, if_neg (by decide)]
  · refine Or.inr (Or.inr ⟨fun z => c1 z.1, ?_⟩)
    rw [g_m_isNone, c2, if_neg (by decide)]
/-- a node, or none -/
theorem node1 (h : Rel n T (M.2 0)) (x : Int32) : (∃ k, x = nI k ∧ 1 ≤ k ∧ k < 128 ∧ (gp n k).1 < (gp n k).2 ∧ ¬ tF T k = -1) ∨ (¬ tHas T x ∧ ((∃ k, x = nI k ∧ 1 ≤ k ∧ k < 128 ∧ ¬ (gp n k).1 < (gp n k).2) ∨ ¬ (1 ≤ x ∧ x ≤ 127))) := by
  have h40 := h.1.1.2
  have hL := h.2.2.1
  by_cases c : 1 ≤ x ∧ x ≤ 127
  · obtain ⟨c1, c2⟩ := c
    have c3 := Int32.le_iff_toInt_le.mp c1
    have c4 := Int32.le_iff_toInt_le.mp c2
    have e1 : (1 : Int32).toInt = 1 := by decide
    have e2 : (127 : Int32).toInt = 127 := by decide
    rw [e1] at c3
    rw [e2] at c4
    have ex : x = nI x.toInt.toNat := by
      apply Int32.toInt_inj.mp
      rw [nI_toInt (by omega)]
      omega
    by_cases g : (gp n x.toInt.toNat).1 < (gp n x.toInt.toNat).2
    · refine Or.inl ⟨_, ex, by omega, by omega, g, fun z => ?_⟩
      have h9 := gp_40 n x.toInt.toNat h40
      rw [((hL _ (by omega) (by omega)).1 g).1] at z
      exact nI_m1 (a := (gp n x.toInt.toNat).1) (by omega) (by rw [z]; exact Int32.le_refl _)
    · refine Or.inr ⟨fun ⟨k, k1, k2, k3, k4⟩ => k4 ?_, Or.inl ⟨_, ex, by omega, by omega, g⟩⟩
      have ek : k = x.toInt.toNat := by
        have := congrArg Int32.toInt k1
        rw [nI_toInt (by omega)] at this
        omega
      rw [ek]
      exact ((hL _ (by omega) (by omega)).2 g).1
  · refine Or.inr ⟨fun ⟨k, k1, k2, k3, k4⟩ => c ?_, Or.inr c⟩
    rw [k1]
    exact ⟨(nI_leI (a := 1) (by decide) (by omega)).mpr k2, (nI_leI (b := 127) (by omega) (by decide)).mpr (by omega)⟩
theorem isVal (v : Int32) : g_m_isValue v = decide (-9999 ≤ v ∧ v ≤ 9999) := m_in v (-9999) 9999
end INV
