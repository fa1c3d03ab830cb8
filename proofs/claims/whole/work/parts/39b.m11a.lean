variable {sc : SC}

theorem lx_valueAt {tl j : Nat} {S : ZS} (h : mLx tl S) : mLx tl (g_m_valueAt tl j S).2 := by
  rw [g_m_valueAt]
  split
  · exact lx_next (lx_signed h).tk
  · exact lx_signed h
theorem kp_valueAt {tl j : Nat} {S : ZS} (h : mLx tl S) : kp S (g_m_valueAt tl j S).2 := by
  rw [g_m_valueAt]
  split
  · exact (kp_signed h).trans (kp_next (lx_signed h).tk)
  · exact kp_signed h
theorem lx_range {tl : Nat} {S : ZS} (h : mLx tl S) : mLx tl (g_m_range tl S).2 := by
  rw [g_m_range]
  repeat' split
  · exact lx_number (lx_number h)
  · exact lx_number (lx_number h)
  · exact lx_number h
theorem kp_range {tl : Nat} {S : ZS} (h : mLx tl S) : kp S (g_m_range tl S).2 := by
  rw [g_m_range]
  repeat' split
  · exact (kp_number h).trans (kp_number (lx_number h))
  · exact (kp_number h).trans (kp_number (lx_number h))
  · exact kp_number h
theorem lx_stops {tl : Nat} {c : Bool} {S : ZS} (h : mLx tl S) : mLx tl (g_m_stops c S).2 := by
  rw [g_m_stops]
  repeat' split
  · exact h
  · exact lx_fail h
  · exact lx_is h
theorem kp_stops (c : Bool) (S : ZS) : kp S (g_m_stops c S).2 := by
  rw [g_m_stops]
  repeat' split
  · exact kp.rfl' S
  · exact kp_fail _ _
  · exact kp_is _ _
theorem stops_t2 {c : Bool} {S : ZS} (h : (g_m_stops c S).1 = true) : (g_m_stops c S).2 = S ∧ c = true ∧ S.1 23 = 1 := by
  rw [g_m_stops] at h ⊢
  split at h
  next q =>
    rw [if_pos q]
    split at h
    next q2 => rw [if_pos q2]; exact ⟨rfl, q2, (is_t q).1⟩
    next q2 => exact absurd h Bool.false_ne_true
  next q => exact absurd h Bool.false_ne_true
theorem kp.ok {n : Nat} {S R : ZS} (h : kp S R) (g : mOK n S) : mOK n R := by
  refine ⟨by rw [h.2 0 (by decide)]; exact g.1, fun e => ?_⟩
  have e2 := g.2 (by rw [← h.1 19 (by decide) (by decide) (by decide) (by decide) (by decide) (by decide)]; exact e)
  exact ⟨fun k hk => by rw [h.2 8 (by decide), h.2 9 (by decide)]; exact e2.1 k hk, fun i hi => by rw [h.2 10 (by decide)]; exact e2.2 i hi⟩
theorem kp.gr {n : Nat} {S R : ZS} (h : kp S R) (g : mGr n S) : mGr n R :=
  ⟨(h.ok g.ok).1, by rw [h.1 19 (by decide) (by decide) (by decide) (by decide) (by decide) (by decide)]; exact g.2.1, (h.ok g.ok).2 (by rw [h.1 19 (by decide) (by decide) (by decide) (by decide) (by decide) (by decide)]; exact g.2.1)⟩
/-- the numbers behind what reads them -/
theorem number_t {tl j : Nat} {a b : Int32} {S : ZS} (hL : mLx tl S) (h : (g_m_number tl j a b S).1 = true) : S.1 23 = 3 ∧ a ≤ S.1 26 ∧ S.1 26 ≤ b ∧ (g_m_number tl j a b S).2 = g_m_next tl (sA 12 j (S.1 26) S) ∧ (g_m_number tl j a b S).2.2 = (sA 12 j (S.1 26) S).2 := by
  rw [g_m_number] at h ⊢
  split at h
  next q =>
    rw [if_pos q]
    split at h
    next q2 =>
      rw [if_pos q2]
      rw [m_in, decide_eq_true_eq] at q2
      exact ⟨(is_t q).1, q2.1, q2.2, rfl, next_2 (mLx.sA hL).tk⟩
    next q2 => exact absurd h Bool.false_ne_true
  next q => exact absurd h Bool.false_ne_true
def mN (S : ZS) (i : Nat) : Nat := (S.2 12 i).toNatClampNeg
theorem zI_in {x : Int32} {b : Nat} (h0 : 0 ≤ x) (h1 : x ≤ nI b) (hb : b < 2 ^ 31) : x = nI x.toNatClampNeg ∧ x.toNatClampNeg ≤ b := by
  have e0 : 0 ≤ x.toInt := by rw [Int32.le_iff_toInt_le] at h0; exact h0
  have e1 : x.toInt ≤ b := by rw [Int32.le_iff_toInt_le, nI_toInt hb] at h1; exact h1
  have e2 : x.toNatClampNeg = x.toInt.toNat := rfl
  refine ⟨?_, by rw [e2]; omega⟩
  apply Int32.toInt_inj.mp
  rw [nI_toInt (by rw [e2]; omega), e2]
  omega
theorem range_t {tl n : Nat} {S : ZS} (hL : mLx tl S) (hc : S.2 0 0 = nI n) (h1 : 1 ≤ n) (h40 : n ≤ 40) (h : (g_m_range tl S).1 = true) :
    (g_m_range tl S).2.2 12 0 = nI (mN (g_m_range tl S).2 0) ∧ (g_m_range tl S).2.2 12 1 = nI (mN (g_m_range tl S).2 1) ∧ mN (g_m_range tl S).2 0 ≤ mN (g_m_range tl S).2 1 ∧ mN (g_m_range tl S).2 1 < n := by
  have hn : nI n - 1 = nI (n - 1) := pk_sub (a := n) (b := 1) h1
  rw [g_m_range] at h ⊢
  split at h
  next q =>
    rw [if_pos q]
    split at h
    next q2 =>
      rw [if_pos q2]
      have a1 := number_t hL q
      have a2 := number_t (lx_number hL) q2
      rw [hc, hn] at a1
      have hk := (kp_number (j := 0) (a := 0) (b := S.2 0 0 - 1) hL).2 0 (by decide)
      rw [hk, hc, hn] at a2
      have b1 := zI_in (b := n - 1) a1.2.1 a1.2.2.1 (by omega)
      have e0 : (g_m_number tl 0 0 (S.2 0 0 - 1) S).2.2 12 0 = S.1 26 := by
        have := a1.2.2.2.2
        rw [hc, hn, this, sA_same]
      have hs : (s_m_range_1 tl S) = (g_m_number tl 1 ((g_m_number tl 0 0 (S.2 0 0 - 1) S).2.2 12 0) ((g_m_number tl 0 0 (S.2 0 0 - 1) S).2.2 0 0 - 1) (g_m_number tl 0 0 (S.2 0 0 - 1) S).2).2 := rfl
      rw [hs, hk, hc, hn]
      rw [hc, hn] at e0
      have f2 := a2.2.2.2.2
      generalize hQ : (g_m_number tl 0 0 (nI (n - 1)) S).2 = Q at *
      have c1 : mN (g_m_number tl 1 (Q.2 12 0) (nI (n - 1)) Q).2 1 = (Q.1 26).toNatClampNeg := by rw [mN, f2, sA_same]
      have c0 : mN (g_m_number tl 1 (Q.2 12 0) (nI (n - 1)) Q).2 0 = (S.1 26).toNatClampNeg := by rw [mN, f2, sA_o (by decide), e0]
      have hx : (0 : Int32) ≤ Q.1 26 := Int32.le_trans (by rw [e0]; exact a1.2.1) a2.2.1
      have b2 := zI_in (b := n - 1) hx a2.2.2.1 (by omega)
      rw [c0, c1]
      refine ⟨by rw [f2, sA_o (by decide), e0]; exact b1.1, by rw [f2, sA_same]; exact b2.1, ?_, by omega⟩
      have := a2.2.1
      rw [e0, b1.1, b2.1, nI_leI (by omega) (by omega)] at this
      exact this
    next q2 => exact absurd h Bool.false_ne_true
  next q => exact absurd h Bool.false_ne_true
theorem signed_num {tl j : Nat} {S : ZS} {i : Nat} (hL : mLx tl S) (hi : ¬ i = j) : (g_m_signed tl j S).2.2 12 i = S.2 12 i := by
  have hf : ∀ (x : Int32) (Q : ZS), (g_m_fail x Q).2.2 = Q.2 := by
    intro x Q
    rw [g_m_fail]
    split <;> rfl
  have his : ∀ (x : Int32) (Q : ZS), (g_m_is x Q).2.2 = Q.2 := by
    intro x Q
    rw [g_m_is]
    split
    · rfl
    · exact hf _ _
  rw [g_m_signed]
  repeat' split
  all_goals first
    | rw [sA_o hi, his, next_2 hL.tk]
    | rw [his, next_2 hL.tk]
    | rw [sA_o hi, his]
    | rw [his]
theorem valueAt_num {tl j : Nat} {S : ZS} {i : Nat} (hL : mLx tl S) (hi : ¬ i = j) : (g_m_valueAt tl j S).2.2 12 i = S.2 12 i := by
  rw [g_m_valueAt]
  split
  · rw [next_2 (lx_signed hL).tk]; exact signed_num hL hi
  · exact signed_num hL hi
