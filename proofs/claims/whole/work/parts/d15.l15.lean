variable {sc : SC}
section CMDS
variable {x : Nat → Int32} {t c p e u n : Nat} {S M : ZS} {TU : TS}
theorem c_settle (hS : sP x t c p e S) (hM : sC x t p u M) (hR : Rel n TU (M.2 0)) (hO : mOK n M) : rdO x t c p u S (if (g_c_2_ends (c + 1) true S TU).1 = true then ((g_c_2_ends (c + 1) true S TU).2, (tPushEach TU).1) else ((g_c_2_ends (c + 1) true S TU).2, TU)) (g_m_readsSettle t n M) := by
  obtain ⟨⟨h1, h40⟩, hn, hw⟩ := hR.1
  rw [g_m_readsSettle]
  rcases b_end (TU := TU) true hS hM with ⟨-, s2, s3, s4, s5⟩ | ⟨s1, s2, s3⟩
  · left
    rw [s4, s5]
    simp only [if_true]
    exact ⟨by trivial, p, Nat.le_refl _, s3, rfl, hM.uF (all_keep h1 h40 hO).1, n, (Rel_pushEach hR).1⟩
  · right
    rw [s1, s2]
    simp only [Bool.false_eq_true, if_false]
    first | exact ⟨rfl, s3⟩ | exact ⟨trivial, s3⟩ | exact s3
theorem c_remove (hS : sP x t c p e S) (hM : sC x t p u M) (hR : Rel n TU (M.2 0)) (hO : mOK n M) : rdO x t c p u S (if n ≤ 1 then (if (g_c_2_ends (c + 1) false S TU).1 = true then ((g_c_2_ends (c + 1) false S TU).2, tBuild (tSz TU (n - 1) (tva TU))) else ((g_c_2_ends (c + 1) false S TU).2, TU)) else (if (g_c_2_ends (c + 1) true S TU).1 = true then ((g_c_2_ends (c + 1) true S TU).2, tBuild (tSz TU (n - 1) (tva TU))) else ((g_c_2_ends (c + 1) true S TU).2, TU))) (g_m_readsRemove t n M) := by
  obtain ⟨⟨h1, h40⟩, hn, hw⟩ := hR.1
  rw [g_m_readsRemove]
  by_cases k : n ≤ 1
  · rw [if_pos k, if_pos k]
    rcases b_end (TU := TU) false hS hM with ⟨s1, -⟩ | ⟨s1, s2, s3⟩
    · cases s1
    · right
      rw [s1, s2]
      simp only [Bool.false_eq_true, if_false]
      first | exact ⟨rfl, s3⟩ | exact ⟨trivial, s3⟩ | exact s3
  · rw [if_neg k, if_neg k]
    rcases b_end (TU := TU) true hS hM with ⟨-, s2, s3, s4, s5⟩ | ⟨s1, s2, s3⟩
    · left
      rw [s4, s5]
      simp only [if_true]
      obtain ⟨n1, rfl⟩ : ∃ n1, n = n1 + 1 := ⟨n - 1, by omega⟩
      exact ⟨by trivial, p, Nat.le_refl _, s3, rfl, hM.uF (rem_keep (by omega) h40 hO).1, n1, (Rel_remove hR hO (by omega)).1⟩
    · right
      rw [s1, s2]
      simp only [Bool.false_eq_true, if_false]
      first | exact ⟨rfl, s3⟩ | exact ⟨trivial, s3⟩ | exact s3
theorem c_append (hS : sP x t c p e S) (hM : sC x t p u M) (hR : Rel n TU (M.2 0)) (hO : mOK n M) : rdO x t c p u S (g_c_2_readAppend (c + 1) n S TU) (g_m_readsAppend t n M) := by
  obtain ⟨⟨h1, h40⟩, hn, hw⟩ := hR.1
  rw [g_m_readsAppend, g_c_2_readAppend]
  rcases b_valueAt (TU := TU) (j := 0) hS hM with ⟨q, v, N2, q1, q2, q3, q4, q5, q6, q7, q8⟩ | ⟨q1, q2⟩
  · have e0 : N2.2 0 = M.2 0 := by rw [q6]; rfl
    have hR2 : Rel n TU (N2.2 0) := by rw [e0]; exact hR
    have hS3 := hS.to (q := q + 1) (by omega)
    have hO2 := q7.ok hO
    have ev : N2.2 12 0 = v := by rw [q6]; exact sA_same _ _ _ _
    rw [q3, q4]
    simp only [if_true, ev]
    by_cases k : 40 ≤ n
    · rw [if_pos k, if_pos k]
      rcases b_end (TU := TU) false hS3 q5 with ⟨s1, -⟩ | ⟨s1, s2, s3⟩
      · cases s1
      · right
        rw [s1, s2]
        simp only [Bool.false_eq_true, if_false]
        first | exact ⟨rfl, s3⟩ | exact ⟨trivial, s3⟩ | exact s3
    · rw [if_neg k, if_neg k]
      rcases b_end (TU := TU) true hS3 q5 with ⟨-, s2, s3, s4, s5⟩ | ⟨s1, s2, s3⟩
      · left
        rw [s4, s5]
        simp only [if_true]
        exact ⟨by trivial, q + 1, by omega, s3, by rw [sI_sI], q5.uF (app_keep h1 (by omega) hO2).1, n + 1, Rel_append hR2 hO2 (by omega) (bd_val q8)⟩
      · right
        rw [s1, s2]
        simp only [Bool.false_eq_true, if_false]
        first | exact ⟨rfl, s3⟩ | exact ⟨trivial, s3⟩ | exact s3
  · right
    rw [q1, ends_no q2.1, ends_no q2.1]
    simp only [Bool.false_eq_true, if_false, ite_self]
    first | exact ⟨rfl, q2⟩ | exact ⟨trivial, q2⟩ | exact q2
theorem lay_has {F L : Nat → Int32} {k : Nat} (hL : Lay n F L) (h40 : n ≤ 40) (h1 : 1 ≤ k) (h2 : k < 128) : ¬ F k = -1 ↔ (gp n k).1 < (gp n k).2 := by
  obtain ⟨a, b⟩ := hL k h1 h2
  by_cases q : (gp n k).1 < (gp n k).2
  · refine ⟨fun _ => q, fun _ z => ?_⟩
    rw [(a q).1] at z
    have h9 := gp_40 n k h40
    exact nI_m1 (a := (gp n k).1) (by omega) (by rw [z]; exact Int32.le_refl _)
  · exact ⟨fun z => absurd (b q).1 z, fun z => absurd z q⟩
theorem c_push (hS : sP x t c p e S) (hM : sC x t p u M) (hR : Rel n TU (M.2 0)) (hO : mOK n M) : rdO x t c p u S (g_c_2_readPush (c + 1) S TU) (g_m_rp t n M) := by
  obtain ⟨⟨h1, h40⟩, hn, hw⟩ := hR.1
  have hL := hR.2.2.1
  have hat := at_is hS.1 hM.2.2.1
  rw [g_c_2_readPush, hS.1.sp]
  by_cases k : M.1 23 = 3
  · have hp : p < c := at_lt hS.1 hM.2.2.1 (by rw [k]; decide)
    have hn9 : g_c_4_numberAt (c + 1) p S = M.1 26 := by rw [hS.1.num, if_pos hp]; exact (hM.2.2.1.2.2 (hS.ho hp)).2.2.symm
    obtain ⟨e1, e2⟩ := hS.2.2.2.2 p
    generalize nm (c + 1) p S = m at e1 e2 ⊢
    have ev : M.1 26 = nI m := hn9.symm.trans e1
    have hcd := (c_isAt (TU := TU) hS.1).mpr (hat.1.mpr k)
    have hx : g_c_2_expect (c + 1) 2 S TU = sI 5 (nI (p + 1)) S := by rw [g_c_2_expect, if_pos hS.2.1, hS.1.sp, if_pos (hat.1.mpr k)]
    have ei : g_m_is 3 M = (true, M) := by rw [g_m_is, if_pos k]
    have hS2 := hS.to (q := p + 1) (by omega)
    have hG := hM.uF (uF_grows M h1 h40)
    have f2 := fl_of (TU := TU) (v := 2) hS.1 hG.2.2.1 hS.2.1 hG.2.2.2.2 (by decide)
    have fx : g_c_2_expect (c + 1) 2 (g_c_2_fail 2 S TU) TU = g_c_2_fail 2 S TU := c_expect_no f2.1
    rw [if_pos hcd, hx, fx]
    by_cases hk : 1 ≤ m ∧ m < 128
    · have hr : 1 ≤ M.1 26 ∧ M.1 26 ≤ 127 := by
        rw [ev]
        exact ⟨(nI_leI (a := 1) (by decide) (by omega)).mpr hk.1, (nI_leI (b := 127) (by omega) (by decide)).mpr (by omega)⟩
      rw [g_m_rp, if_pos hr, ev, nI_clamp (by omega), g_m_readsPush, ei, isNode_eq h40]
      simp only [if_true]
      by_cases node : (gp n m).1 < (gp n m).2
      · have hb : 1 ≤ m ∧ m < 128 ∧ ¬ tF TU m = -1 := ⟨hk.1, hk.2, (lay_has hL h40 hk.1 hk.2).mpr node⟩
        have hN := hG.next (hS.ho hp)
        have eN : (g_m_next t (g_m_grows n M)).2 0 = M.2 0 := by rw [next_2 hG.1.tk]; exact (mEq_grows (n := n) M h1 h40).2 0 (by decide) (by decide) (by decide)
        have hR2 : Rel n TU ((g_m_next t (g_m_grows n M)).2 0) := by rw [eN]; exact hR
        rw [decide_eq_true hb, decide_eq_true node, ends_eq h40]
        simp only [if_true]
        by_cases leaf : (gp n m).2 = (gp n m).1 + 1
        · have hni : ¬ (1 ≤ m ∧ tIn TU m) := fun z => by have := (lay_in hL h40 hk.1 hk.2).mp z.2.2; omega
          rw [decide_eq_true leaf, decide_eq_false hni]
          simp only [if_true]
          rcases b_end (TU := TU) false hS2 hN with ⟨s1, -⟩ | ⟨s1, s2, s3⟩
          · cases s1
          · right
            rw [s1, s2]
            simp only [Bool.false_eq_true, if_false]
            first | exact ⟨rfl, s3⟩ | exact ⟨trivial, s3⟩ | exact s3
        · have cin : (gp n m).1 + 2 ≤ (gp n m).2 := by omega
          have hin : 1 ≤ m ∧ tIn TU m := ⟨hk.1, gp_near n m h40 hk.2 cin, (lay_in hL h40 hk.1 hk.2).mpr cin⟩
          rw [decide_eq_false leaf, decide_eq_true hin]
          simp only [Bool.false_eq_true, if_false]
          rcases b_end (TU := TU) true hS2 hN with ⟨-, s2, s3, s4, s5⟩ | ⟨s1, s2, s3⟩
          · left
            rw [s4, s5]
            simp only [if_true]
            exact ⟨by trivial, p + 1, by omega, s3, by rw [sI_sI], hN.uF (uF_push n m _), n, (Rel_push hR2 hk.1 hk.2 cin).1⟩
          · right
            rw [s1, s2]
            simp only [Bool.false_eq_true, if_false]
            first | exact ⟨rfl, s3⟩ | exact ⟨trivial, s3⟩ | exact s3
      · have hb : ¬ (1 ≤ m ∧ m < 128 ∧ ¬ tF TU m = -1) := fun z => node ((lay_has hL h40 hk.1 hk.2).mp z.2.2)
        rw [decide_eq_false hb, decide_eq_false node, ends_no f2.1]
        simp only [Bool.false_eq_true, if_false]
        right
        first | exact ⟨rfl, f2⟩ | exact ⟨trivial, f2⟩ | exact f2
    · have hr : ¬ (1 ≤ M.1 26 ∧ M.1 26 ≤ 127) := by
        rw [ev]
        intro z
        have z1 := (nI_leI (a := 1) (by decide) (by omega)).mp z.1
        have z2 := (nI_leI (b := 127) (by omega) (by decide)).mp z.2
        omega
      have hb : ¬ (1 ≤ m ∧ m < 128 ∧ ¬ tF TU m = -1) := fun z => hk ⟨z.1, z.2.1⟩
      rw [g_m_rp, if_neg hr, g_m_readsPushX, ei, g_m_isNodeX, decide_eq_false hb, ends_no f2.1]
      simp only [if_true, Bool.false_eq_true, if_false]
      right
      first | exact ⟨rfl, f2⟩ | exact ⟨trivial, f2⟩ | exact f2
  · have hcd : ¬ g_c_2_isAt (c + 1) 2 S TU = true := fun z => k (hat.1.mp ((c_isAt hS.1).mp z))
    have hx : g_c_2_expect (c + 1) 2 S TU = g_c_2_fail 1 S TU := by rw [g_c_2_expect, if_pos hS.2.1, hS.1.sp, if_neg (fun z => k (hat.1.mp z))]
    have f1 := fl_of (TU := TU) (v := 1) hS.1 hM.2.2.1 hS.2.1 hM.2.2.2.2 (by decide)
    have ei : g_m_is 3 M = (false, (g_m_fail 1 M).2) := by rw [g_m_is, if_neg k]
    have er : g_m_rp t n M = (false, (g_m_fail 1 M).2) := by
      rw [g_m_rp, g_m_readsPush, g_m_readsPushX, ei]
      simp only [Bool.false_eq_true, if_false, ite_self]
    rw [if_neg hcd, hx, ends_no f1.1, er]
    simp only [Bool.false_eq_true, if_false]
    right
    first | exact ⟨rfl, f1⟩ | exact ⟨trivial, f1⟩ | exact f1
end CMDS
