variable {sc : SC}
theorem apW_e2 {n k i : Nat} {F G : Int32} {w : Nat → Int32} (h40 : n ≤ 40) (hk : k < 128) (hkx : (gp n k).1 < (gp n k).2) (hi : i < 40) (h : ¬ lf n i = k) : apW n k F G w (4 + i) = w (4 + i) := by
  unfold apW
  by_cases c : (gp n k).1 + 2 ≤ (gp n k).2
  · rw [if_pos c, upd_at, upd_at, if_neg (by omega), if_neg (by omega)]
  · have e : ¬ i = (gp n k).1 := fun z => h (by rw [z]; exact lf_un h40 hk (by omega))
    rw [if_neg c, upd_at, if_neg (by omega)]
theorem pw_el {n k i : Nat} {w : Nat → Int32} (h40 : n ≤ 40) (h1 : 1 ≤ k) (h2 : k < 128) (c : (gp n k).1 + 2 ≤ (gp n k).2) (eK : ∀ i, (gp n k).1 ≤ i → i < (gp n k).2 → el n (pushW n k w) k i = el n w k i) : ∀ (d x : Nat), 1 ≤ x → x < 128 → 128 ≤ x * 2 ^ d → ¬ x = 2 * k → ¬ x = 2 * k + 1 → (gp n x).1 ≤ i → i < (gp n x).2 → el n (pushW n k w) x i = el n w x i := by
  obtain ⟨m, g1, g2, g3, g4, g5⟩ := gpc h40 h1 h2 c
  intro d
  induction d with
  | zero => intro x q1 q2 q3; rw [Nat.pow_zero] at q3; omega
  | succ d ih =>
    intro x q1 q2 q3 n1 n2 ha hb
    have h4b : x * 2 ^ (d + 1) = (2 * x) * 2 ^ d := by rw [Nat.pow_succ, Nat.mul_comm (2 ^ d) 2, ← Nat.mul_assoc, Nat.mul_comm x 2]
    have h5b : (2 * x) * 2 ^ d ≤ (2 * x + 1) * 2 ^ d := Nat.mul_le_mul_right _ (by omega)
    by_cases n3 : x = k
    · subst n3; exact eK i ha hb
    · by_cases cx : (gp n x).1 + 2 ≤ (gp n x).2
      · have h64 := gp_near n x h40 q2 cx
        obtain ⟨e1, e2⟩ := pw_m (w := w) h40 h1 h2 c q2 n3 n1 n2
        have hg := gch_in h40 q1 q2 cx ha hb
        rw [el_in _ i h40 q1 q2 cx, el_in w i h40 q1 q2 cx, e1, e2]
        rcases gch_or n x i with q | q
        · rw [q] at hg
          rw [q, ih (2 * x) (by omega) (by omega) (by omega) (by omega) (by omega) hg.1 hg.2]
        · rw [q] at hg
          rw [q, ih (2 * x + 1) (by omega) (by omega) (by omega) (by omega) (by omega) hg.1 hg.2]
      · have h9 := gp_40 n x h40
        have ei : i = (gp n x).1 := by omega
        have el9 : lf n i = x := by rw [ei]; exact lf_un h40 q2 (by omega)
        rw [el_lf _ i cx, el_lf w i cx, pw_at, if_neg (by omega), if_neg (by omega), if_neg (by omega), apW_e2 h40 (by omega) (by rw [g4]; exact g2) (by omega) (by omega), apW_e2 h40 (by omega) (by rw [g3]; exact g1) (by omega) (by omega)]
theorem Rel_push {n k : Nat} {T : TS} {S : ZS} (h : Rel n T (S.2 0)) (h1 : 1 ≤ k) (h2 : k < 128) (c : (gp n k).1 + 2 ≤ (gp n k).2) : Rel n (tPushIf T k) ((g_m_pushes n k S).2.2 0) ∧ ((g_m_pushes n k S).1 = decide (tDo T k)) := by
  obtain ⟨⟨⟨n1, h40⟩, a2, a3⟩, ⟨b1, b2, b3⟩, hL, hR, hX, hV⟩ := h
  obtain ⟨m, g1, g2, g3, g4, g5⟩ := gpc h40 h1 h2 c
  have x1 : (gp n (2 * k)).1 < (gp n (2 * k)).2 := by rw [g3]; exact g1
  have x2 : (gp n (2 * k + 1)).1 < (gp n (2 * k + 1)).2 := by rw [g4]; exact g2
  have hRk := hR k h1 h2 (by omega)
  have hin : tIn T k := ⟨g5, (lay_in hL h40 h1 h2).mpr c⟩
  have m1 : tfa T k = S.2 0 (44 + k) := hRk.1.1
  have m2 : tog T k = S.2 0 (172 + k) := hRk.1.2
  by_cases mk : ¬ S.2 0 (44 + k) = 1 ∨ ¬ S.2 0 (172 + k) = 0
  · have hdo : tDo T k := ⟨hin, by show ¬ tfa T k = 1 ∨ ¬ tog T k = 0; rw [m1, m2]; exact mk⟩
    obtain ⟨e1, ew⟩ := push_yes (S := S) h40 h1 h2 c mk
    have eT : tPushIf T k = tPush T k := if_pos hdo
    rw [ew, eT, e1]
    refine ⟨?_, (decide_eq_true hdo).symm⟩
    have np := nd_push T k
    have vk : nd (tPush T k) k = clN (nd T k) := by rw [np k h1, if_pos rfl]
    have vl : nd (tPush T k) (2 * k) = mkN (gW n (2 * k)) (S.2 0 (44 + k)) (S.2 0 (172 + k)) (nd T (2 * k)) := by
      rw [np _ h1, if_neg (by omega), if_pos rfl, lay_wd hL h40 (by omega) (by omega) x1, m1, m2]
    have vr : nd (tPush T k) (2 * k + 1) = mkN (gW n (2 * k + 1)) (S.2 0 (44 + k)) (S.2 0 (172 + k)) (nd T (2 * k + 1)) := by
      rw [np _ h1, if_neg (by omega), if_neg (by omega), if_pos rfl, lay_wd hL h40 (by omega) (by omega) x2, m1, m2]
    obtain ⟨R1, R2, R3, R4⟩ := push_R h40 h1 h2 c hRk (hR _ (by omega) (by omega) x1) (hR _ (by omega) (by omega) x2) vk vl vr
    have vo : ∀ x, ¬ x = k → ¬ x = 2 * k → ¬ x = 2 * k + 1 → nd (tPush T k) x = nd T x := fun x q1 q2 q3 => by rw [np x h1, if_neg q1, if_neg q2, if_neg q3]
    refine ⟨⟨⟨n1, h40⟩, a2, by rw [pw_4.1]; exact a3⟩, ⟨by rw [pw_4.2.1]; exact b1, by rw [pw_4.2.2.2, ← b2]; rfl, by rw [pw_4.2.2.1]; exact b3⟩, hL, fun x q1 q2 q3 => ?_, fun x q1 q2 q3 => ?_, fun i hi => ?_⟩
    · by_cases y1 : x = k
      · rw [y1]; exact R1
      · by_cases y2 : x = 2 * k
        · rw [y2]; exact R2
        · by_cases y3 : x = 2 * k + 1
          · rw [y3]; exact R3
          · obtain ⟨e8, e9⟩ := pw_m (w := S.2 0) h40 h1 h2 c q2 y1 y2 y3
            exact (hR x q1 q2 q3).cong (fun i ha hb => pw_el h40 h1 h2 c R4 7 x q1 q2 (by omega) y2 y3 ha hb) (vo x y1 y2 y3) e8 e9
    · have e9 := vo x (fun z => q3 (by rw [z]; omega)) (fun z => q3 (by rw [z]; exact x1)) (fun z => q3 (by rw [z]; exact x2))
      have p1 : tfa (tPush T k) x = tfa T x := congrArg (fun r : NR => r.2.2.2.1) e9
      have p2 : tog (tPush T k) x = tog T x := congrArg (fun r : NR => r.2.2.2.2) e9
      exact ⟨p1.trans (hX x q1 q2 q3).1, p2.trans (hX x q1 q2 q3).2⟩
    · rw [pw_el h40 h1 h2 c R4 7 1 (by decide) (by decide) (by decide) (by omega) (by omega) (by rw [gp_1]; exact Nat.zero_le _) (by rw [gp_1]; exact hi)]
      exact hV i hi
  · have hdo : ¬ tDo T k := fun z => mk (by have := z.2; rw [← m1, ← m2]; exact this)
    have eT : tPushIf T k = T := if_neg hdo
    rw [push_no mk, eT]
    exact ⟨⟨⟨⟨n1, h40⟩, a2, a3⟩, ⟨b1, b2, b3⟩, hL, hR, hX, hV⟩, (decide_eq_false hdo).symm⟩
theorem Rel_all {n : Nat} : ∀ (fu k c : Nat) (T : TS) (S : ZS), 1 ≤ k → k + fu = 128 → Rel n T (S.2 0) → Rel n (zup tPE fu k (T, c)).1 ((g_m_allPushes_L n fu c k S).2.2 0) ∧ (zup tPE fu k (T, c)).2 = (g_m_allPushes_L n fu c k S).1 := by
  intro fu
  induction fu with
  | zero => intro k c T S _ _ h; exact ⟨h, rfl⟩
  | succ fu ih =>
    intro k c T S h1 h2 h
    have h40 := h.1.1.2
    have hL := h.2.2.1
    have h9 := gp_40 n k h40
    show Rel n (zup tPE fu (k + 1) (tPushIf T k, if tDo T k then c + 1 else c)).1 _ ∧ (zup tPE fu (k + 1) (tPushIf T k, if tDo T k then c + 1 else c)).2 = _
    rw [g_m_allPushes_L]
    by_cases ci : (gp n k).1 + 2 ≤ (gp n k).2
    · have cz : ¬ nI (gp n k).2 - 1 ≤ nI ((gp n k).1) := fun z => by have := zgp_ge h9.1 h9.2 z; omega
      rw [if_neg cz]
      obtain ⟨r1, r2⟩ := Rel_push h h1 (by omega) ci
      by_cases d : tDo T k
      · rw [if_pos d, if_pos (by rw [r2]; exact decide_eq_true d)]
        exact ih (k + 1) (c + 1) _ _ (by omega) (by omega) r1
      · rw [if_neg d, if_neg (by rw [r2, decide_eq_false d]; decide)]
        exact ih (k + 1) c _ _ (by omega) (by omega) r1
    · have d : ¬ tDo T k := fun z => ci ((lay_in hL h40 h1 (by omega)).mp z.1.2)
      have cz : nI (gp n k).2 - 1 ≤ nI ((gp n k).1) := Classical.byContradiction (fun z => ci (by have := zgp_lt h9.1 h9.2 z; omega))
      rw [if_pos cz, if_neg d]
      have eT : tPushIf T k = T := if_neg d
      rw [eT]
      exact ih (k + 1) c _ _ (by omega) (by omega) h
theorem Rel_pushEach {n : Nat} {T : TS} {S : ZS} (h : Rel n T (S.2 0)) : Rel n (tPushEach T).1 ((g_m_allPushes n S).2.2 0) ∧ (tPushEach T).2 = (g_m_allPushes n S).1 := by
  have e0 : (g_m_grows n S).2 0 = S.2 0 := (mEq_grows (n := n) S h.1.1.1 h.1.1.2).2 0 (by decide) (by decide) (by decide)
  exact Rel_all 127 1 0 T (g_m_grows n S) (by decide) (by decide) (by rw [e0]; exact h)
