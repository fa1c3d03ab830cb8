variable {sc : SC}

theorem ends_eq {n k : Nat} (h40 : n ≤ 40) (S : ZS) : g_m_ends n k S = decide ((gp n k).2 = (gp n k).1 + 1) := by
  have ha40 := gp_40 n k h40
  rw [g_m_ends]
  by_cases c : nI (gp n k).1 = nI (gp n k).2 - 1
  · rw [if_pos c, decide_eq_true ((zgp_eq ha40.1 ha40.2).mp c)]
  · rw [if_neg c, decide_eq_false (fun e => c ((zgp_eq ha40.1 ha40.2).mpr e))]
theorem isNode_eq {n k : Nat} (h40 : n ≤ 40) (S : ZS) : g_m_isNode n k S = (decide ((gp n k).1 < (gp n k).2), g_m_grows n S) := by
  have ha40 := gp_40 n k h40
  have hle := gp_le n k
  rw [g_m_isNode]
  by_cases c : nI (gp n k).2 - 1 < nI (gp n k).1
  · rw [if_pos c]
    have h9 : ¬ (gp n k).1 < (gp n k).2 := fun e => by
      have e1 : nI (gp n k).2 - 1 = nI ((gp n k).2 - 1) := pk_sub (a := (gp n k).2) (b := 1) (by omega)
      rw [e1, nI_ltI (by omega) (by omega)] at c
      omega
    rw [decide_eq_false h9]
  · rw [if_neg c]
    have h9 : (gp n k).1 < (gp n k).2 := by
      rcases Nat.lt_or_ge (gp n k).1 (gp n k).2 with q | q
      · exact q
      · exfalso
        have e0 : (gp n k).1 = (gp n k).2 := by omega
        apply c
        rw [← e0]
        have e1 : (nI (gp n k).1 - 1).toInt = (gp n k).1 - 1 := by
          have := pk_sub_toInt (a := (gp n k).1) (b := 1) (by omega) (by decide)
          exact this
        rw [Int32.lt_iff_toInt_lt, e1, nI_toInt (by omega)]
        omega
    rw [decide_eq_true h9]
theorem mLx_gr {tl n : Nat} {S : ZS} (h : mLx tl S) (h1 : 1 ≤ n) (h40 : n ≤ 40) : mLx tl (g_m_grows n S) := by
  have g := (mEq_grows S h1 h40).1
  have e1 := g 10 (by decide)
  have e2 := g 24 (by decide)
  have e3 := g 25 (by decide)
  have e4 : me (g_m_grows n S) = me S := by rw [me, e3, me]
  have e5 : mo (g_m_grows n S) = mo S := by rw [mo, e2, mo]
  exact ⟨⟨e1.trans h.1.1, h.1.2.1, by rw [e3, e4]; exact h.1.2.2.1, by rw [e4]; exact h.1.2.2.2⟩, by rw [e2, e5]; exact h.2.1, by rw [e4, e5]; exact h.2.2⟩
noncomputable def g_m_readsPush (tl : Nat) (n : Nat) (k : Nat) (S : ZS) : Bool × ZS := (if ((g_m_is (3) S).1) = true then (if ((g_m_isNode n k S).1) = true then (if ((g_m_ends n k (g_m_next tl (g_m_grows n S)))) = true then (if ((g_m_stops (false) (g_m_next tl (g_m_grows n S))).1) = true then (true, (g_m_pushes n k (g_m_next tl (g_m_grows n S))).2) else (false, (g_m_stops (false) (g_m_next tl (g_m_grows n S))).2)) else (if ((g_m_stops (true) (g_m_next tl (g_m_grows n S))).1) = true then (true, (g_m_pushes n k (g_m_next tl (g_m_grows n S))).2) else (false, (g_m_stops (true) (g_m_next tl (g_m_grows n S))).2))) else (false, (g_m_fail (2) (g_m_grows n S)).2)) else (false, (g_m_is (3) S).2))
theorem k_m_readsPush (tl : Nat) (n : Nat) (k : Nat) (S : ZS) (hL : mLx tl S) (h1 : 1 ≤ n) (h40 : n ≤ 40) (hO : mOK n S) (k1 : 1 ≤ k) (k2 : k < 128) (hk : S.1 26 = nI k) : zM sc yX7_readsPush cX7_readsPush 2 (some .boolean) 3 0 0 [.ref 0] (mh S) (.inl (some (.int (zb (g_m_readsPush tl n k S).1)))) (mh (g_m_readsPush tl n k S).2) := by
  refine zM.at (ls := [some (.ref 0), none]) zy_X7_readsPush.2.2.2.2.2 (Nat.le_of_ble_eq_true rfl) rfl ?_
  refine z_aload_0 dX7_readsPush_0 ?_
  refine z_iconst (v := 3) dX7_readsPush_1 rfl ?_
  refine Z.call0s (zRun.V (ρ := fun i => i) (k_m_is (3) S ) dX7_readsPush_2 zy_X7_is zm_X7_179 rfl rfl rfl rfl (Nat.le_of_ble_eq_true rfl) (by decide) (by decide)) (zlen2 14 rfl rfl) ?_
  refine z_ifB_ne (tgt := 10) dX7_readsPush_5 (by decide) (fun c5 => ?_) (fun c5 => ?_)
  · refine Z.heap (h2 := mh S) (by rw [is_t2 c5]) ?_
    refine z_aload_0 dX7_readsPush_10 ?_
    refine z_get (k := 26) (v := .int (S.1 26)) dX7_readsPush_11 rfl rfl rfl (by decide) zf_X7_171 zw_in7 ?_
    refine z_topi (w := nI (k)) hk ?_
    refine z_istore_1 dX7_readsPush_14 rfl (by decide) ?_
    refine z_aload_0 dX7_readsPush_15 ?_
    refine z_iload_1 dX7_readsPush_16 ?_
    refine Z.call0s (zRun.V (ρ := fun i => i) (k_m_isNode n k S h1 h40 k1 k2 hO) dX7_readsPush_17 zy_X7_isNode zm_X7_210 rfl rfl rfl rfl (Nat.le_of_ble_eq_true rfl) (by decide) (by decide)) (zlen2 14 rfl rfl) ?_
    refine Z.heap (h2 := mh (g_m_grows n S)) (by rw [isNode_2]) ?_
    refine z_ifB_ne (tgt := 29) dX7_readsPush_20 (by decide) (fun c20 => ?_) (fun c20 => ?_)
    · refine z_aload_0 dX7_readsPush_29 ?_
      refine Z.call0n (zRun.V (ρ := fun i => i) (k_m_next tl (g_m_grows n S) (mLx_gr hL h1 h40).tk) dX7_readsPush_30 zy_X7_next zm_X7_182 rfl rfl rfl rfl (Nat.le_of_ble_eq_true rfl) (by decide) (by decide)) (zlen2 14 rfl rfl) ?_
      refine z_aload_0 dX7_readsPush_33 ?_
      refine z_aload_0 dX7_readsPush_34 ?_
      refine z_iload_1 dX7_readsPush_35 ?_
      refine Z.call0s (zRun.V (ρ := fun i => i) (k_m_ends n k (g_m_next tl (g_m_grows n S)) k1 k2 ((kp_next (mLx_gr hL h1 h40).tk).gr (mGr_of h1 h40 hO))) dX7_readsPush_36 zy_X7_ends zm_X7_93 rfl rfl rfl rfl (Nat.le_of_ble_eq_true rfl) (by decide) (by decide)) (zlen2 14 rfl rfl) ?_
      have hp := c20
      rw [isNode_eq h40, decide_eq_true_eq] at hp
      have h64 : ¬ g_m_ends n k (g_m_next tl (g_m_grows n S)) = true → k < 64 := fun z => by
        rw [ends_eq h40, decide_eq_true_eq] at z
        exact gp_near n k h40 k2 (by omega)
      refine z_ifB_ne (tgt := 46) dX7_readsPush_39 (by decide) (fun c39 => ?_) (fun c39 => ?_)
      · skip
        refine z_iconst (v := 0) dX7_readsPush_46 rfl ?_
        refine Z.call0s (zRun.V (ρ := fun i => i) (k_m_stops (false) (g_m_next tl (g_m_grows n S)) ) dX7_readsPush_47 zy_X7_stops zm_X7_203 rfl rfl rfl rfl (Nat.le_of_ble_eq_true rfl) (by decide) (by decide)) (zlen2 14 rfl rfl) ?_
        refine z_ifB_ne (tgt := 55) dX7_readsPush_50 (by decide) (fun c50 => ?_) (fun c50 => ?_)
        · refine Z.heap (h2 := mh (g_m_next tl (g_m_grows n S))) (by rw [(stops_t2 c50).1]) ?_
          refine z_aload_0 dX7_readsPush_55 ?_
          refine z_iload_1 dX7_readsPush_56 ?_
          refine Z.call0s (zRun.V (ρ := fun i => i) (k_m_pushes n k (g_m_next tl (g_m_grows n S)) k1 (by first | exact h64 c39 | exact absurd (stops_t2 c50).2.1 Bool.false_ne_true) h40 ((kp_next (mLx_gr hL h1 h40).tk).gr (mGr_of h1 h40 hO))) dX7_readsPush_57 zy_X7_pushes zm_X7_109 rfl rfl rfl rfl (Nat.le_of_ble_eq_true rfl) (by decide) (by decide)) (zlen2 14 rfl rfl) ?_
          refine z_pop dX7_readsPush_60 rfl ?_
          refine z_iconst (v := 1) dX7_readsPush_61 rfl ?_
          rw [g_m_readsPush, if_pos c5, if_pos c20, if_pos c39, if_pos c50]
          exact z_iret dX7_readsPush_62 rfl rfl rfl rfl
        · refine z_iconst (v := 0) dX7_readsPush_53 rfl ?_
          rw [g_m_readsPush, if_pos c5, if_pos c20, if_pos c39, if_neg c50]
          exact z_iret dX7_readsPush_54 rfl rfl rfl rfl
      · refine z_iconst (v := 1) dX7_readsPush_42 rfl ?_
        refine z_goto (tgt := 47) dX7_readsPush_43 (by decide) ?_
        refine Z.call0s (zRun.V (ρ := fun i => i) (k_m_stops (true) (g_m_next tl (g_m_grows n S)) ) dX7_readsPush_47 zy_X7_stops zm_X7_203 rfl rfl rfl rfl (Nat.le_of_ble_eq_true rfl) (by decide) (by decide)) (zlen2 14 rfl rfl) ?_
        refine z_ifB_ne (tgt := 55) dX7_readsPush_50 (by decide) (fun c50 => ?_) (fun c50 => ?_)
        · refine Z.heap (h2 := mh (g_m_next tl (g_m_grows n S))) (by rw [(stops_t2 c50).1]) ?_
          refine z_aload_0 dX7_readsPush_55 ?_
          refine z_iload_1 dX7_readsPush_56 ?_
          refine Z.call0s (zRun.V (ρ := fun i => i) (k_m_pushes n k (g_m_next tl (g_m_grows n S)) k1 (by first | exact h64 c39 | exact absurd (stops_t2 c50).2.1 Bool.false_ne_true) h40 ((kp_next (mLx_gr hL h1 h40).tk).gr (mGr_of h1 h40 hO))) dX7_readsPush_57 zy_X7_pushes zm_X7_109 rfl rfl rfl rfl (Nat.le_of_ble_eq_true rfl) (by decide) (by decide)) (zlen2 14 rfl rfl) ?_
          refine z_pop dX7_readsPush_60 rfl ?_
          refine z_iconst (v := 1) dX7_readsPush_61 rfl ?_
          rw [g_m_readsPush, if_pos c5, if_pos c20, if_neg c39, if_pos c50]
          exact z_iret dX7_readsPush_62 rfl rfl rfl rfl
        · refine z_iconst (v := 0) dX7_readsPush_53 rfl ?_
          rw [g_m_readsPush, if_pos c5, if_pos c20, if_neg c39, if_neg c50]
          exact z_iret dX7_readsPush_54 rfl rfl rfl rfl
    · refine z_aload_0 dX7_readsPush_23 ?_
      refine z_iconst (v := 2) dX7_readsPush_24 rfl ?_
      refine Z.call0s (zRun.V (ρ := fun i => i) (k_m_fail (2) (g_m_grows n S) ) dX7_readsPush_25 zy_X7_fail zm_X7_176 rfl rfl rfl rfl (Nat.le_of_ble_eq_true rfl) (by decide) (by decide)) (zlen2 14 rfl rfl) ?_
      refine z_topi (w := 0) (by rw [fail_1]; rfl) ?_
      rw [g_m_readsPush, if_pos c5, if_neg c20]
      exact z_iret dX7_readsPush_28 rfl rfl rfl rfl
  · refine z_iconst (v := 0) dX7_readsPush_8 rfl ?_
    rw [g_m_readsPush, if_neg c5]
    exact z_iret dX7_readsPush_9 rfl rfl rfl rfl
noncomputable def g_m_readsPushX (_tl : Nat) (n : Nat) (S : ZS) : Bool × ZS := (if ((g_m_is (3) S).1) = true then (false, (g_m_fail (2) ((g_m_isNodeX n (S.1 26) S).2)).2) else (false, (g_m_is (3) S).2))
theorem k_m_readsPushX (tl : Nat) (n : Nat) (S : ZS) (hL : mLx tl S) (h1 : 1 ≤ n) (h40 : n ≤ 40) (hO : mOK n S) (hx : ¬ (1 ≤ S.1 26 ∧ S.1 26 ≤ 127)) : zM sc yX7_readsPush cX7_readsPush 2 (some .boolean) 3 0 0 [.ref 0] (mh S) (.inl (some (.int (zb (g_m_readsPushX tl n S).1)))) (mh (g_m_readsPushX tl n S).2) := by
  refine zM.at (ls := [some (.ref 0), none]) zy_X7_readsPush.2.2.2.2.2 (Nat.le_of_ble_eq_true rfl) rfl ?_
  refine z_aload_0 dX7_readsPush_0 ?_
  refine z_iconst (v := 3) dX7_readsPush_1 rfl ?_
  refine Z.call0s (zRun.V (ρ := fun i => i) (k_m_is (3) S ) dX7_readsPush_2 zy_X7_is zm_X7_179 rfl rfl rfl rfl (Nat.le_of_ble_eq_true rfl) (by decide) (by decide)) (zlen2 14 rfl rfl) ?_
  refine z_ifB_ne (tgt := 10) dX7_readsPush_5 (by decide) (fun c5 => ?_) (fun c5 => ?_)
  · refine Z.heap (h2 := mh S) (by rw [is_t2 c5]) ?_
    refine z_aload_0 dX7_readsPush_10 ?_
    refine z_get (k := 26) (v := .int (S.1 26)) dX7_readsPush_11 rfl rfl rfl (by decide) zf_X7_171 zw_in7 ?_
    refine z_istore_1 dX7_readsPush_14 rfl (by decide) ?_
    refine z_aload_0 dX7_readsPush_15 ?_
    refine z_iload_1 dX7_readsPush_16 ?_
    refine Z.call0s (zRun.V (ρ := fun i => i) (k_m_isNodeX n (S.1 26) S h1 h40 hx hO) dX7_readsPush_17 zy_X7_isNode zm_X7_210 rfl rfl rfl rfl (Nat.le_of_ble_eq_true rfl) (by decide) (by decide)) (zlen2 14 rfl rfl) ?_
    refine z_ifB_ne_f (tgt := 29) dX7_readsPush_20 (by decide) (by rw [g_m_isNodeX]; exact Bool.false_ne_true) ?_
    refine z_aload_0 dX7_readsPush_23 ?_
    refine z_iconst (v := 2) dX7_readsPush_24 rfl ?_
    refine Z.call0s (zRun.V (ρ := fun i => i) (k_m_fail (2) ((g_m_isNodeX n (S.1 26) S).2) ) dX7_readsPush_25 zy_X7_fail zm_X7_176 rfl rfl rfl rfl (Nat.le_of_ble_eq_true rfl) (by decide) (by decide)) (zlen2 14 rfl rfl) ?_
    refine z_topi (w := 0) (by rw [fail_1]; rfl) ?_
    rw [g_m_readsPushX, if_pos c5]
    exact z_iret dX7_readsPush_28 rfl rfl rfl rfl
  · refine z_iconst (v := 0) dX7_readsPush_8 rfl ?_
    rw [g_m_readsPushX, if_neg c5]
    exact z_iret dX7_readsPush_9 rfl rfl rfl rfl
