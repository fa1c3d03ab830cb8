variable {sc : SC}

noncomputable def g_m_firstIndex (n : Nat) (k : Nat) (S : ZS) : Int32 × ZS := (nI ((gp n k).1), (sI 15 (0) (g_m_grows n S)))
theorem k_m_firstIndex (n : Nat) (k : Nat) (S : ZS) (h1 : 1 ≤ n) (h40 : n ≤ 40) (k1 : 1 ≤ k) (k2 : k < 128) (hp : (gp n k).1 < (gp n k).2) (hO : mOK n S) : zM sc yX7_firstIndex cX7_firstIndex 2 (some .int) 2 0 0 [.ref 0, .int (nI (k))] (mh S) (.inl (some (.int (g_m_firstIndex n k S).1))) (mh (g_m_firstIndex n k S).2) := by
  refine zM.at (ls := [some (.ref 0), some (.int (nI (k)))]) zy_X7_firstIndex.2.2.2.2.2 (Nat.le_of_ble_eq_true rfl) rfl ?_
  refine z_aload_0 dX7_firstIndex_0 ?_
  refine z_aload_0 dX7_firstIndex_1 ?_
  refine z_iload_1 dX7_firstIndex_2 ?_
  refine Z.call0s (zRun.V (ρ := fun i => i) (k_m_isNode n k S h1 h40 k1 k2 hO) dX7_firstIndex_3 zy_X7_isNode zm_X7_210 rfl rfl rfl rfl (Nat.le_of_ble_eq_true rfl) (by decide) (by decide)) (zlen2 14 rfl rfl) ?_
  refine z_topi (w := 1) (by rw [isNode_eq h40, decide_eq_true hp]; rfl) ?_
  refine Z.heap (h2 := mh (g_m_grows n S)) (by rw [isNode_2]) ?_
  refine z_if_ne_t (tgt := 13) dX7_firstIndex_6 (by decide) (by decide) ?_
  refine z_iconst (v := 0) dX7_firstIndex_13 rfl ?_
  refine Z.call0s (zRun.V (ρ := fun i => i) (k_m_throwsOne (false) (g_m_grows n S) ) dX7_firstIndex_14 zy_X7_throwsOne zm_X7_284 rfl rfl rfl rfl (Nat.le_of_ble_eq_true rfl) (by decide) (by decide)) (zlen2 14 rfl rfl) ?_
  refine Z.heap (h2 := mh (sI 15 (0) (g_m_grows n S))) rfl ?_
  refine z_topi (w := 0) rfl ?_
  refine z_if_eq_t (tgt := 24) dX7_firstIndex_17 (by decide) (by decide) ?_
  refine z_aload_0 dX7_firstIndex_24 ?_
  refine z_get (k := 16) (v := .ref 9) dX7_firstIndex_25 rfl rfl rfl (by decide) zf_X7_39 zw_in7 ?_
  refine z_iload_1 dX7_firstIndex_28 ?_
  refine z_ialdN (k := k) dX7_firstIndex_29 rfl (by first | omega | assumption) (by decide) ?_
  refine z_topi (w := ((g_m_grows n S)).2 8 (k)) (by rw [sI_2]) ?_
  refine z_topi (w := nI ((gp n k).1)) ((mGr_of h1 h40 hO).lo (by first | omega | assumption)) ?_
  rw [g_m_firstIndex]
  exact z_iret dX7_firstIndex_30 rfl (zint _) rfl rfl
noncomputable def g_m_firstIndex_x1 (n : Nat) (_k : Nat) (S : ZS) : Int32 × ZS := (0, (sI 15 (1) (g_m_grows n S)))
theorem k_m_firstIndex_x1 (n : Nat) (k : Nat) (S : ZS) (h1 : 1 ≤ n) (h40 : n ≤ 40) (k1 : 1 ≤ k) (k2 : k < 128) (hp : ¬ (gp n k).1 < (gp n k).2) (hO : mOK n S) : zM sc yX7_firstIndex cX7_firstIndex 2 (some .int) 2 0 0 [.ref 0, .int (nI (k))] (mh S) (.inl (some (.int (g_m_firstIndex_x1 n k S).1))) (mh (g_m_firstIndex_x1 n k S).2) := by
  refine zM.at (ls := [some (.ref 0), some (.int (nI (k)))]) zy_X7_firstIndex.2.2.2.2.2 (Nat.le_of_ble_eq_true rfl) rfl ?_
  refine z_aload_0 dX7_firstIndex_0 ?_
  refine z_aload_0 dX7_firstIndex_1 ?_
  refine z_iload_1 dX7_firstIndex_2 ?_
  refine Z.call0s (zRun.V (ρ := fun i => i) (k_m_isNode n k S h1 h40 k1 k2 hO) dX7_firstIndex_3 zy_X7_isNode zm_X7_210 rfl rfl rfl rfl (Nat.le_of_ble_eq_true rfl) (by decide) (by decide)) (zlen2 14 rfl rfl) ?_
  refine z_topi (w := 0) (by rw [isNode_eq h40, decide_eq_false hp]; rfl) ?_
  refine Z.heap (h2 := mh (g_m_grows n S)) (by rw [isNode_2]) ?_
  refine z_if_ne_f (tgt := 13) dX7_firstIndex_6 (by decide) (by decide) ?_
  refine z_iconst (v := 1) dX7_firstIndex_9 rfl ?_
  refine z_goto (tgt := 14) dX7_firstIndex_10 (by decide) ?_
  refine Z.call0s (zRun.V (ρ := fun i => i) (k_m_throwsOne (true) (g_m_grows n S) ) dX7_firstIndex_14 zy_X7_throwsOne zm_X7_284 rfl rfl rfl rfl (Nat.le_of_ble_eq_true rfl) (by decide) (by decide)) (zlen2 14 rfl rfl) ?_
  refine Z.heap (h2 := mh (sI 15 (1) (g_m_grows n S))) rfl ?_
  refine z_topi (w := 1) rfl ?_
  refine z_if_eq_f (tgt := 24) dX7_firstIndex_17 (by decide) (by decide) ?_
  refine z_iconst (v := 0) dX7_firstIndex_20 rfl ?_
  refine z_goto (tgt := 30) dX7_firstIndex_21 (by decide) ?_
  rw [g_m_firstIndex_x1]
  exact z_iret dX7_firstIndex_30 rfl (zint _) rfl rfl
noncomputable def g_m_firstIndex_x2 (n : Nat) (_x : Int32) (S : ZS) : Int32 × ZS := (0, (sI 15 (1) (g_m_grows n S)))
theorem k_m_firstIndex_x2 (n : Nat) (x : Int32) (S : ZS) (h1 : 1 ≤ n) (h40 : n ≤ 40) (hx : ¬ (1 ≤ x ∧ x ≤ 127)) (hO : mOK n S) : zM sc yX7_firstIndex cX7_firstIndex 2 (some .int) 2 0 0 [.ref 0, .int (x)] (mh S) (.inl (some (.int (g_m_firstIndex_x2 n x S).1))) (mh (g_m_firstIndex_x2 n x S).2) := by
  refine zM.at (ls := [some (.ref 0), some (.int (x))]) zy_X7_firstIndex.2.2.2.2.2 (Nat.le_of_ble_eq_true rfl) rfl ?_
  refine z_aload_0 dX7_firstIndex_0 ?_
  refine z_aload_0 dX7_firstIndex_1 ?_
  refine z_iload_1 dX7_firstIndex_2 ?_
  refine Z.call0s (zRun.V (ρ := fun i => i) (k_m_isNodeX n (x) S h1 h40 hx hO) dX7_firstIndex_3 zy_X7_isNode zm_X7_210 rfl rfl rfl rfl (Nat.le_of_ble_eq_true rfl) (by decide) (by decide)) (zlen2 14 rfl rfl) ?_
  refine z_topi (w := 0) rfl ?_
  refine Z.heap (h2 := mh (g_m_grows n S)) (by rw [(show (g_m_isNodeX n x S).2 = g_m_grows n S from rfl)]) ?_
  refine z_if_ne_f (tgt := 13) dX7_firstIndex_6 (by decide) (by decide) ?_
  refine z_iconst (v := 1) dX7_firstIndex_9 rfl ?_
  refine z_goto (tgt := 14) dX7_firstIndex_10 (by decide) ?_
  refine Z.call0s (zRun.V (ρ := fun i => i) (k_m_throwsOne (true) (g_m_grows n S) ) dX7_firstIndex_14 zy_X7_throwsOne zm_X7_284 rfl rfl rfl rfl (Nat.le_of_ble_eq_true rfl) (by decide) (by decide)) (zlen2 14 rfl rfl) ?_
  refine Z.heap (h2 := mh (sI 15 (1) (g_m_grows n S))) rfl ?_
  refine z_topi (w := 1) rfl ?_
  refine z_if_eq_f (tgt := 24) dX7_firstIndex_17 (by decide) (by decide) ?_
  refine z_iconst (v := 0) dX7_firstIndex_20 rfl ?_
  refine z_goto (tgt := 30) dX7_firstIndex_21 (by decide) ?_
  rw [g_m_firstIndex_x2]
  exact z_iret dX7_firstIndex_30 rfl (zint _) rfl rfl
noncomputable def g_m_lastIndex (n : Nat) (k : Nat) (S : ZS) : Int32 × ZS := (nI (gp n k).2 - 1, (sI 15 (0) (g_m_grows n S)))
theorem k_m_lastIndex (n : Nat) (k : Nat) (S : ZS) (h1 : 1 ≤ n) (h40 : n ≤ 40) (k1 : 1 ≤ k) (k2 : k < 128) (hp : (gp n k).1 < (gp n k).2) (hO : mOK n S) : zM sc yX7_lastIndex cX7_lastIndex 2 (some .int) 2 0 0 [.ref 0, .int (nI (k))] (mh S) (.inl (some (.int (g_m_lastIndex n k S).1))) (mh (g_m_lastIndex n k S).2) := by
  refine zM.at (ls := [some (.ref 0), some (.int (nI (k)))]) zy_X7_lastIndex.2.2.2.2.2 (Nat.le_of_ble_eq_true rfl) rfl ?_
  refine z_aload_0 dX7_lastIndex_0 ?_
  refine z_aload_0 dX7_lastIndex_1 ?_
  refine z_iload_1 dX7_lastIndex_2 ?_
  refine Z.call0s (zRun.V (ρ := fun i => i) (k_m_isNode n k S h1 h40 k1 k2 hO) dX7_lastIndex_3 zy_X7_isNode zm_X7_210 rfl rfl rfl rfl (Nat.le_of_ble_eq_true rfl) (by decide) (by decide)) (zlen2 14 rfl rfl) ?_
  refine z_topi (w := 1) (by rw [isNode_eq h40, decide_eq_true hp]; rfl) ?_
  refine Z.heap (h2 := mh (g_m_grows n S)) (by rw [isNode_2]) ?_
  refine z_if_ne_t (tgt := 13) dX7_lastIndex_6 (by decide) (by decide) ?_
  refine z_iconst (v := 0) dX7_lastIndex_13 rfl ?_
  refine Z.call0s (zRun.V (ρ := fun i => i) (k_m_throwsOne (false) (g_m_grows n S) ) dX7_lastIndex_14 zy_X7_throwsOne zm_X7_284 rfl rfl rfl rfl (Nat.le_of_ble_eq_true rfl) (by decide) (by decide)) (zlen2 14 rfl rfl) ?_
  refine Z.heap (h2 := mh (sI 15 (0) (g_m_grows n S))) rfl ?_
  refine z_topi (w := 0) rfl ?_
  refine z_if_eq_t (tgt := 24) dX7_lastIndex_17 (by decide) (by decide) ?_
  refine z_aload_0 dX7_lastIndex_24 ?_
  refine z_get (k := 17) (v := .ref 10) dX7_lastIndex_25 rfl rfl rfl (by decide) zf_X7_42 zw_in7 ?_
  refine z_iload_1 dX7_lastIndex_28 ?_
  refine z_ialdN (k := k) dX7_lastIndex_29 rfl (by first | omega | assumption) (by decide) ?_
  refine z_topi (w := ((g_m_grows n S)).2 9 (k)) (by rw [sI_2]) ?_
  refine z_topi (w := nI (gp n k).2 - 1) ((mGr_of h1 h40 hO).hi (by first | omega | assumption)) ?_
  rw [g_m_lastIndex]
  exact z_iret dX7_lastIndex_30 rfl (zint _) rfl rfl
noncomputable def g_m_lastIndex_x1 (n : Nat) (_k : Nat) (S : ZS) : Int32 × ZS := (0, (sI 15 (1) (g_m_grows n S)))
theorem k_m_lastIndex_x1 (n : Nat) (k : Nat) (S : ZS) (h1 : 1 ≤ n) (h40 : n ≤ 40) (k1 : 1 ≤ k) (k2 : k < 128) (hp : ¬ (gp n k).1 < (gp n k).2) (hO : mOK n S) : zM sc yX7_lastIndex cX7_lastIndex 2 (some .int) 2 0 0 [.ref 0, .int (nI (k))] (mh S) (.inl (some (.int (g_m_lastIndex_x1 n k S).1))) (mh (g_m_lastIndex_x1 n k S).2) := by
  refine zM.at (ls := [some (.ref 0), some (.int (nI (k)))]) zy_X7_lastIndex.2.2.2.2.2 (Nat.le_of_ble_eq_true rfl) rfl ?_
  refine z_aload_0 dX7_lastIndex_0 ?_
  refine z_aload_0 dX7_lastIndex_1 ?_
  refine z_iload_1 dX7_lastIndex_2 ?_
  refine Z.call0s (zRun.V (ρ := fun i => i) (k_m_isNode n k S h1 h40 k1 k2 hO) dX7_lastIndex_3 zy_X7_isNode zm_X7_210 rfl rfl rfl rfl (Nat.le_of_ble_eq_true rfl) (by decide) (by decide)) (zlen2 14 rfl rfl) ?_
  refine z_topi (w := 0) (by rw [isNode_eq h40, decide_eq_false hp]; rfl) ?_
  refine Z.heap (h2 := mh (g_m_grows n S)) (by rw [isNode_2]) ?_
  refine z_if_ne_f (tgt := 13) dX7_lastIndex_6 (by decide) (by decide) ?_
  refine z_iconst (v := 1) dX7_lastIndex_9 rfl ?_
  refine z_goto (tgt := 14) dX7_lastIndex_10 (by decide) ?_
  refine Z.call0s (zRun.V (ρ := fun i => i) (k_m_throwsOne (true) (g_m_grows n S) ) dX7_lastIndex_14 zy_X7_throwsOne zm_X7_284 rfl rfl rfl rfl (Nat.le_of_ble_eq_true rfl) (by decide) (by decide)) (zlen2 14 rfl rfl) ?_
  refine Z.heap (h2 := mh (sI 15 (1) (g_m_grows n S))) rfl ?_
  refine z_topi (w := 1) rfl ?_
  refine z_if_eq_f (tgt := 24) dX7_lastIndex_17 (by decide) (by decide) ?_
  refine z_iconst (v := 0) dX7_lastIndex_20 rfl ?_
  refine z_goto (tgt := 30) dX7_lastIndex_21 (by decide) ?_
  rw [g_m_lastIndex_x1]
  exact z_iret dX7_lastIndex_30 rfl (zint _) rfl rfl
noncomputable def g_m_lastIndex_x2 (n : Nat) (_x : Int32) (S : ZS) : Int32 × ZS := (0, (sI 15 (1) (g_m_grows n S)))
theorem k_m_lastIndex_x2 (n : Nat) (x : Int32) (S : ZS) (h1 : 1 ≤ n) (h40 : n ≤ 40) (hx : ¬ (1 ≤ x ∧ x ≤ 127)) (hO : mOK n S) : zM sc yX7_lastIndex cX7_lastIndex 2 (some .int) 2 0 0 [.ref 0, .int (x)] (mh S) (.inl (some (.int (g_m_lastIndex_x2 n x S).1))) (mh (g_m_lastIndex_x2 n x S).2) := by
  refine zM.at (ls := [some (.ref 0), some (.int (x))]) zy_X7_lastIndex.2.2.2.2.2 (Nat.le_of_ble_eq_true rfl) rfl ?_
  refine z_aload_0 dX7_lastIndex_0 ?_
  refine z_aload_0 dX7_lastIndex_1 ?_
  refine z_iload_1 dX7_lastIndex_2 ?_
  refine Z.call0s (zRun.V (ρ := fun i => i) (k_m_isNodeX n (x) S h1 h40 hx hO) dX7_lastIndex_3 zy_X7_isNode zm_X7_210 rfl rfl rfl rfl (Nat.le_of_ble_eq_true rfl) (by decide) (by decide)) (zlen2 14 rfl rfl) ?_
  refine z_topi (w := 0) rfl ?_
  refine Z.heap (h2 := mh (g_m_grows n S)) (by rw [(show (g_m_isNodeX n x S).2 = g_m_grows n S from rfl)]) ?_
  refine z_if_ne_f (tgt := 13) dX7_lastIndex_6 (by decide) (by decide) ?_
  refine z_iconst (v := 1) dX7_lastIndex_9 rfl ?_
  refine z_goto (tgt := 14) dX7_lastIndex_10 (by decide) ?_
  refine Z.call0s (zRun.V (ρ := fun i => i) (k_m_throwsOne (true) (g_m_grows n S) ) dX7_lastIndex_14 zy_X7_throwsOne zm_X7_284 rfl rfl rfl rfl (Nat.le_of_ble_eq_true rfl) (by decide) (by decide)) (zlen2 14 rfl rfl) ?_
  refine Z.heap (h2 := mh (sI 15 (1) (g_m_grows n S))) rfl ?_
  refine z_topi (w := 1) rfl ?_
  refine z_if_eq_f (tgt := 24) dX7_lastIndex_17 (by decide) (by decide) ?_
  refine z_iconst (v := 0) dX7_lastIndex_20 rfl ?_
  refine z_goto (tgt := 30) dX7_lastIndex_21 (by decide) ?_
  rw [g_m_lastIndex_x2]
  exact z_iret dX7_lastIndex_30 rfl (zint _) rfl rfl
noncomputable def g_m_markFactor (n : Nat) (k : Nat) (S : ZS) : Int32 × ZS := (((g_m_grows n S)).2 0 (44 + k), (sI 15 (0) (g_m_grows n S)))
theorem k_m_markFactor (n : Nat) (k : Nat) (S : ZS) (h1 : 1 ≤ n) (h40 : n ≤ 40) (k1 : 1 ≤ k) (k2 : k < 128) (hp : (gp n k).1 < (gp n k).2) (hO : mOK n S) : zM sc yX7_markFactor cX7_markFactor 2 (some .int) 2 0 0 [.ref 0, .int (nI (k))] (mh S) (.inl (some (.int (g_m_markFactor n k S).1))) (mh (g_m_markFactor n k S).2) := by
  refine zM.at (ls := [some (.ref 0), some (.int (nI (k)))]) zy_X7_markFactor.2.2.2.2.2 (Nat.le_of_ble_eq_true rfl) rfl ?_
  refine z_aload_0 dX7_markFactor_0 ?_
  refine z_aload_0 dX7_markFactor_1 ?_
  refine z_iload_1 dX7_markFactor_2 ?_
  refine Z.call0s (zRun.V (ρ := fun i => i) (k_m_isNode n k S h1 h40 k1 k2 hO) dX7_markFactor_3 zy_X7_isNode zm_X7_210 rfl rfl rfl rfl (Nat.le_of_ble_eq_true rfl) (by decide) (by decide)) (zlen2 14 rfl rfl) ?_
  refine z_topi (w := 1) (by rw [isNode_eq h40, decide_eq_true hp]; rfl) ?_
  refine Z.heap (h2 := mh (g_m_grows n S)) (by rw [isNode_2]) ?_
  refine z_if_ne_t (tgt := 13) dX7_markFactor_6 (by decide) (by decide) ?_
  refine z_iconst (v := 0) dX7_markFactor_13 rfl ?_
  refine Z.call0s (zRun.V (ρ := fun i => i) (k_m_throwsOne (false) (g_m_grows n S) ) dX7_markFactor_14 zy_X7_throwsOne zm_X7_284 rfl rfl rfl rfl (Nat.le_of_ble_eq_true rfl) (by decide) (by decide)) (zlen2 14 rfl rfl) ?_
  refine Z.heap (h2 := mh (sI 15 (0) (g_m_grows n S))) rfl ?_
  refine z_topi (w := 0) rfl ?_
  refine z_if_eq_t (tgt := 24) dX7_markFactor_17 (by decide) (by decide) ?_
  refine z_aload_0 dX7_markFactor_24 ?_
  refine z_get (k := 0) (v := .ref 1) dX7_markFactor_25 rfl rfl rfl (by decide) zf_X7_7 zw_in7 ?_
  refine z_bipush (v := 44) dX7_markFactor_28 rfl ?_
  refine z_iload_1 dX7_markFactor_30 ?_
  refine z_iadd dX7_markFactor_31 ?_
  refine z_topi (w := nI (44 + k)) (nI_add _ _) ?_
  refine z_ialdN (k := (44 + k)) dX7_markFactor_32 rfl (by first | omega | assumption) (by decide) ?_
  refine z_topi (w := ((g_m_grows n S)).2 0 (44 + k)) (by rw [sI_2]) ?_
  rw [g_m_markFactor]
  exact z_iret dX7_markFactor_33 rfl (zint _) rfl rfl
noncomputable def g_m_markFactor_x1 (n : Nat) (_k : Nat) (S : ZS) : Int32 × ZS := (0, (sI 15 (1) (g_m_grows n S)))
theorem k_m_markFactor_x1 (n : Nat) (k : Nat) (S : ZS) (h1 : 1 ≤ n) (h40 : n ≤ 40) (k1 : 1 ≤ k) (k2 : k < 128) (hp : ¬ (gp n k).1 < (gp n k).2) (hO : mOK n S) : zM sc yX7_markFactor cX7_markFactor 2 (some .int) 2 0 0 [.ref 0, .int (nI (k))] (mh S) (.inl (some (.int (g_m_markFactor_x1 n k S).1))) (mh (g_m_markFactor_x1 n k S).2) := by
  refine zM.at (ls := [some (.ref 0), some (.int (nI (k)))]) zy_X7_markFactor.2.2.2.2.2 (Nat.le_of_ble_eq_true rfl) rfl ?_
  refine z_aload_0 dX7_markFactor_0 ?_
  refine z_aload_0 dX7_markFactor_1 ?_
  refine z_iload_1 dX7_markFactor_2 ?_
  refine Z.call0s (zRun.V (ρ := fun i => i) (k_m_isNode n k S h1 h40 k1 k2 hO) dX7_markFactor_3 zy_X7_isNode zm_X7_210 rfl rfl rfl rfl (Nat.le_of_ble_eq_true rfl) (by decide) (by decide)) (zlen2 14 rfl rfl) ?_
  refine z_topi (w := 0) (by rw [isNode_eq h40, decide_eq_false hp]; rfl) ?_
  refine Z.heap (h2 := mh (g_m_grows n S)) (by rw [isNode_2]) ?_
  refine z_if_ne_f (tgt := 13) dX7_markFactor_6 (by decide) (by decide) ?_
  refine z_iconst (v := 1) dX7_markFactor_9 rfl ?_
  refine z_goto (tgt := 14) dX7_markFactor_10 (by decide) ?_
  refine Z.call0s (zRun.V (ρ := fun i => i) (k_m_throwsOne (true) (g_m_grows n S) ) dX7_markFactor_14 zy_X7_throwsOne zm_X7_284 rfl rfl rfl rfl (Nat.le_of_ble_eq_true rfl) (by decide) (by decide)) (zlen2 14 rfl rfl) ?_
  refine Z.heap (h2 := mh (sI 15 (1) (g_m_grows n S))) rfl ?_
  refine z_topi (w := 1) rfl ?_
  refine z_if_eq_f (tgt := 24) dX7_markFactor_17 (by decide) (by decide) ?_
  refine z_iconst (v := 0) dX7_markFactor_20 rfl ?_
  refine z_goto (tgt := 33) dX7_markFactor_21 (by decide) ?_
  rw [g_m_markFactor_x1]
  exact z_iret dX7_markFactor_33 rfl (zint _) rfl rfl
noncomputable def g_m_markFactor_x2 (n : Nat) (_x : Int32) (S : ZS) : Int32 × ZS := (0, (sI 15 (1) (g_m_grows n S)))
theorem k_m_markFactor_x2 (n : Nat) (x : Int32) (S : ZS) (h1 : 1 ≤ n) (h40 : n ≤ 40) (hx : ¬ (1 ≤ x ∧ x ≤ 127)) (hO : mOK n S) : zM sc yX7_markFactor cX7_markFactor 2 (some .int) 2 0 0 [.ref 0, .int (x)] (mh S) (.inl (some (.int (g_m_markFactor_x2 n x S).1))) (mh (g_m_markFactor_x2 n x S).2) := by
  refine zM.at (ls := [some (.ref 0), some (.int (x))]) zy_X7_markFactor.2.2.2.2.2 (Nat.le_of_ble_eq_true rfl) rfl ?_
  refine z_aload_0 dX7_markFactor_0 ?_
  refine z_aload_0 dX7_markFactor_1 ?_
  refine z_iload_1 dX7_markFactor_2 ?_
  refine Z.call0s (zRun.V (ρ := fun i => i) (k_m_isNodeX n (x) S h1 h40 hx hO) dX7_markFactor_3 zy_X7_isNode zm_X7_210 rfl rfl rfl rfl (Nat.le_of_ble_eq_true rfl) (by decide) (by decide)) (zlen2 14 rfl rfl) ?_
  refine z_topi (w := 0) rfl ?_
  refine Z.heap (h2 := mh (g_m_grows n S)) (by rw [(show (g_m_isNodeX n x S).2 = g_m_grows n S from rfl)]) ?_
  refine z_if_ne_f (tgt := 13) dX7_markFactor_6 (by decide) (by decide) ?_
  refine z_iconst (v := 1) dX7_markFactor_9 rfl ?_
  refine z_goto (tgt := 14) dX7_markFactor_10 (by decide) ?_
  refine Z.call0s (zRun.V (ρ := fun i => i) (k_m_throwsOne (true) (g_m_grows n S) ) dX7_markFactor_14 zy_X7_throwsOne zm_X7_284 rfl rfl rfl rfl (Nat.le_of_ble_eq_true rfl) (by decide) (by decide)) (zlen2 14 rfl rfl) ?_
  refine Z.heap (h2 := mh (sI 15 (1) (g_m_grows n S))) rfl ?_
  refine z_topi (w := 1) rfl ?_
  refine z_if_eq_f (tgt := 24) dX7_markFactor_17 (by decide) (by decide) ?_
  refine z_iconst (v := 0) dX7_markFactor_20 rfl ?_
  refine z_goto (tgt := 33) dX7_markFactor_21 (by decide) ?_
  rw [g_m_markFactor_x2]
  exact z_iret dX7_markFactor_33 rfl (zint _) rfl rfl
noncomputable def g_m_markOffset (n : Nat) (k : Nat) (S : ZS) : Int32 × ZS := (((g_m_grows n S)).2 0 (172 + k), (sI 15 (0) (g_m_grows n S)))
theorem k_m_markOffset (n : Nat) (k : Nat) (S : ZS) (h1 : 1 ≤ n) (h40 : n ≤ 40) (k1 : 1 ≤ k) (k2 : k < 128) (hp : (gp n k).1 < (gp n k).2) (hO : mOK n S) : zM sc yX7_markOffset cX7_markOffset 2 (some .int) 2 0 0 [.ref 0, .int (nI (k))] (mh S) (.inl (some (.int (g_m_markOffset n k S).1))) (mh (g_m_markOffset n k S).2) := by
  refine zM.at (ls := [some (.ref 0), some (.int (nI (k)))]) zy_X7_markOffset.2.2.2.2.2 (Nat.le_of_ble_eq_true rfl) rfl ?_
  refine z_aload_0 dX7_markOffset_0 ?_
  refine z_aload_0 dX7_markOffset_1 ?_
  refine z_iload_1 dX7_markOffset_2 ?_
  refine Z.call0s (zRun.V (ρ := fun i => i) (k_m_isNode n k S h1 h40 k1 k2 hO) dX7_markOffset_3 zy_X7_isNode zm_X7_210 rfl rfl rfl rfl (Nat.le_of_ble_eq_true rfl) (by decide) (by decide)) (zlen2 14 rfl rfl) ?_
  refine z_topi (w := 1) (by rw [isNode_eq h40, decide_eq_true hp]; rfl) ?_
  refine Z.heap (h2 := mh (g_m_grows n S)) (by rw [isNode_2]) ?_
  refine z_if_ne_t (tgt := 13) dX7_markOffset_6 (by decide) (by decide) ?_
  refine z_iconst (v := 0) dX7_markOffset_13 rfl ?_
  refine Z.call0s (zRun.V (ρ := fun i => i) (k_m_throwsOne (false) (g_m_grows n S) ) dX7_markOffset_14 zy_X7_throwsOne zm_X7_284 rfl rfl rfl rfl (Nat.le_of_ble_eq_true rfl) (by decide) (by decide)) (zlen2 14 rfl rfl) ?_
  refine Z.heap (h2 := mh (sI 15 (0) (g_m_grows n S))) rfl ?_
  refine z_topi (w := 0) rfl ?_
  refine z_if_eq_t (tgt := 24) dX7_markOffset_17 (by decide) (by decide) ?_
  refine z_aload_0 dX7_markOffset_24 ?_
  refine z_get (k := 0) (v := .ref 1) dX7_markOffset_25 rfl rfl rfl (by decide) zf_X7_7 zw_in7 ?_
  refine z_sipush (v := 172) dX7_markOffset_28 rfl ?_
  refine z_iload_1 dX7_markOffset_31 ?_
  refine z_iadd dX7_markOffset_32 ?_
  refine z_topi (w := nI (172 + k)) (nI_add _ _) ?_
  refine z_ialdN (k := (172 + k)) dX7_markOffset_33 rfl (by first | omega | assumption) (by decide) ?_
  refine z_topi (w := ((g_m_grows n S)).2 0 (172 + k)) (by rw [sI_2]) ?_
  rw [g_m_markOffset]
  exact z_iret dX7_markOffset_34 rfl (zint _) rfl rfl
noncomputable def g_m_markOffset_x1 (n : Nat) (_k : Nat) (S : ZS) : Int32 × ZS := (0, (sI 15 (1) (g_m_grows n S)))
theorem k_m_markOffset_x1 (n : Nat) (k : Nat) (S : ZS) (h1 : 1 ≤ n) (h40 : n ≤ 40) (k1 : 1 ≤ k) (k2 : k < 128) (hp : ¬ (gp n k).1 < (gp n k).2) (hO : mOK n S) : zM sc yX7_markOffset cX7_markOffset 2 (some .int) 2 0 0 [.ref 0, .int (nI (k))] (mh S) (.inl (some (.int (g_m_markOffset_x1 n k S).1))) (mh (g_m_markOffset_x1 n k S).2) := by
  refine zM.at (ls := [some (.ref 0), some (.int (nI (k)))]) zy_X7_markOffset.2.2.2.2.2 (Nat.le_of_ble_eq_true rfl) rfl ?_
  refine z_aload_0 dX7_markOffset_0 ?_
  refine z_aload_0 dX7_markOffset_1 ?_
  refine z_iload_1 dX7_markOffset_2 ?_
  refine Z.call0s (zRun.V (ρ := fun i => i) (k_m_isNode n k S h1 h40 k1 k2 hO) dX7_markOffset_3 zy_X7_isNode zm_X7_210 rfl rfl rfl rfl (Nat.le_of_ble_eq_true rfl) (by decide) (by decide)) (zlen2 14 rfl rfl) ?_
  refine z_topi (w := 0) (by rw [isNode_eq h40, decide_eq_false hp]; rfl) ?_
  refine Z.heap (h2 := mh (g_m_grows n S)) (by rw [isNode_2]) ?_
  refine z_if_ne_f (tgt := 13) dX7_markOffset_6 (by decide) (by decide) ?_
  refine z_iconst (v := 1) dX7_markOffset_9 rfl ?_
  refine z_goto (tgt := 14) dX7_markOffset_10 (by decide) ?_
  refine Z.call0s (zRun.V (ρ := fun i => i) (k_m_throwsOne (true) (g_m_grows n S) ) dX7_markOffset_14 zy_X7_throwsOne zm_X7_284 rfl rfl rfl rfl (Nat.le_of_ble_eq_true rfl) (by decide) (by decide)) (zlen2 14 rfl rfl) ?_
  refine Z.heap (h2 := mh (sI 15 (1) (g_m_grows n S))) rfl ?_
  refine z_topi (w := 1) rfl ?_
  refine z_if_eq_f (tgt := 24) dX7_markOffset_17 (by decide) (by decide) ?_
  refine z_iconst (v := 0) dX7_markOffset_20 rfl ?_
  refine z_goto (tgt := 34) dX7_markOffset_21 (by decide) ?_
  rw [g_m_markOffset_x1]
  exact z_iret dX7_markOffset_34 rfl (zint _) rfl rfl
noncomputable def g_m_markOffset_x2 (n : Nat) (_x : Int32) (S : ZS) : Int32 × ZS := (0, (sI 15 (1) (g_m_grows n S)))
theorem k_m_markOffset_x2 (n : Nat) (x : Int32) (S : ZS) (h1 : 1 ≤ n) (h40 : n ≤ 40) (hx : ¬ (1 ≤ x ∧ x ≤ 127)) (hO : mOK n S) : zM sc yX7_markOffset cX7_markOffset 2 (some .int) 2 0 0 [.ref 0, .int (x)] (mh S) (.inl (some (.int (g_m_markOffset_x2 n x S).1))) (mh (g_m_markOffset_x2 n x S).2) := by
  refine zM.at (ls := [some (.ref 0), some (.int (x))]) zy_X7_markOffset.2.2.2.2.2 (Nat.le_of_ble_eq_true rfl) rfl ?_
  refine z_aload_0 dX7_markOffset_0 ?_
  refine z_aload_0 dX7_markOffset_1 ?_
  refine z_iload_1 dX7_markOffset_2 ?_
  refine Z.call0s (zRun.V (ρ := fun i => i) (k_m_isNodeX n (x) S h1 h40 hx hO) dX7_markOffset_3 zy_X7_isNode zm_X7_210 rfl rfl rfl rfl (Nat.le_of_ble_eq_true rfl) (by decide) (by decide)) (zlen2 14 rfl rfl) ?_
  refine z_topi (w := 0) rfl ?_
  refine Z.heap (h2 := mh (g_m_grows n S)) (by rw [(show (g_m_isNodeX n x S).2 = g_m_grows n S from rfl)]) ?_
  refine z_if_ne_f (tgt := 13) dX7_markOffset_6 (by decide) (by decide) ?_
  refine z_iconst (v := 1) dX7_markOffset_9 rfl ?_
  refine z_goto (tgt := 14) dX7_markOffset_10 (by decide) ?_
  refine Z.call0s (zRun.V (ρ := fun i => i) (k_m_throwsOne (true) (g_m_grows n S) ) dX7_markOffset_14 zy_X7_throwsOne zm_X7_284 rfl rfl rfl rfl (Nat.le_of_ble_eq_true rfl) (by decide) (by decide)) (zlen2 14 rfl rfl) ?_
  refine Z.heap (h2 := mh (sI 15 (1) (g_m_grows n S))) rfl ?_
  refine z_topi (w := 1) rfl ?_
  refine z_if_eq_f (tgt := 24) dX7_markOffset_17 (by decide) (by decide) ?_
  refine z_iconst (v := 0) dX7_markOffset_20 rfl ?_
  refine z_goto (tgt := 34) dX7_markOffset_21 (by decide) ?_
  rw [g_m_markOffset_x2]
  exact z_iret dX7_markOffset_34 rfl (zint _) rfl rfl
noncomputable def g_m_isLeaf (n : Nat) (k : Nat) (S : ZS) : Bool × ZS := (if ((g_m_ends n k (sI 15 (0) (g_m_grows n S)))) = true then (true, (sI 15 (0) (g_m_grows n S))) else (false, (sI 15 (0) (g_m_grows n S))))
theorem k_m_isLeaf (n : Nat) (k : Nat) (S : ZS) (h1 : 1 ≤ n) (h40 : n ≤ 40) (k1 : 1 ≤ k) (k2 : k < 128) (hp : (gp n k).1 < (gp n k).2) (hO : mOK n S) : zM sc yX7_isLeaf cX7_isLeaf 2 (some .boolean) 2 0 0 [.ref 0, .int (nI (k))] (mh S) (.inl (some (.int (zb (g_m_isLeaf n k S).1)))) (mh (g_m_isLeaf n k S).2) := by
  refine zM.at (ls := [some (.ref 0), some (.int (nI (k)))]) zy_X7_isLeaf.2.2.2.2.2 (Nat.le_of_ble_eq_true rfl) rfl ?_
  refine z_aload_0 dX7_isLeaf_0 ?_
  refine z_aload_0 dX7_isLeaf_1 ?_
  refine z_iload_1 dX7_isLeaf_2 ?_
  refine Z.call0s (zRun.V (ρ := fun i => i) (k_m_isNode n k S h1 h40 k1 k2 hO) dX7_isLeaf_3 zy_X7_isNode zm_X7_210 rfl rfl rfl rfl (Nat.le_of_ble_eq_true rfl) (by decide) (by decide)) (zlen2 14 rfl rfl) ?_
  refine z_topi (w := 1) (by rw [isNode_eq h40, decide_eq_true hp]; rfl) ?_
  refine Z.heap (h2 := mh (g_m_grows n S)) (by rw [isNode_2]) ?_
  refine z_if_ne_t (tgt := 13) dX7_isLeaf_6 (by decide) (by decide) ?_
  refine z_iconst (v := 0) dX7_isLeaf_13 rfl ?_
  refine Z.call0s (zRun.V (ρ := fun i => i) (k_m_throwsOne (false) (g_m_grows n S) ) dX7_isLeaf_14 zy_X7_throwsOne zm_X7_284 rfl rfl rfl rfl (Nat.le_of_ble_eq_true rfl) (by decide) (by decide)) (zlen2 14 rfl rfl) ?_
  refine Z.heap (h2 := mh (sI 15 (0) (g_m_grows n S))) rfl ?_
  refine z_topi (w := 0) rfl ?_
  refine z_if_ne_f (tgt := 32) dX7_isLeaf_17 (by decide) (by decide) ?_
  refine z_aload_0 dX7_isLeaf_20 ?_
  refine z_iload_1 dX7_isLeaf_21 ?_
  refine Z.call0s (zRun.V (ρ := fun i => i) (k_m_ends n k (sI 15 (0) (g_m_grows n S)) k1 k2 ((mGr_of h1 h40 hO).sI (by decide))) dX7_isLeaf_22 zy_X7_ends zm_X7_93 rfl rfl rfl rfl (Nat.le_of_ble_eq_true rfl) (by decide) (by decide)) (zlen2 14 rfl rfl) ?_
  refine z_ifB_eq (tgt := 32) dX7_isLeaf_25 (by decide) (fun c25 => ?_) (fun c25 => ?_)
  · refine z_iconst (v := 0) dX7_isLeaf_32 rfl ?_
    rw [g_m_isLeaf, if_neg c25]
    exact z_iret dX7_isLeaf_33 rfl rfl rfl rfl
  · refine z_iconst (v := 1) dX7_isLeaf_28 rfl ?_
    refine z_goto (tgt := 33) dX7_isLeaf_29 (by decide) ?_
    rw [g_m_isLeaf, if_pos c25]
    exact z_iret dX7_isLeaf_33 rfl rfl rfl rfl
noncomputable def g_m_isLeaf_x1 (n : Nat) (_k : Nat) (S : ZS) : Bool × ZS := (false, (sI 15 (1) (g_m_grows n S)))
theorem k_m_isLeaf_x1 (n : Nat) (k : Nat) (S : ZS) (h1 : 1 ≤ n) (h40 : n ≤ 40) (k1 : 1 ≤ k) (k2 : k < 128) (hp : ¬ (gp n k).1 < (gp n k).2) (hO : mOK n S) : zM sc yX7_isLeaf cX7_isLeaf 2 (some .boolean) 2 0 0 [.ref 0, .int (nI (k))] (mh S) (.inl (some (.int (zb (g_m_isLeaf_x1 n k S).1)))) (mh (g_m_isLeaf_x1 n k S).2) := by
  refine zM.at (ls := [some (.ref 0), some (.int (nI (k)))]) zy_X7_isLeaf.2.2.2.2.2 (Nat.le_of_ble_eq_true rfl) rfl ?_
  refine z_aload_0 dX7_isLeaf_0 ?_
  refine z_aload_0 dX7_isLeaf_1 ?_
  refine z_iload_1 dX7_isLeaf_2 ?_
  refine Z.call0s (zRun.V (ρ := fun i => i) (k_m_isNode n k S h1 h40 k1 k2 hO) dX7_isLeaf_3 zy_X7_isNode zm_X7_210 rfl rfl rfl rfl (Nat.le_of_ble_eq_true rfl) (by decide) (by decide)) (zlen2 14 rfl rfl) ?_
  refine z_topi (w := 0) (by rw [isNode_eq h40, decide_eq_false hp]; rfl) ?_
  refine Z.heap (h2 := mh (g_m_grows n S)) (by rw [isNode_2]) ?_
  refine z_if_ne_f (tgt := 13) dX7_isLeaf_6 (by decide) (by decide) ?_
  refine z_iconst (v := 1) dX7_isLeaf_9 rfl ?_
  refine z_goto (tgt := 14) dX7_isLeaf_10 (by decide) ?_
  refine Z.call0s (zRun.V (ρ := fun i => i) (k_m_throwsOne (true) (g_m_grows n S) ) dX7_isLeaf_14 zy_X7_throwsOne zm_X7_284 rfl rfl rfl rfl (Nat.le_of_ble_eq_true rfl) (by decide) (by decide)) (zlen2 14 rfl rfl) ?_
  refine Z.heap (h2 := mh (sI 15 (1) (g_m_grows n S))) rfl ?_
  refine z_topi (w := 1) rfl ?_
  refine z_if_ne_t (tgt := 32) dX7_isLeaf_17 (by decide) (by decide) ?_
  refine z_iconst (v := 0) dX7_isLeaf_32 rfl ?_
  rw [g_m_isLeaf_x1]
  exact z_iret dX7_isLeaf_33 rfl rfl rfl rfl
noncomputable def g_m_isLeaf_x2 (n : Nat) (_x : Int32) (S : ZS) : Bool × ZS := (false, (sI 15 (1) (g_m_grows n S)))
theorem k_m_isLeaf_x2 (n : Nat) (x : Int32) (S : ZS) (h1 : 1 ≤ n) (h40 : n ≤ 40) (hx : ¬ (1 ≤ x ∧ x ≤ 127)) (hO : mOK n S) : zM sc yX7_isLeaf cX7_isLeaf 2 (some .boolean) 2 0 0 [.ref 0, .int (x)] (mh S) (.inl (some (.int (zb (g_m_isLeaf_x2 n x S).1)))) (mh (g_m_isLeaf_x2 n x S).2) := by
  refine zM.at (ls := [some (.ref 0), some (.int (x))]) zy_X7_isLeaf.2.2.2.2.2 (Nat.le_of_ble_eq_true rfl) rfl ?_
  refine z_aload_0 dX7_isLeaf_0 ?_
  refine z_aload_0 dX7_isLeaf_1 ?_
  refine z_iload_1 dX7_isLeaf_2 ?_
  refine Z.call0s (zRun.V (ρ := fun i => i) (k_m_isNodeX n (x) S h1 h40 hx hO) dX7_isLeaf_3 zy_X7_isNode zm_X7_210 rfl rfl rfl rfl (Nat.le_of_ble_eq_true rfl) (by decide) (by decide)) (zlen2 14 rfl rfl) ?_
  refine z_topi (w := 0) rfl ?_
  refine Z.heap (h2 := mh (g_m_grows n S)) (by rw [(show (g_m_isNodeX n x S).2 = g_m_grows n S from rfl)]) ?_
  refine z_if_ne_f (tgt := 13) dX7_isLeaf_6 (by decide) (by decide) ?_
  refine z_iconst (v := 1) dX7_isLeaf_9 rfl ?_
  refine z_goto (tgt := 14) dX7_isLeaf_10 (by decide) ?_
  refine Z.call0s (zRun.V (ρ := fun i => i) (k_m_throwsOne (true) (g_m_grows n S) ) dX7_isLeaf_14 zy_X7_throwsOne zm_X7_284 rfl rfl rfl rfl (Nat.le_of_ble_eq_true rfl) (by decide) (by decide)) (zlen2 14 rfl rfl) ?_
  refine Z.heap (h2 := mh (sI 15 (1) (g_m_grows n S))) rfl ?_
  refine z_topi (w := 1) rfl ?_
  refine z_if_ne_t (tgt := 32) dX7_isLeaf_17 (by decide) (by decide) ?_
  refine z_iconst (v := 0) dX7_isLeaf_32 rfl ?_
  rw [g_m_isLeaf_x2]
  exact z_iret dX7_isLeaf_33 rfl rfl rfl rfl
theorem lf_below {n i : Nat} (hn : n ≤ 40) : ∀ (d k : Nat), 1 ≤ k → k < 128 → 128 ≤ k * 2 ^ d → (gp n k).1 ≤ i → i < (gp n k).2 → ∃ e, lf n i / 2 ^ e = k := by
  intro d
  induction d with
  | zero => intro k h1 h2 h3; rw [Nat.pow_zero] at h3; omega
  | succ d ih =>
    intro k h1 h2 h3 ha hb
    have h4b : k * 2 ^ (d + 1) = (2 * k) * 2 ^ d := by rw [Nat.pow_succ, Nat.mul_comm (2 ^ d) 2, ← Nat.mul_assoc, Nat.mul_comm k 2]
    have h5b : (2 * k) * 2 ^ d ≤ (2 * k + 1) * 2 ^ d := Nat.mul_le_mul_right _ (by omega)
    by_cases c : (gp n k).1 + 2 ≤ (gp n k).2
    · have h64 := gp_near n k hn h2 c
      have gL := gp_L n k h1 h64
      have gR := gp_R n k h1 h64
      rw [if_pos c] at gL gR
      by_cases q : i < ((gp n k).1 + (gp n k).2 - 1) / 2 + 1
      · obtain ⟨e, he⟩ := ih (2 * k) (by omega) (by omega) (by omega) (by rw [gL]; exact ha) (by rw [gL]; exact q)
        exact ⟨e + 1, by rw [Nat.pow_succ, ← Nat.div_div_eq_div_mul, he]; omega⟩
      · obtain ⟨e, he⟩ := ih (2 * k + 1) (by omega) (by omega) (by omega) (by rw [gR]; exact Nat.le_of_not_lt q) (by rw [gR]; exact hb)
        exact ⟨e + 1, by rw [Nat.pow_succ, ← Nat.div_div_eq_div_mul, he]; omega⟩
    · have e : i = (gp n k).1 := by omega
      exact ⟨0, by rw [e, lf_un hn h2 (by omega), Nat.pow_zero, Nat.div_one]⟩
theorem lf_anc {n k i : Nat} (hn : n ≤ 40) (hk : k < 128) (h1 : (gp n k).1 ≤ i) (h2 : i < (gp n k).2) : zAnc 6 (lf n i) k := by
  have h40 := (gp_40 n k hn).2
  have hgn := gp_n n k
  have k1 : 1 ≤ k := by
    rcases Nat.lt_or_ge k 1 with q | q
    · have : k = 0 := by omega
      subst this
      rw [gp_0] at h2
      exact absurd h2 (Nat.not_lt_zero _)
    · exact q
  obtain ⟨e, he⟩ := lf_below hn 7 k k1 hk (by omega) h1 h2
  refine ⟨e, ?_, he⟩
  rcases Nat.lt_or_ge e 7 with q | q
  · omega
  · have hl := (lf_gp hn (show i < n by omega)).2.2
    have : lf n i / 2 ^ e = 0 := by
      apply Nat.div_eq_of_lt
      have : 2 ^ 7 ≤ 2 ^ e := Nat.pow_le_pow_right (by decide) q
      omega
    omega
