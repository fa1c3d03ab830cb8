variable {sc : SC}

noncomputable def g_m_told (j : Nat) (S : ZS) : Int32 × ZS := (S.2 0 (j), (sI 15 (0) S))
theorem k_m_told (j : Nat) (S : ZS) (hj : j < 300) : zM sc yX7_told cX7_told 2 (some .int) 0 0 0 [.ref 0, .int (nI (j))] (mh S) (.inl (some (.int (g_m_told j S).1))) (mh (g_m_told j S).2) := by
  refine zM.at (ls := [some (.ref 0), some (.int (nI (j)))]) zy_X7_told.2.2.2.2.2 (Nat.le_of_ble_eq_true rfl) rfl ?_
  refine z_aload_0 dX7_told_0 ?_
  refine z_iconst (v := 0) dX7_told_1 rfl ?_
  refine z_put (k := 15) (ty := tyX7) dX7_told_2 rfl rfl (by decide) zf_X7_64 zw_in7 tyX7_ok nmX7 rfl (fun _ => ⟨rfl, rfl⟩) (Nat.le_of_ble_eq_true rfl) ?_
  refine Z.heap (h2 := mh (sI 15 (0) S)) rfl ?_
  refine z_aload_0 dX7_told_5 ?_
  refine z_get (k := 0) (v := .ref 1) dX7_told_6 rfl rfl rfl (by decide) zf_X7_7 zw_in7 ?_
  refine z_iload_1 dX7_told_9 ?_
  refine z_ialdN (k := j) dX7_told_10 rfl (by first | omega | assumption) (by decide) ?_
  refine z_topi (w := S.2 0 (j)) (by rw [sI_2]) ?_
  rw [g_m_told]
  try dsimp only
  exact z_iret dX7_told_11 rfl (zint _) rfl rfl
noncomputable def g_m_elementCount (S : ZS) : Int32 × ZS := ((g_m_told 0 S).1, (g_m_told 0 S).2)
theorem k_m_elementCount (S : ZS)  : zM sc yX7_elementCount cX7_elementCount 1 (some .int) 1 0 0 [.ref 0] (mh S) (.inl (some (.int (g_m_elementCount S).1))) (mh (g_m_elementCount S).2) := by
  refine zM.at (ls := [some (.ref 0)]) zy_X7_elementCount.2.2.2.2.2 (Nat.le_of_ble_eq_true rfl) rfl ?_
  refine z_aload_0 dX7_elementCount_0 ?_
  refine z_iconst (v := 0) dX7_elementCount_1 rfl ?_
  refine Z.call0s (zRun.V (ρ := fun i => i) (k_m_told 0 S (by first | omega | assumption)) dX7_elementCount_2 zy_X7_told zm_X7_308 rfl rfl rfl rfl (Nat.le_of_ble_eq_true rfl) (by decide) (by decide)) (zlen2 14 rfl rfl) ?_
  rw [g_m_elementCount]
  try dsimp only
  exact z_iret dX7_elementCount_5 rfl (zint _) rfl rfl
noncomputable def g_m_updateCount (S : ZS) : Int32 × ZS := ((g_m_told 1 S).1, (g_m_told 1 S).2)
theorem k_m_updateCount (S : ZS)  : zM sc yX7_updateCount cX7_updateCount 1 (some .int) 1 0 0 [.ref 0] (mh S) (.inl (some (.int (g_m_updateCount S).1))) (mh (g_m_updateCount S).2) := by
  refine zM.at (ls := [some (.ref 0)]) zy_X7_updateCount.2.2.2.2.2 (Nat.le_of_ble_eq_true rfl) rfl ?_
  refine z_aload_0 dX7_updateCount_0 ?_
  refine z_iconst (v := 1) dX7_updateCount_1 rfl ?_
  refine Z.call0s (zRun.V (ρ := fun i => i) (k_m_told 1 S (by first | omega | assumption)) dX7_updateCount_2 zy_X7_told zm_X7_308 rfl rfl rfl rfl (Nat.le_of_ble_eq_true rfl) (by decide) (by decide)) (zlen2 14 rfl rfl) ?_
  rw [g_m_updateCount]
  try dsimp only
  exact z_iret dX7_updateCount_5 rfl (zint _) rfl rfl
noncomputable def g_m_pushCount (S : ZS) : Int32 × ZS := ((g_m_told 2 S).1, (g_m_told 2 S).2)
theorem k_m_pushCount (S : ZS)  : zM sc yX7_pushCount cX7_pushCount 1 (some .int) 1 0 0 [.ref 0] (mh S) (.inl (some (.int (g_m_pushCount S).1))) (mh (g_m_pushCount S).2) := by
  refine zM.at (ls := [some (.ref 0)]) zy_X7_pushCount.2.2.2.2.2 (Nat.le_of_ble_eq_true rfl) rfl ?_
  refine z_aload_0 dX7_pushCount_0 ?_
  refine z_iconst (v := 2) dX7_pushCount_1 rfl ?_
  refine Z.call0s (zRun.V (ρ := fun i => i) (k_m_told 2 S (by first | omega | assumption)) dX7_pushCount_2 zy_X7_told zm_X7_308 rfl rfl rfl rfl (Nat.le_of_ble_eq_true rfl) (by decide) (by decide)) (zlen2 14 rfl rfl) ?_
  rw [g_m_pushCount]
  try dsimp only
  exact z_iret dX7_pushCount_5 rfl (zint _) rfl rfl
noncomputable def g_m_appliedCount (S : ZS) : Int32 × ZS := ((g_m_told 3 S).1, (g_m_told 3 S).2)
theorem k_m_appliedCount (S : ZS)  : zM sc yX7_appliedCount cX7_appliedCount 1 (some .int) 1 0 0 [.ref 0] (mh S) (.inl (some (.int (g_m_appliedCount S).1))) (mh (g_m_appliedCount S).2) := by
  refine zM.at (ls := [some (.ref 0)]) zy_X7_appliedCount.2.2.2.2.2 (Nat.le_of_ble_eq_true rfl) rfl ?_
  refine z_aload_0 dX7_appliedCount_0 ?_
  refine z_iconst (v := 3) dX7_appliedCount_1 rfl ?_
  refine Z.call0s (zRun.V (ρ := fun i => i) (k_m_told 3 S (by first | omega | assumption)) dX7_appliedCount_2 zy_X7_told zm_X7_308 rfl rfl rfl rfl (Nat.le_of_ble_eq_true rfl) (by decide) (by decide)) (zlen2 14 rfl rfl) ?_
  rw [g_m_appliedCount]
  try dsimp only
  exact z_iret dX7_appliedCount_5 rfl (zint _) rfl rfl
noncomputable def g_m_scriptErrorKind (S : ZS) : Int32 × ZS := (S.1 11, (sI 15 (0) S))
theorem k_m_scriptErrorKind (S : ZS)  : zM sc yX7_scriptErrorKind cX7_scriptErrorKind 1 (some .int) 0 0 0 [.ref 0] (mh S) (.inl (some (.int (g_m_scriptErrorKind S).1))) (mh (g_m_scriptErrorKind S).2) := by
  refine zM.at (ls := [some (.ref 0)]) zy_X7_scriptErrorKind.2.2.2.2.2 (Nat.le_of_ble_eq_true rfl) rfl ?_
  refine z_aload_0 dX7_scriptErrorKind_0 ?_
  refine z_iconst (v := 0) dX7_scriptErrorKind_1 rfl ?_
  refine z_put (k := 15) (ty := tyX7) dX7_scriptErrorKind_2 rfl rfl (by decide) zf_X7_64 zw_in7 tyX7_ok nmX7 rfl (fun _ => ⟨rfl, rfl⟩) (Nat.le_of_ble_eq_true rfl) ?_
  refine Z.heap (h2 := mh (sI 15 (0) S)) rfl ?_
  refine z_aload_0 dX7_scriptErrorKind_5 ?_
  refine z_get (k := 11) (v := .int (S.1 11)) dX7_scriptErrorKind_6 rfl rfl rfl (by decide) zf_X7_173 zw_in7 ?_
  rw [g_m_scriptErrorKind]
  try dsimp only
  exact z_iret dX7_scriptErrorKind_9 rfl (zint _) rfl rfl
noncomputable def g_m_scriptErrorOffset (S : ZS) : Int32 × ZS := (S.1 12, (sI 15 (0) S))
theorem k_m_scriptErrorOffset (S : ZS)  : zM sc yX7_scriptErrorOffset cX7_scriptErrorOffset 1 (some .int) 0 0 0 [.ref 0] (mh S) (.inl (some (.int (g_m_scriptErrorOffset S).1))) (mh (g_m_scriptErrorOffset S).2) := by
  refine zM.at (ls := [some (.ref 0)]) zy_X7_scriptErrorOffset.2.2.2.2.2 (Nat.le_of_ble_eq_true rfl) rfl ?_
  refine z_aload_0 dX7_scriptErrorOffset_0 ?_
  refine z_iconst (v := 0) dX7_scriptErrorOffset_1 rfl ?_
  refine z_put (k := 15) (ty := tyX7) dX7_scriptErrorOffset_2 rfl rfl (by decide) zf_X7_64 zw_in7 tyX7_ok nmX7 rfl (fun _ => ⟨rfl, rfl⟩) (Nat.le_of_ble_eq_true rfl) ?_
  refine Z.heap (h2 := mh (sI 15 (0) S)) rfl ?_
  refine z_aload_0 dX7_scriptErrorOffset_5 ?_
  refine z_get (k := 12) (v := .int (S.1 12)) dX7_scriptErrorOffset_6 rfl rfl rfl (by decide) zf_X7_31 zw_in7 ?_
  rw [g_m_scriptErrorOffset]
  try dsimp only
  exact z_iret dX7_scriptErrorOffset_9 rfl (zint _) rfl rfl
noncomputable def g_m_nodeCount (n : Nat) (S : ZS) : Nat × ZS := ((2 * n) - 1, (sI 15 (0) S))
theorem k_m_nodeCount (n : Nat) (S : ZS) (h1 : 1 ≤ n) (h40 : n ≤ 40) (hO : mOK n S) : zM sc yX7_nodeCount cX7_nodeCount 1 (some .int) 0 0 0 [.ref 0] (mh S) (.inl (some (.int (nI (g_m_nodeCount n S).1)))) (mh (g_m_nodeCount n S).2) := by
  refine zM.at (ls := [some (.ref 0)]) zy_X7_nodeCount.2.2.2.2.2 (Nat.le_of_ble_eq_true rfl) rfl ?_
  refine z_aload_0 dX7_nodeCount_0 ?_
  refine z_iconst (v := 0) dX7_nodeCount_1 rfl ?_
  refine z_put (k := 15) (ty := tyX7) dX7_nodeCount_2 rfl rfl (by decide) zf_X7_64 zw_in7 tyX7_ok nmX7 rfl (fun _ => ⟨rfl, rfl⟩) (Nat.le_of_ble_eq_true rfl) ?_
  refine Z.heap (h2 := mh (sI 15 (0) S)) rfl ?_
  refine z_iconst (v := 2) dX7_nodeCount_5 rfl ?_
  refine z_aload_0 dX7_nodeCount_6 ?_
  refine z_get (k := 0) (v := .ref 1) dX7_nodeCount_7 rfl rfl rfl (by decide) zf_X7_7 zw_in7 ?_
  refine z_iconst (v := 0) dX7_nodeCount_10 rfl ?_
  refine z_ialdN (k := 0) dX7_nodeCount_11 rfl (by first | omega | assumption) (by decide) ?_
  refine z_topi (w := S.2 0 (0)) (by rw [sI_2]) ?_
  refine z_topi (w := nI (n)) hO.1 ?_
  refine z_imul dX7_nodeCount_12 ?_
  refine z_topi (w := nI (2 * n)) (pk_mul _ _) ?_
  refine z_iconst (v := 1) dX7_nodeCount_13 rfl ?_
  refine z_isub dX7_nodeCount_14 ?_
  refine z_topi (w := nI ((2 * n) - 1)) (pk_sub (a := 2 * n) (b := 1) (by first | omega | assumption)) ?_
  rw [g_m_nodeCount]
  try dsimp only
  exact z_iret dX7_nodeCount_15 rfl (zint _) rfl rfl
noncomputable def g_m_markedNodes_L (n : Nat) : Nat → Nat → Nat → ZS → Nat × ZS
  | 0, c, _, S => (c, S)
  | fu + 1, c, k, S => (if ((g_m_isNode n k S).1) = true then (if ((g_m_isMarked k S)) = true then g_m_markedNodes_L n fu (c + 1) (k + 1) S else g_m_markedNodes_L n fu (c + 0) (k + 1) S) else g_m_markedNodes_L n fu (c + 0) (k + 1) S)
theorem l_g_m_markedNodes_L (n : Nat) : ∀ (fu : Nat) (c : Nat) (k : Nat) (S : ZS) , (1 ≤ n) → (n ≤ 40) → (k + fu = 128) → (1 ≤ k) → (c + fu < 300) → (mGr n S) → Z sc yX7_markedNodes cX7_markedNodes 3 (some .int) 2 0 0 9 [some (.ref 0), some (.int (nI (c))), some (.int (nI (k)))] [] (mh S) (.inl (some (.int (nI (g_m_markedNodes_L n fu c k S).1)))) (mh (g_m_markedNodes_L n fu c k S).2) := by
  intro fu
  induction fu with
  | zero =>
    intro c k S h1 h40 hk hk1 hcc hG
    refine z_iload_2 dX7_markedNodes_9 ?_
    refine z_sipush (v := 128) dX7_markedNodes_10 rfl ?_
    refine z_icmpN_ge_t (tgt := 46) dX7_markedNodes_13 (by decide) (x := k) (z := 128) (by first | omega | assumption) (by first | omega | assumption) (by omega) ?_
    refine z_iload_1 dX7_markedNodes_46 ?_
    rw [g_m_markedNodes_L]
    try dsimp only
    exact z_iret dX7_markedNodes_47 rfl (zint _) rfl rfl
  | succ fu ih =>
    intro c k S h1 h40 hk hk1 hcc hG
    refine z_iload_2 dX7_markedNodes_9 ?_
    refine z_sipush (v := 128) dX7_markedNodes_10 rfl ?_
    refine z_icmpN_ge_f (tgt := 46) dX7_markedNodes_13 (by decide) (x := k) (z := 128) (by first | omega | assumption) (by first | omega | assumption) (by omega) ?_
    refine z_iload_1 dX7_markedNodes_16 ?_
    refine z_aload_0 dX7_markedNodes_17 ?_
    refine z_iload_2 dX7_markedNodes_18 ?_
    refine Z.call0s (zRun.V (ρ := fun i => i) (k_m_isNode n k S h1 h40 (by omega) (by omega) hG.ok) dX7_markedNodes_19 zy_X7_isNode zm_X7_210 rfl rfl rfl rfl (Nat.le_of_ble_eq_true rfl) (by decide) (by decide)) (zlen2 14 rfl rfl) ?_
    refine Z.heap (h2 := mh S) (by rw [isNode_2, hG.grows]) ?_
    refine z_ifB_eq (tgt := 37) dX7_markedNodes_22 (by decide) (fun c22 => ?_) (fun c22 => ?_)
    · refine z_iconst (v := 0) dX7_markedNodes_37 rfl ?_
      refine z_iadd dX7_markedNodes_38 ?_
      refine z_topi (w := nI (c + 0)) (nI_add _ _) ?_
      refine z_istore_1 dX7_markedNodes_39 rfl (by decide) ?_
      refine z_iinc_2 (v := nI (k + 1)) dX7_markedNodes_40 (nI_add _ 1) rfl (by decide) ?_
      refine z_goto (tgt := 9) dX7_markedNodes_43 (by decide) ?_
      rw [g_m_markedNodes_L, if_neg c22]
      exact ih (c + 0) (k + 1) S (by first | omega | assumption) (by first | omega | assumption) (by first | omega | assumption) (by first | omega | assumption) (by first | omega | assumption) hG
    · refine z_aload_0 dX7_markedNodes_25 ?_
      refine z_iload_2 dX7_markedNodes_26 ?_
      refine Z.call0s (zRun.V (ρ := fun i => i) (k_m_isMarked k S (by omega)) dX7_markedNodes_27 zy_X7_isMarked zm_X7_96 rfl rfl rfl rfl (Nat.le_of_ble_eq_true rfl) (by decide) (by decide)) (zlen2 14 rfl rfl) ?_
      refine z_ifB_eq (tgt := 37) dX7_markedNodes_30 (by decide) (fun c30 => ?_) (fun c30 => ?_)
      · refine z_iconst (v := 0) dX7_markedNodes_37 rfl ?_
        refine z_iadd dX7_markedNodes_38 ?_
        refine z_topi (w := nI (c + 0)) (nI_add _ _) ?_
        refine z_istore_1 dX7_markedNodes_39 rfl (by decide) ?_
        refine z_iinc_2 (v := nI (k + 1)) dX7_markedNodes_40 (nI_add _ 1) rfl (by decide) ?_
        refine z_goto (tgt := 9) dX7_markedNodes_43 (by decide) ?_
        rw [g_m_markedNodes_L, if_pos c22, if_neg c30]
        exact ih (c + 0) (k + 1) S (by first | omega | assumption) (by first | omega | assumption) (by first | omega | assumption) (by first | omega | assumption) (by first | omega | assumption) hG
      · refine z_iconst (v := 1) dX7_markedNodes_33 rfl ?_
        refine z_goto (tgt := 38) dX7_markedNodes_34 (by decide) ?_
        refine z_iadd dX7_markedNodes_38 ?_
        refine z_topi (w := nI (c + 1)) (nI_add _ _) ?_
        refine z_istore_1 dX7_markedNodes_39 rfl (by decide) ?_
        refine z_iinc_2 (v := nI (k + 1)) dX7_markedNodes_40 (nI_add _ 1) rfl (by decide) ?_
        refine z_goto (tgt := 9) dX7_markedNodes_43 (by decide) ?_
        rw [g_m_markedNodes_L, if_pos c22, if_pos c30]
        exact ih (c + 1) (k + 1) S (by first | omega | assumption) (by first | omega | assumption) (by first | omega | assumption) (by first | omega | assumption) (by first | omega | assumption) hG
noncomputable def g_m_markedNodes (n : Nat) (S : ZS) : Nat × ZS := (if ((g_m_isNode n 1 (sI 15 (0) S)).1) = true then (if ((g_m_isMarked 1 (g_m_grows n (sI 15 (0) S)))) = true then g_m_markedNodes_L n 126 1 2 (g_m_grows n (sI 15 (0) S)) else g_m_markedNodes_L n 126 0 2 (g_m_grows n (sI 15 (0) S))) else g_m_markedNodes_L n 126 0 2 (g_m_grows n (sI 15 (0) S)))
theorem k_m_markedNodes (n : Nat) (S : ZS) (h1 : 1 ≤ n) (h40 : n ≤ 40) (hO : mOK n S) : zM sc yX7_markedNodes cX7_markedNodes 3 (some .int) 2 0 0 [.ref 0] (mh S) (.inl (some (.int (nI (g_m_markedNodes n S).1)))) (mh (g_m_markedNodes n S).2) := by
  refine zM.at (ls := [some (.ref 0), none, none]) zy_X7_markedNodes.2.2.2.2.2 (Nat.le_of_ble_eq_true rfl) rfl ?_
  refine z_aload_0 dX7_markedNodes_0 ?_
  refine z_iconst (v := 0) dX7_markedNodes_1 rfl ?_
  refine z_put (k := 15) (ty := tyX7) dX7_markedNodes_2 rfl rfl (by decide) zf_X7_64 zw_in7 tyX7_ok nmX7 rfl (fun _ => ⟨rfl, rfl⟩) (Nat.le_of_ble_eq_true rfl) ?_
  refine Z.heap (h2 := mh (sI 15 (0) S)) rfl ?_
  refine z_iconst (v := 0) dX7_markedNodes_5 rfl ?_
  refine z_istore_1 dX7_markedNodes_6 rfl (by decide) ?_
  refine z_iconst (v := 1) dX7_markedNodes_7 rfl ?_
  refine z_istore_2 dX7_markedNodes_8 rfl (by decide) ?_
  refine z_iload_2 dX7_markedNodes_9 ?_
  refine z_sipush (v := 128) dX7_markedNodes_10 rfl ?_
  refine z_icmp_ge_f (tgt := 46) dX7_markedNodes_13 (by decide) (by decide) ?_
  refine z_iload_1 dX7_markedNodes_16 ?_
  refine z_aload_0 dX7_markedNodes_17 ?_
  refine z_iload_2 dX7_markedNodes_18 ?_
  refine Z.call0s (zRun.V (ρ := fun i => i) (k_m_isNode n 1 (sI 15 (0) S) h1 h40 (by decide) (by decide) (hO.sI (by decide))) dX7_markedNodes_19 zy_X7_isNode zm_X7_210 rfl rfl rfl rfl (Nat.le_of_ble_eq_true rfl) (by decide) (by decide)) (zlen2 14 rfl rfl) ?_
  refine Z.heap (h2 := mh (g_m_grows n (sI 15 (0) S))) (by rw [isNode_2]) ?_
  refine z_ifB_eq (tgt := 37) dX7_markedNodes_22 (by decide) (fun c22 => ?_) (fun c22 => ?_)
  · refine z_iconst (v := 0) dX7_markedNodes_37 rfl ?_
    refine z_iadd dX7_markedNodes_38 ?_
    refine z_topi (w := 0) (by decide) ?_
    refine z_istore_1 dX7_markedNodes_39 rfl (by decide) ?_
    refine z_iinc_2 (v := 2) dX7_markedNodes_40 rfl rfl (by decide) ?_
    refine z_goto (tgt := 9) dX7_markedNodes_43 (by decide) ?_
    rw [g_m_markedNodes, if_neg c22]
    exact l_g_m_markedNodes_L n 126 0 2 (g_m_grows n (sI 15 (0) S)) (by first | omega | assumption) (by first | omega | assumption) (by first | omega | assumption) (by first | omega | assumption) (by first | omega | assumption) (mGr_of h1 h40 (hO.sI (by decide)))
  · refine z_aload_0 dX7_markedNodes_25 ?_
    refine z_iload_2 dX7_markedNodes_26 ?_
    refine Z.call0s (zRun.V (ρ := fun i => i) (k_m_isMarked 1 (g_m_grows n (sI 15 (0) S)) (by omega)) dX7_markedNodes_27 zy_X7_isMarked zm_X7_96 rfl rfl rfl rfl (Nat.le_of_ble_eq_true rfl) (by decide) (by decide)) (zlen2 14 rfl rfl) ?_
    refine z_ifB_eq (tgt := 37) dX7_markedNodes_30 (by decide) (fun c30 => ?_) (fun c30 => ?_)
    · refine z_iconst (v := 0) dX7_markedNodes_37 rfl ?_
      refine z_iadd dX7_markedNodes_38 ?_
      refine z_topi (w := 0) (by decide) ?_
      refine z_istore_1 dX7_markedNodes_39 rfl (by decide) ?_
      refine z_iinc_2 (v := 2) dX7_markedNodes_40 rfl rfl (by decide) ?_
      refine z_goto (tgt := 9) dX7_markedNodes_43 (by decide) ?_
      rw [g_m_markedNodes, if_pos c22, if_neg c30]
      exact l_g_m_markedNodes_L n 126 0 2 (g_m_grows n (sI 15 (0) S)) (by first | omega | assumption) (by first | omega | assumption) (by first | omega | assumption) (by first | omega | assumption) (by first | omega | assumption) (mGr_of h1 h40 (hO.sI (by decide)))
    · refine z_iconst (v := 1) dX7_markedNodes_33 rfl ?_
      refine z_goto (tgt := 38) dX7_markedNodes_34 (by decide) ?_
      refine z_iadd dX7_markedNodes_38 ?_
      refine z_topi (w := 1) (by decide) ?_
      refine z_istore_1 dX7_markedNodes_39 rfl (by decide) ?_
      refine z_iinc_2 (v := 2) dX7_markedNodes_40 rfl rfl (by decide) ?_
      refine z_goto (tgt := 9) dX7_markedNodes_43 (by decide) ?_
      rw [g_m_markedNodes, if_pos c22, if_pos c30]
      exact l_g_m_markedNodes_L n 126 1 2 (g_m_grows n (sI 15 (0) S)) (by first | omega | assumption) (by first | omega | assumption) (by first | omega | assumption) (by first | omega | assumption) (by first | omega | assumption) (mGr_of h1 h40 (hO.sI (by decide)))
noncomputable def g_m_goesOn_L (n : Nat) (f : Nat) (t : Nat) (e : Int32) : Nat → Nat → ZS → Bool × ZS
  | 0, _, S => (true, S)
  | fu + 1, i, S => (if 0 ≤ e * ((g_m_valueG n (i + 1) S) - (g_m_valueG n i S)) then g_m_goesOn_L n f t e fu (i + 1) S else (false, S))
theorem l_g_m_goesOn_L (n : Nat) (f : Nat) (t : Nat) (e : Int32) : ∀ (fu : Nat) (i : Nat) (S : ZS) , (1 ≤ n) → (n ≤ 40) → (t < n) → (i + fu = t) → (mGr n S) → Z sc yX7_goesOn cX7_goesOn 5 (some .boolean) 2 0 0 3 [some (.ref 0), some (.int (nI (f))), some (.int (nI (t))), some (.int (e)), some (.int (nI (i)))] [] (mh S) (.inl (some (.int (zb (g_m_goesOn_L n f t e fu i S).1)))) (mh (g_m_goesOn_L n f t e fu i S).2) := by
  intro fu
  induction fu with
  | zero =>
    intro i S h1 h40 ht hi hG
    refine z_iload_4 dX7_goesOn_3 ?_
    refine z_iload_2 dX7_goesOn_5 ?_
    refine z_icmpN_ge_t (tgt := 37) dX7_goesOn_6 (by decide) (x := i) (z := t) (by first | omega | assumption) (by first | omega | assumption) (by omega) ?_
    refine z_iconst (v := 1) dX7_goesOn_37 rfl ?_
    rw [g_m_goesOn_L]
    try dsimp only
    exact z_iret dX7_goesOn_38 rfl rfl rfl rfl
  | succ fu ih =>
    intro i S h1 h40 ht hi hG
    refine z_iload_4 dX7_goesOn_3 ?_
    refine z_iload_2 dX7_goesOn_5 ?_
    refine z_icmpN_ge_f (tgt := 37) dX7_goesOn_6 (by decide) (x := i) (z := t) (by first | omega | assumption) (by first | omega | assumption) (by omega) ?_
    refine z_iload_3 dX7_goesOn_9 ?_
    refine z_aload_0 dX7_goesOn_10 ?_
    refine z_iload_4 dX7_goesOn_11 ?_
    refine z_iconst (v := 1) dX7_goesOn_13 rfl ?_
    refine z_iadd dX7_goesOn_14 ?_
    refine z_topi (w := nI (i + 1)) (nI_add _ _) ?_
    refine Z.call0s (zRun.V (ρ := fun i => i) (k_m_valueG n (i + 1) S h1 h40 (by first | omega | assumption) hG) dX7_goesOn_15 zy_X7_value zm_X7_120 rfl rfl rfl rfl (Nat.le_of_ble_eq_true rfl) (by decide) (by decide)) (zlen2 14 rfl rfl) ?_
    refine z_aload_0 dX7_goesOn_18 ?_
    refine z_iload_4 dX7_goesOn_19 ?_
    refine Z.call0s (zRun.V (ρ := fun i => i) (k_m_valueG n i S h1 h40 (by first | omega | assumption) hG) dX7_goesOn_21 zy_X7_value zm_X7_120 rfl rfl rfl rfl (Nat.le_of_ble_eq_true rfl) (by decide) (by decide)) (zlen2 14 rfl rfl) ?_
    refine z_isub dX7_goesOn_24 ?_
    refine z_imul dX7_goesOn_25 ?_
    refine z_if_ge (tgt := 31) dX7_goesOn_26 (by decide) (fun c26 => ?_) (fun c26 => ?_)
    · refine z_iinc_4 (v := nI (i + 1)) dX7_goesOn_31 (nI_add _ 1) rfl (by decide) ?_
      refine z_goto (tgt := 3) dX7_goesOn_34 (by decide) ?_
      rw [g_m_goesOn_L, if_pos c26]
      exact ih (i + 1) S (by first | omega | assumption) (by first | omega | assumption) (by first | omega | assumption) (by first | omega | assumption) hG
    · refine z_iconst (v := 0) dX7_goesOn_29 rfl ?_
      rw [g_m_goesOn_L, if_neg c26]
      try dsimp only
      exact z_iret dX7_goesOn_30 rfl rfl rfl rfl
noncomputable def g_m_goesOn (n : Nat) (f : Nat) (t : Nat) (e : Int32) (S : ZS) : Bool × ZS := (if t ≤ f then (true, S) else (if 0 ≤ e * (((g_m_value n (f + 1) S).1) - (g_m_valueG n f (g_m_grows n S))) then g_m_goesOn_L n f t e (t - (f + 1)) (f + 1) (g_m_grows n S) else (false, (g_m_grows n S))))
theorem k_m_goesOn (n : Nat) (f : Nat) (t : Nat) (e : Int32) (S : ZS) (h1 : 1 ≤ n) (h40 : n ≤ 40) (hft : f ≤ t) (ht : t < n) (hO : mOK n S) : zM sc yX7_goesOn cX7_goesOn 5 (some .boolean) 2 0 0 [.ref 0, .int (nI (f)), .int (nI (t)), .int (e)] (mh S) (.inl (some (.int (zb (g_m_goesOn n f t e S).1)))) (mh (g_m_goesOn n f t e S).2) := by
  refine zM.at (ls := [some (.ref 0), some (.int (nI (f))), some (.int (nI (t))), some (.int (e)), none]) zy_X7_goesOn.2.2.2.2.2 (Nat.le_of_ble_eq_true rfl) rfl ?_
  refine z_iload_1 dX7_goesOn_0 ?_
  refine z_istore_4 dX7_goesOn_1 rfl (by decide) ?_
  refine z_iload_4 dX7_goesOn_3 ?_
  refine z_iload_2 dX7_goesOn_5 ?_
  refine z_icmpN_ge (tgt := 37) dX7_goesOn_6 (by decide) (x := f) (z := t) (by first | omega | assumption) (by first | omega | assumption) (fun c6 => ?_) (fun c6 => ?_)
  · refine z_iconst (v := 1) dX7_goesOn_37 rfl ?_
    rw [g_m_goesOn, if_pos c6]
    try dsimp only
    exact z_iret dX7_goesOn_38 rfl rfl rfl rfl
  · refine z_iload_3 dX7_goesOn_9 ?_
    refine z_aload_0 dX7_goesOn_10 ?_
    refine z_iload_4 dX7_goesOn_11 ?_
    refine z_iconst (v := 1) dX7_goesOn_13 rfl ?_
    refine z_iadd dX7_goesOn_14 ?_
    refine z_topi (w := nI (f + 1)) (nI_add _ _) ?_
    refine Z.call0s (zRun.V (ρ := fun i => i) (k_m_value n (f + 1) S h1 h40 (by first | omega | assumption) hO) dX7_goesOn_15 zy_X7_value zm_X7_120 rfl rfl rfl rfl (Nat.le_of_ble_eq_true rfl) (by decide) (by decide)) (zlen2 14 rfl rfl) ?_
    refine Z.heap (h2 := mh (g_m_grows n S)) (by rw [g_m_value_2]) ?_
    refine z_aload_0 dX7_goesOn_18 ?_
    refine z_iload_4 dX7_goesOn_19 ?_
    refine Z.call0s (zRun.V (ρ := fun i => i) (k_m_valueG n f (g_m_grows n S) h1 h40 (by first | omega | assumption) (mGr_of h1 h40 hO)) dX7_goesOn_21 zy_X7_value zm_X7_120 rfl rfl rfl rfl (Nat.le_of_ble_eq_true rfl) (by decide) (by decide)) (zlen2 14 rfl rfl) ?_
    refine z_isub dX7_goesOn_24 ?_
    refine z_imul dX7_goesOn_25 ?_
    refine z_if_ge (tgt := 31) dX7_goesOn_26 (by decide) (fun c26 => ?_) (fun c26 => ?_)
    · refine z_iinc_4 (v := nI (f + 1)) dX7_goesOn_31 (nI_add _ 1) rfl (by decide) ?_
      refine z_goto (tgt := 3) dX7_goesOn_34 (by decide) ?_
      rw [g_m_goesOn, if_neg c6, if_pos c26]
      exact l_g_m_goesOn_L n f t e (t - (f + 1)) (f + 1) (g_m_grows n S) (by first | omega | assumption) (by first | omega | assumption) (by first | omega | assumption) (by first | omega | assumption) (mGr_of h1 h40 hO)
    · refine z_iconst (v := 0) dX7_goesOn_29 rfl ?_
      rw [g_m_goesOn, if_neg c6, if_neg c26]
      try dsimp only
      exact z_iret dX7_goesOn_30 rfl rfl rfl rfl
noncomputable def g_m_isAscending (n : Nat) (f : Nat) (t : Nat) (S : ZS) : Bool × ZS := (if ((g_m_goesOn n f t (1) (sI 15 (0) S)).1) = true then (true, (g_m_goesOn n f t (1) (sI 15 (0) S)).2) else (false, (g_m_goesOn n f t (1) (sI 15 (0) S)).2))
theorem k_m_isAscending (n : Nat) (f : Nat) (t : Nat) (S : ZS) (h1 : 1 ≤ n) (h40 : n ≤ 40) (hft : f ≤ t) (ht : t < n) (hO : mOK n S) : zM sc yX7_isAscending cX7_isAscending 3 (some .boolean) 4 0 0 [.ref 0, .int (nI (f)), .int (nI (t))] (mh S) (.inl (some (.int (zb (g_m_isAscending n f t S).1)))) (mh (g_m_isAscending n f t S).2) := by
  refine zM.at (ls := [some (.ref 0), some (.int (nI (f))), some (.int (nI (t)))]) zy_X7_isAscending.2.2.2.2.2 (Nat.le_of_ble_eq_true rfl) rfl ?_
  refine z_aload_0 dX7_isAscending_0 ?_
  refine z_iload_1 dX7_isAscending_1 ?_
  refine z_iload_2 dX7_isAscending_2 ?_
  refine Z.call0s (zRun.V (ρ := fun i => i) (k_m_tr_ok n f t S h1 h40 hft ht hO) dX7_isAscending_3 zy_X7_throwsRange zm_X7_301 rfl rfl rfl rfl (Nat.le_of_ble_eq_true rfl) (by decide) (by decide)) (zlen2 14 rfl rfl) ?_
  refine Z.heap (h2 := mh (sI 15 (0) S)) rfl ?_
  refine z_topi (w := 0) rfl ?_
  refine z_if_ne_f (tgt := 23) dX7_isAscending_6 (by decide) (by decide) ?_
  refine z_aload_0 dX7_isAscending_9 ?_
  refine z_iload_1 dX7_isAscending_10 ?_
  refine z_iload_2 dX7_isAscending_11 ?_
  refine z_iconst (v := 1) dX7_isAscending_12 rfl ?_
  refine Z.call0s (zRun.V (ρ := fun i => i) (k_m_goesOn n f t (1) (sI 15 (0) S) h1 h40 hft ht (hO.sI (by decide))) dX7_isAscending_13 zy_X7_goesOn zm_X7_322 rfl rfl rfl rfl (Nat.le_of_ble_eq_true rfl) (by decide) (by decide)) (zlen2 14 rfl rfl) ?_
  refine z_ifB_eq (tgt := 23) dX7_isAscending_16 (by decide) (fun c16 => ?_) (fun c16 => ?_)
  · refine z_iconst (v := 0) dX7_isAscending_23 rfl ?_
    rw [g_m_isAscending, if_neg c16]
    try dsimp only
    exact z_iret dX7_isAscending_24 rfl rfl rfl rfl
  · refine z_iconst (v := 1) dX7_isAscending_19 rfl ?_
    refine z_goto (tgt := 24) dX7_isAscending_20 (by decide) ?_
    rw [g_m_isAscending, if_pos c16]
    try dsimp only
    exact z_iret dX7_isAscending_24 rfl rfl rfl rfl
noncomputable def g_m_isAscending_x1 (_x : Int32) (_z : Int32) (S : ZS) : Bool × ZS := (false, (sI 15 (1) S))
theorem k_m_isAscending_x1 (x : Int32) (z : Int32) (S : ZS) (hx : g_m_isNone x z S = true) : zM sc yX7_isAscending cX7_isAscending 3 (some .boolean) 4 0 0 [.ref 0, .int (x), .int (z)] (mh S) (.inl (some (.int (zb (g_m_isAscending_x1 x z S).1)))) (mh (g_m_isAscending_x1 x z S).2) := by
  refine zM.at (ls := [some (.ref 0), some (.int (x)), some (.int (z))]) zy_X7_isAscending.2.2.2.2.2 (Nat.le_of_ble_eq_true rfl) rfl ?_
  refine z_aload_0 dX7_isAscending_0 ?_
  refine z_iload_1 dX7_isAscending_1 ?_
  refine z_iload_2 dX7_isAscending_2 ?_
  refine Z.call0s (zRun.V (ρ := fun i => i) (k_tr_x1 (x) (z) S hx) dX7_isAscending_3 zy_X7_throwsRange zm_X7_301 rfl rfl rfl rfl (Nat.le_of_ble_eq_true rfl) (by decide) (by decide)) (zlen2 14 rfl rfl) ?_
  refine z_if_ne_t (tgt := 23) dX7_isAscending_6 (by decide) (by decide) ?_
  refine z_iconst (v := 0) dX7_isAscending_23 rfl ?_
  rw [g_m_isAscending_x1]
  try dsimp only
  exact z_iret dX7_isAscending_24 rfl rfl rfl rfl
noncomputable def g_m_isAscending_x2 (_x : Int32) (_z : Int32) (S : ZS) : Bool × ZS := (false, (sI 15 (2) S))
theorem k_m_isAscending_x2 (x : Int32) (z : Int32) (S : ZS) (hx : g_m_isNone x z S = false) (hz : z < x) : zM sc yX7_isAscending cX7_isAscending 3 (some .boolean) 4 0 0 [.ref 0, .int (x), .int (z)] (mh S) (.inl (some (.int (zb (g_m_isAscending_x2 x z S).1)))) (mh (g_m_isAscending_x2 x z S).2) := by
  refine zM.at (ls := [some (.ref 0), some (.int (x)), some (.int (z))]) zy_X7_isAscending.2.2.2.2.2 (Nat.le_of_ble_eq_true rfl) rfl ?_
  refine z_aload_0 dX7_isAscending_0 ?_
  refine z_iload_1 dX7_isAscending_1 ?_
  refine z_iload_2 dX7_isAscending_2 ?_
  refine Z.call0s (zRun.V (ρ := fun i => i) (k_m_tr_x2 (x) (z) S hx hz) dX7_isAscending_3 zy_X7_throwsRange zm_X7_301 rfl rfl rfl rfl (Nat.le_of_ble_eq_true rfl) (by decide) (by decide)) (zlen2 14 rfl rfl) ?_
  refine Z.heap (h2 := mh (sI 15 (2) S)) rfl ?_
  refine z_topi (w := 1) rfl ?_
  refine z_if_ne_t (tgt := 23) dX7_isAscending_6 (by decide) (by decide) ?_
  refine z_iconst (v := 0) dX7_isAscending_23 rfl ?_
  rw [g_m_isAscending_x2]
  try dsimp only
  exact z_iret dX7_isAscending_24 rfl rfl rfl rfl
noncomputable def g_m_isDescending (n : Nat) (f : Nat) (t : Nat) (S : ZS) : Bool × ZS := (if ((g_m_goesOn n f t ((-1)) (sI 15 (0) S)).1) = true then (true, (g_m_goesOn n f t ((-1)) (sI 15 (0) S)).2) else (false, (g_m_goesOn n f t ((-1)) (sI 15 (0) S)).2))
theorem k_m_isDescending (n : Nat) (f : Nat) (t : Nat) (S : ZS) (h1 : 1 ≤ n) (h40 : n ≤ 40) (hft : f ≤ t) (ht : t < n) (hO : mOK n S) : zM sc yX7_isDescending cX7_isDescending 3 (some .boolean) 4 0 0 [.ref 0, .int (nI (f)), .int (nI (t))] (mh S) (.inl (some (.int (zb (g_m_isDescending n f t S).1)))) (mh (g_m_isDescending n f t S).2) := by
  refine zM.at (ls := [some (.ref 0), some (.int (nI (f))), some (.int (nI (t)))]) zy_X7_isDescending.2.2.2.2.2 (Nat.le_of_ble_eq_true rfl) rfl ?_
  refine z_aload_0 dX7_isDescending_0 ?_
  refine z_iload_1 dX7_isDescending_1 ?_
  refine z_iload_2 dX7_isDescending_2 ?_
  refine Z.call0s (zRun.V (ρ := fun i => i) (k_m_tr_ok n f t S h1 h40 hft ht hO) dX7_isDescending_3 zy_X7_throwsRange zm_X7_301 rfl rfl rfl rfl (Nat.le_of_ble_eq_true rfl) (by decide) (by decide)) (zlen2 14 rfl rfl) ?_
  refine Z.heap (h2 := mh (sI 15 (0) S)) rfl ?_
  refine z_topi (w := 0) rfl ?_
  refine z_if_ne_f (tgt := 23) dX7_isDescending_6 (by decide) (by decide) ?_
  refine z_aload_0 dX7_isDescending_9 ?_
  refine z_iload_1 dX7_isDescending_10 ?_
  refine z_iload_2 dX7_isDescending_11 ?_
  refine z_iconst (v := (-1)) dX7_isDescending_12 rfl ?_
  refine Z.call0s (zRun.V (ρ := fun i => i) (k_m_goesOn n f t ((-1)) (sI 15 (0) S) h1 h40 hft ht (hO.sI (by decide))) dX7_isDescending_13 zy_X7_goesOn zm_X7_322 rfl rfl rfl rfl (Nat.le_of_ble_eq_true rfl) (by decide) (by decide)) (zlen2 14 rfl rfl) ?_
  refine z_ifB_eq (tgt := 23) dX7_isDescending_16 (by decide) (fun c16 => ?_) (fun c16 => ?_)
  · refine z_iconst (v := 0) dX7_isDescending_23 rfl ?_
    rw [g_m_isDescending, if_neg c16]
    try dsimp only
    exact z_iret dX7_isDescending_24 rfl rfl rfl rfl
  · refine z_iconst (v := 1) dX7_isDescending_19 rfl ?_
    refine z_goto (tgt := 24) dX7_isDescending_20 (by decide) ?_
    rw [g_m_isDescending, if_pos c16]
    try dsimp only
    exact z_iret dX7_isDescending_24 rfl rfl rfl rfl
noncomputable def g_m_isDescending_x1 (_x : Int32) (_z : Int32) (S : ZS) : Bool × ZS := (false, (sI 15 (1) S))
theorem k_m_isDescending_x1 (x : Int32) (z : Int32) (S : ZS) (hx : g_m_isNone x z S = true) : zM sc yX7_isDescending cX7_isDescending 3 (some .boolean) 4 0 0 [.ref 0, .int (x), .int (z)] (mh S) (.inl (some (.int (zb (g_m_isDescending_x1 x z S).1)))) (mh (g_m_isDescending_x1 x z S).2) := by
  refine zM.at (ls := [some (.ref 0), some (.int (x)), some (.int (z))]) zy_X7_isDescending.2.2.2.2.2 (Nat.le_of_ble_eq_true rfl) rfl ?_
  refine z_aload_0 dX7_isDescending_0 ?_
  refine z_iload_1 dX7_isDescending_1 ?_
  refine z_iload_2 dX7_isDescending_2 ?_
  refine Z.call0s (zRun.V (ρ := fun i => i) (k_tr_x1 (x) (z) S hx) dX7_isDescending_3 zy_X7_throwsRange zm_X7_301 rfl rfl rfl rfl (Nat.le_of_ble_eq_true rfl) (by decide) (by decide)) (zlen2 14 rfl rfl) ?_
  refine z_if_ne_t (tgt := 23) dX7_isDescending_6 (by decide) (by decide) ?_
  refine z_iconst (v := 0) dX7_isDescending_23 rfl ?_
  rw [g_m_isDescending_x1]
  try dsimp only
  exact z_iret dX7_isDescending_24 rfl rfl rfl rfl
noncomputable def g_m_isDescending_x2 (_x : Int32) (_z : Int32) (S : ZS) : Bool × ZS := (false, (sI 15 (2) S))
theorem k_m_isDescending_x2 (x : Int32) (z : Int32) (S : ZS) (hx : g_m_isNone x z S = false) (hz : z < x) : zM sc yX7_isDescending cX7_isDescending 3 (some .boolean) 4 0 0 [.ref 0, .int (x), .int (z)] (mh S) (.inl (some (.int (zb (g_m_isDescending_x2 x z S).1)))) (mh (g_m_isDescending_x2 x z S).2) := by
  refine zM.at (ls := [some (.ref 0), some (.int (x)), some (.int (z))]) zy_X7_isDescending.2.2.2.2.2 (Nat.le_of_ble_eq_true rfl) rfl ?_
  refine z_aload_0 dX7_isDescending_0 ?_
  refine z_iload_1 dX7_isDescending_1 ?_
  refine z_iload_2 dX7_isDescending_2 ?_
  refine Z.call0s (zRun.V (ρ := fun i => i) (k_m_tr_x2 (x) (z) S hx hz) dX7_isDescending_3 zy_X7_throwsRange zm_X7_301 rfl rfl rfl rfl (Nat.le_of_ble_eq_true rfl) (by decide) (by decide)) (zlen2 14 rfl rfl) ?_
  refine Z.heap (h2 := mh (sI 15 (2) S)) rfl ?_
  refine z_topi (w := 1) rfl ?_
  refine z_if_ne_t (tgt := 23) dX7_isDescending_6 (by decide) (by decide) ?_
  refine z_iconst (v := 0) dX7_isDescending_23 rfl ?_
  rw [g_m_isDescending_x2]
  try dsimp only
  exact z_iret dX7_isDescending_24 rfl rfl rfl rfl
noncomputable def g_m_distinctCount_L (n : Nat) (f : Nat) (t : Nat) : Nat → Nat → Nat → ZS → Nat × ZS
  | 0, c, _, S => (c, S)
  | fu + 1, c, i, S => (if (g_m_firstOf n f t ((g_m_valueG n i S)) S).1 = nI (i) then g_m_distinctCount_L n f t fu (c + 1) (i + 1) S else g_m_distinctCount_L n f t fu (c + 0) (i + 1) S)
theorem l_g_m_distinctCount_L (n : Nat) (f : Nat) (t : Nat) : ∀ (fu : Nat) (c : Nat) (i : Nat) (S : ZS) , (1 ≤ n) → (n ≤ 40) → (f ≤ t) → (t < n) → (i + fu = t + 1) → (c + fu < 300) → (mGr n S) → Z sc yX7_distinctCount cX7_distinctCount 5 (some .int) 4 0 0 16 [some (.ref 0), some (.int (nI (f))), some (.int (nI (t))), some (.int (nI (c))), some (.int (nI (i)))] [] (mh S) (.inl (some (.int (nI (g_m_distinctCount_L n f t fu c i S).1)))) (mh (g_m_distinctCount_L n f t fu c i S).2) := by
  intro fu
  induction fu with
  | zero =>
    intro c i S h1 h40 hft ht hi hcc hG
    refine z_iload_4 dX7_distinctCount_16 ?_
    refine z_iload_2 dX7_distinctCount_18 ?_
    refine z_icmpN_gt_t (tgt := 53) dX7_distinctCount_19 (by decide) (x := i) (z := t) (by first | omega | assumption) (by first | omega | assumption) (by omega) ?_
    refine z_iload_3 dX7_distinctCount_53 ?_
    rw [g_m_distinctCount_L]
    try dsimp only
    exact z_iret dX7_distinctCount_54 rfl (zint _) rfl rfl
  | succ fu ih =>
    intro c i S h1 h40 hft ht hi hcc hG
    refine z_iload_4 dX7_distinctCount_16 ?_
    refine z_iload_2 dX7_distinctCount_18 ?_
    refine z_icmpN_gt_f (tgt := 53) dX7_distinctCount_19 (by decide) (x := i) (z := t) (by first | omega | assumption) (by first | omega | assumption) (by omega) ?_
    refine z_iload_3 dX7_distinctCount_22 ?_
    refine z_aload_0 dX7_distinctCount_23 ?_
    refine z_iload_1 dX7_distinctCount_24 ?_
    refine z_iload_2 dX7_distinctCount_25 ?_
    refine z_aload_0 dX7_distinctCount_26 ?_
    refine z_iload_4 dX7_distinctCount_27 ?_
    refine Z.call0s (zRun.V (ρ := fun i => i) (k_m_valueG n i S h1 h40 (by first | omega | assumption) hG) dX7_distinctCount_29 zy_X7_value zm_X7_120 rfl rfl rfl rfl (Nat.le_of_ble_eq_true rfl) (by decide) (by decide)) (zlen2 14 rfl rfl) ?_
    refine Z.call0s (zRun.V (ρ := fun i => i) (k_m_firstOf n f t ((g_m_valueG n i S)) S h1 h40 hft ht hG.ok) dX7_distinctCount_32 zy_X7_firstOf zm_X7_315 rfl rfl rfl rfl (Nat.le_of_ble_eq_true rfl) (by decide) (by decide)) (zlen2 14 rfl rfl) ?_
    refine Z.heap (h2 := mh S) (by rw [firstOf_2, hG.grows]) ?_
    refine z_iload_4 dX7_distinctCount_35 ?_
    refine z_icmp_ne (tgt := 44) dX7_distinctCount_37 (by decide) (fun c37 => ?_) (fun c37 => ?_)
    · refine z_iconst (v := 0) dX7_distinctCount_44 rfl ?_
      refine z_iadd dX7_distinctCount_45 ?_
      refine z_topi (w := nI (c + 0)) (nI_add _ _) ?_
      refine z_istore_3 dX7_distinctCount_46 rfl (by decide) ?_
      refine z_iinc_4 (v := nI (i + 1)) dX7_distinctCount_47 (nI_add _ 1) rfl (by decide) ?_
      refine z_goto (tgt := 16) dX7_distinctCount_50 (by decide) ?_
      rw [g_m_distinctCount_L, if_neg c37]
      exact ih (c + 0) (i + 1) S (by first | omega | assumption) (by first | omega | assumption) (by first | omega | assumption) (by first | omega | assumption) (by first | omega | assumption) (by first | omega | assumption) hG
    · refine z_iconst (v := 1) dX7_distinctCount_40 rfl ?_
      refine z_goto (tgt := 45) dX7_distinctCount_41 (by decide) ?_
      refine z_iadd dX7_distinctCount_45 ?_
      refine z_topi (w := nI (c + 1)) (nI_add _ _) ?_
      refine z_istore_3 dX7_distinctCount_46 rfl (by decide) ?_
      refine z_iinc_4 (v := nI (i + 1)) dX7_distinctCount_47 (nI_add _ 1) rfl (by decide) ?_
      refine z_goto (tgt := 16) dX7_distinctCount_50 (by decide) ?_
      rw [g_m_distinctCount_L, if_pos c37]
      exact ih (c + 1) (i + 1) S (by first | omega | assumption) (by first | omega | assumption) (by first | omega | assumption) (by first | omega | assumption) (by first | omega | assumption) (by first | omega | assumption) hG
noncomputable def g_m_distinctCount (n : Nat) (f : Nat) (t : Nat) (S : ZS) : Nat × ZS := (if (g_m_firstOf n f t ((g_m_value n f (sI 15 (0) S)).1) (g_m_grows n (sI 15 (0) S))).1 = nI (f) then g_m_distinctCount_L n f t (t - f) 1 (f + 1) (g_m_grows n (sI 15 (0) S)) else g_m_distinctCount_L n f t (t - f) 0 (f + 1) (g_m_grows n (sI 15 (0) S)))
theorem k_m_distinctCount (n : Nat) (f : Nat) (t : Nat) (S : ZS) (h1 : 1 ≤ n) (h40 : n ≤ 40) (hft : f ≤ t) (ht : t < n) (hO : mOK n S) : zM sc yX7_distinctCount cX7_distinctCount 5 (some .int) 4 0 0 [.ref 0, .int (nI (f)), .int (nI (t))] (mh S) (.inl (some (.int (nI (g_m_distinctCount n f t S).1)))) (mh (g_m_distinctCount n f t S).2) := by
  refine zM.at (ls := [some (.ref 0), some (.int (nI (f))), some (.int (nI (t))), none, none]) zy_X7_distinctCount.2.2.2.2.2 (Nat.le_of_ble_eq_true rfl) rfl ?_
  refine z_aload_0 dX7_distinctCount_0 ?_
  refine z_iload_1 dX7_distinctCount_1 ?_
  refine z_iload_2 dX7_distinctCount_2 ?_
  refine Z.call0s (zRun.V (ρ := fun i => i) (k_m_tr_ok n f t S h1 h40 hft ht hO) dX7_distinctCount_3 zy_X7_throwsRange zm_X7_301 rfl rfl rfl rfl (Nat.le_of_ble_eq_true rfl) (by decide) (by decide)) (zlen2 14 rfl rfl) ?_
  refine Z.heap (h2 := mh (sI 15 (0) S)) rfl ?_
  refine z_topi (w := 0) rfl ?_
  refine z_if_eq_t (tgt := 11) dX7_distinctCount_6 (by decide) (by decide) ?_
  refine z_iconst (v := 0) dX7_distinctCount_11 rfl ?_
  refine z_istore_3 dX7_distinctCount_12 rfl (by decide) ?_
  refine z_iload_1 dX7_distinctCount_13 ?_
  refine z_istore_4 dX7_distinctCount_14 rfl (by decide) ?_
  refine z_iload_4 dX7_distinctCount_16 ?_
  refine z_iload_2 dX7_distinctCount_18 ?_
  refine z_icmpN_gt_f (tgt := 53) dX7_distinctCount_19 (by decide) (x := f) (z := t) (by first | omega | assumption) (by first | omega | assumption) (by omega) ?_
  refine z_iload_3 dX7_distinctCount_22 ?_
  refine z_aload_0 dX7_distinctCount_23 ?_
  refine z_iload_1 dX7_distinctCount_24 ?_
  refine z_iload_2 dX7_distinctCount_25 ?_
  refine z_aload_0 dX7_distinctCount_26 ?_
  refine z_iload_4 dX7_distinctCount_27 ?_
  refine Z.call0s (zRun.V (ρ := fun i => i) (k_m_value n f (sI 15 (0) S) h1 h40 (by first | omega | assumption) (hO.sI (by decide))) dX7_distinctCount_29 zy_X7_value zm_X7_120 rfl rfl rfl rfl (Nat.le_of_ble_eq_true rfl) (by decide) (by decide)) (zlen2 14 rfl rfl) ?_
  refine Z.heap (h2 := mh (g_m_grows n (sI 15 (0) S))) (by rw [g_m_value_2]) ?_
  refine Z.call0s (zRun.V (ρ := fun i => i) (k_m_firstOf n f t ((g_m_value n f (sI 15 (0) S)).1) (g_m_grows n (sI 15 (0) S)) h1 h40 hft ht (mGr_of h1 h40 (hO.sI (by decide))).ok) dX7_distinctCount_32 zy_X7_firstOf zm_X7_315 rfl rfl rfl rfl (Nat.le_of_ble_eq_true rfl) (by decide) (by decide)) (zlen2 14 rfl rfl) ?_
  refine Z.heap (h2 := mh (g_m_grows n (sI 15 (0) S))) (by rw [firstOf_2, (mGr_of h1 h40 (hO.sI (by decide))).grows]) ?_
  refine z_iload_4 dX7_distinctCount_35 ?_
  refine z_icmp_ne (tgt := 44) dX7_distinctCount_37 (by decide) (fun c37 => ?_) (fun c37 => ?_)
  · refine z_iconst (v := 0) dX7_distinctCount_44 rfl ?_
    refine z_iadd dX7_distinctCount_45 ?_
    refine z_topi (w := 0) (by decide) ?_
    refine z_istore_3 dX7_distinctCount_46 rfl (by decide) ?_
    refine z_iinc_4 (v := nI (f + 1)) dX7_distinctCount_47 (nI_add _ 1) rfl (by decide) ?_
    refine z_goto (tgt := 16) dX7_distinctCount_50 (by decide) ?_
    rw [g_m_distinctCount, if_neg c37]
    exact l_g_m_distinctCount_L n f t (t - f) 0 (f + 1) (g_m_grows n (sI 15 (0) S)) (by first | omega | assumption) (by first | omega | assumption) (by first | omega | assumption) (by first | omega | assumption) (by first | omega | assumption) (by first | omega | assumption) (mGr_of h1 h40 (hO.sI (by decide)))
  · refine z_iconst (v := 1) dX7_distinctCount_40 rfl ?_
    refine z_goto (tgt := 45) dX7_distinctCount_41 (by decide) ?_
    refine z_iadd dX7_distinctCount_45 ?_
    refine z_topi (w := 1) (by decide) ?_
    refine z_istore_3 dX7_distinctCount_46 rfl (by decide) ?_
    refine z_iinc_4 (v := nI (f + 1)) dX7_distinctCount_47 (nI_add _ 1) rfl (by decide) ?_
    refine z_goto (tgt := 16) dX7_distinctCount_50 (by decide) ?_
    rw [g_m_distinctCount, if_pos c37]
    exact l_g_m_distinctCount_L n f t (t - f) 1 (f + 1) (g_m_grows n (sI 15 (0) S)) (by first | omega | assumption) (by first | omega | assumption) (by first | omega | assumption) (by first | omega | assumption) (by first | omega | assumption) (by first | omega | assumption) (mGr_of h1 h40 (hO.sI (by decide)))
noncomputable def g_m_distinctCount_x1 (_x : Int32) (_z : Int32) (S : ZS) : Int32 × ZS := (0, (sI 15 (1) S))
theorem k_m_distinctCount_x1 (x : Int32) (z : Int32) (S : ZS) (hx : g_m_isNone x z S = true) : zM sc yX7_distinctCount cX7_distinctCount 5 (some .int) 4 0 0 [.ref 0, .int (x), .int (z)] (mh S) (.inl (some (.int (g_m_distinctCount_x1 x z S).1))) (mh (g_m_distinctCount_x1 x z S).2) := by
  refine zM.at (ls := [some (.ref 0), some (.int (x)), some (.int (z)), none, none]) zy_X7_distinctCount.2.2.2.2.2 (Nat.le_of_ble_eq_true rfl) rfl ?_
  refine z_aload_0 dX7_distinctCount_0 ?_
  refine z_iload_1 dX7_distinctCount_1 ?_
  refine z_iload_2 dX7_distinctCount_2 ?_
  refine Z.call0s (zRun.V (ρ := fun i => i) (k_tr_x1 (x) (z) S hx) dX7_distinctCount_3 zy_X7_throwsRange zm_X7_301 rfl rfl rfl rfl (Nat.le_of_ble_eq_true rfl) (by decide) (by decide)) (zlen2 14 rfl rfl) ?_
  refine z_if_eq_f (tgt := 11) dX7_distinctCount_6 (by decide) (by decide) ?_
  refine z_iconst (v := 0) dX7_distinctCount_9 rfl ?_
  rw [g_m_distinctCount_x1]
  try dsimp only
  exact z_iret dX7_distinctCount_10 rfl (zint _) rfl rfl
noncomputable def g_m_distinctCount_x2 (_x : Int32) (_z : Int32) (S : ZS) : Int32 × ZS := (0, (sI 15 (2) S))
theorem k_m_distinctCount_x2 (x : Int32) (z : Int32) (S : ZS) (hx : g_m_isNone x z S = false) (hz : z < x) : zM sc yX7_distinctCount cX7_distinctCount 5 (some .int) 4 0 0 [.ref 0, .int (x), .int (z)] (mh S) (.inl (some (.int (g_m_distinctCount_x2 x z S).1))) (mh (g_m_distinctCount_x2 x z S).2) := by
  refine zM.at (ls := [some (.ref 0), some (.int (x)), some (.int (z)), none, none]) zy_X7_distinctCount.2.2.2.2.2 (Nat.le_of_ble_eq_true rfl) rfl ?_
  refine z_aload_0 dX7_distinctCount_0 ?_
  refine z_iload_1 dX7_distinctCount_1 ?_
  refine z_iload_2 dX7_distinctCount_2 ?_
  refine Z.call0s (zRun.V (ρ := fun i => i) (k_m_tr_x2 (x) (z) S hx hz) dX7_distinctCount_3 zy_X7_throwsRange zm_X7_301 rfl rfl rfl rfl (Nat.le_of_ble_eq_true rfl) (by decide) (by decide)) (zlen2 14 rfl rfl) ?_
  refine Z.heap (h2 := mh (sI 15 (2) S)) rfl ?_
  refine z_topi (w := 1) rfl ?_
  refine z_if_eq_f (tgt := 11) dX7_distinctCount_6 (by decide) (by decide) ?_
  refine z_iconst (v := 0) dX7_distinctCount_9 rfl ?_
  rw [g_m_distinctCount_x2]
  try dsimp only
  exact z_iret dX7_distinctCount_10 rfl (zint _) rfl rfl
section ZDC
variable {y : MethodName} {cc : ByteArray} {nL : Nat} {ret : Option FieldType} {d mc ms pc : Nat} {ls : List (Option Value)} {st : List Value} {h : List zO} {r : zR} {h' : List zO}
theorem z_dconst0 (hd : decode cc pc = .ok (.dconst 0, 1)) (k : Z sc y cc nL ret d mc ms (pc + 1) ls (.double FP.dconst0 :: st) h r h') : Z sc y cc nL ret d mc ms pc ls st h r h' := Z.go k (fun _ _ _ _ _ _ _ _ _ _ _ _ _ _ _ ad _ hx hb hl ho ht w => lv_dconst0 hx hb hd w)
theorem z_fconst0 (hd : decode cc pc = .ok (.fconst 0, 1)) (k : Z sc y cc nL ret d mc ms (pc + 1) ls (.float FP.fconst0 :: st) h r h') : Z sc y cc nL ret d mc ms pc ls st h r h' := Z.go k (fun _ _ _ _ _ _ _ _ _ _ _ _ _ _ _ ad _ hx hb hl ho ht w => lv_fconst0 hx hb hd w)
end ZDC
noncomputable def g_m_mean (n : Nat) (f : Nat) (t : Nat) (S : ZS) : UInt64 × ZS := (FP.ddiv (FP.l2d ((g_m_sumOf n f t (sI 15 (0) S)).1)) (FP.i2d (nI ((t - f) + 1))), (g_m_grows n (sI 15 (0) S)))
theorem k_m_mean (n : Nat) (f : Nat) (t : Nat) (S : ZS) (h1 : 1 ≤ n) (h40 : n ≤ 40) (hft : f ≤ t) (ht : t < n) (hO : mOK n S) (hn : vf_n64 (FP.ddiv (FP.l2d (g_m_sumOf n f t (sI 15 0 S)).1) (FP.i2d (nI (t - f + 1))))) : zM sc yX7_mean cX7_mean 3 (some .double) 4 0 0 [.ref 0, .int (nI (f)), .int (nI (t))] (mh S) (.inl (some (.double (g_m_mean n f t S).1))) (mh (g_m_mean n f t S).2) := by
  refine zM.at (ls := [some (.ref 0), some (.int (nI (f))), some (.int (nI (t)))]) zy_X7_mean.2.2.2.2.2 (Nat.le_of_ble_eq_true rfl) rfl ?_
  refine z_aload_0 dX7_mean_0 ?_
  refine z_iload_1 dX7_mean_1 ?_
  refine z_iload_2 dX7_mean_2 ?_
  refine Z.call0s (zRun.V (ρ := fun i => i) (k_m_tr_ok n f t S h1 h40 hft ht hO) dX7_mean_3 zy_X7_throwsRange zm_X7_301 rfl rfl rfl rfl (Nat.le_of_ble_eq_true rfl) (by decide) (by decide)) (zlen2 14 rfl rfl) ?_
  refine Z.heap (h2 := mh (sI 15 (0) S)) rfl ?_
  refine z_topi (w := 0) rfl ?_
  refine z_if_eq_t (tgt := 13) dX7_mean_6 (by decide) (by decide) ?_
  refine z_aload_0 dX7_mean_13 ?_
  refine z_iload_1 dX7_mean_14 ?_
  refine z_iload_2 dX7_mean_15 ?_
  refine Z.call0s (zRun.V (ρ := fun i => i) (k_m_sumOf n f t (sI 15 (0) S) h1 h40 hft ht (hO.sI (by decide))) dX7_mean_16 zy_X7_sumOf zm_X7_311 rfl rfl rfl rfl (Nat.le_of_ble_eq_true rfl) (by decide) (by decide)) (zlen2 14 rfl rfl) ?_
  refine Z.heap (h2 := mh (g_m_grows n (sI 15 (0) S))) (by rw [sumOf_2]) ?_
  refine z_l2d dX7_mean_19 ?_
  refine z_iload_2 dX7_mean_20 ?_
  refine z_iload_1 dX7_mean_21 ?_
  refine z_isub dX7_mean_22 ?_
  refine z_topi (w := nI (t - f)) (pk_sub (a := t) (b := f) (by first | omega | assumption)) ?_
  refine z_iconst (v := 1) dX7_mean_23 rfl ?_
  refine z_iadd dX7_mean_24 ?_
  refine z_topi (w := nI ((t - f) + 1)) (nI_add _ _) ?_
  refine z_i2d dX7_mean_25 ?_
  refine z_ddiv (hn := hn) dX7_mean_26 ?_
  rw [g_m_mean]
  try dsimp only
  exact z_dret dX7_mean_27 rfl rfl rfl
noncomputable def g_m_mean_x1 (_x : Int32) (_z : Int32) (S : ZS) : UInt64 × ZS := (FP.dconst0, (sI 15 (1) S))
theorem k_m_mean_x1 (x : Int32) (z : Int32) (S : ZS) (hx : g_m_isNone x z S = true) : zM sc yX7_mean cX7_mean 3 (some .double) 4 0 0 [.ref 0, .int (x), .int (z)] (mh S) (.inl (some (.double (g_m_mean_x1 x z S).1))) (mh (g_m_mean_x1 x z S).2) := by
  refine zM.at (ls := [some (.ref 0), some (.int (x)), some (.int (z))]) zy_X7_mean.2.2.2.2.2 (Nat.le_of_ble_eq_true rfl) rfl ?_
  refine z_aload_0 dX7_mean_0 ?_
  refine z_iload_1 dX7_mean_1 ?_
  refine z_iload_2 dX7_mean_2 ?_
  refine Z.call0s (zRun.V (ρ := fun i => i) (k_tr_x1 (x) (z) S hx) dX7_mean_3 zy_X7_throwsRange zm_X7_301 rfl rfl rfl rfl (Nat.le_of_ble_eq_true rfl) (by decide) (by decide)) (zlen2 14 rfl rfl) ?_
  refine z_if_eq_f (tgt := 13) dX7_mean_6 (by decide) (by decide) ?_
  refine z_dconst0 dX7_mean_9 ?_
  refine z_goto (tgt := 27) dX7_mean_10 (by decide) ?_
  rw [g_m_mean_x1]
  try dsimp only
  exact z_dret dX7_mean_27 rfl rfl rfl
noncomputable def g_m_mean_x2 (_x : Int32) (_z : Int32) (S : ZS) : UInt64 × ZS := (FP.dconst0, (sI 15 (2) S))
theorem k_m_mean_x2 (x : Int32) (z : Int32) (S : ZS) (hx : g_m_isNone x z S = false) (hz : z < x) : zM sc yX7_mean cX7_mean 3 (some .double) 4 0 0 [.ref 0, .int (x), .int (z)] (mh S) (.inl (some (.double (g_m_mean_x2 x z S).1))) (mh (g_m_mean_x2 x z S).2) := by
  refine zM.at (ls := [some (.ref 0), some (.int (x)), some (.int (z))]) zy_X7_mean.2.2.2.2.2 (Nat.le_of_ble_eq_true rfl) rfl ?_
  refine z_aload_0 dX7_mean_0 ?_
  refine z_iload_1 dX7_mean_1 ?_
  refine z_iload_2 dX7_mean_2 ?_
  refine Z.call0s (zRun.V (ρ := fun i => i) (k_m_tr_x2 (x) (z) S hx hz) dX7_mean_3 zy_X7_throwsRange zm_X7_301 rfl rfl rfl rfl (Nat.le_of_ble_eq_true rfl) (by decide) (by decide)) (zlen2 14 rfl rfl) ?_
  refine Z.heap (h2 := mh (sI 15 (2) S)) rfl ?_
  refine z_topi (w := 1) rfl ?_
  refine z_if_eq_f (tgt := 13) dX7_mean_6 (by decide) (by decide) ?_
  refine z_dconst0 dX7_mean_9 ?_
  refine z_goto (tgt := 27) dX7_mean_10 (by decide) ?_
  rw [g_m_mean_x2]
  try dsimp only
  exact z_dret dX7_mean_27 rfl rfl rfl
noncomputable def g_m_greatestShare (n : Nat) (f : Nat) (t : Nat) (S : ZS) : UInt32 × ZS := (FP.fdiv (FP.i2f (nI ((g_m_many n f t ((g_m_greatestOf n f t (sI 15 (0) S)).1) (g_m_grows n (sI 15 (0) S))).1))) (FP.i2f (nI ((t - f) + 1))), (g_m_grows n (sI 15 (0) S)))
theorem k_m_greatestShare (n : Nat) (f : Nat) (t : Nat) (S : ZS) (h1 : 1 ≤ n) (h40 : n ≤ 40) (hft : f ≤ t) (ht : t < n) (hO : mOK n S) (hn : vf_n32 (FP.fdiv (FP.i2f (nI (g_m_many n f t (g_m_greatestOf n f t (sI 15 0 S)).1 (g_m_grows n (sI 15 0 S))).1)) (FP.i2f (nI (t - f + 1))))) : zM sc yX7_greatestShare cX7_greatestShare 3 (some .float) 4 0 0 [.ref 0, .int (nI (f)), .int (nI (t))] (mh S) (.inl (some (.float (g_m_greatestShare n f t S).1))) (mh (g_m_greatestShare n f t S).2) := by
  refine zM.at (ls := [some (.ref 0), some (.int (nI (f))), some (.int (nI (t)))]) zy_X7_greatestShare.2.2.2.2.2 (Nat.le_of_ble_eq_true rfl) rfl ?_
  refine z_aload_0 dX7_greatestShare_0 ?_
  refine z_iload_1 dX7_greatestShare_1 ?_
  refine z_iload_2 dX7_greatestShare_2 ?_
  refine Z.call0s (zRun.V (ρ := fun i => i) (k_m_tr_ok n f t S h1 h40 hft ht hO) dX7_greatestShare_3 zy_X7_throwsRange zm_X7_301 rfl rfl rfl rfl (Nat.le_of_ble_eq_true rfl) (by decide) (by decide)) (zlen2 14 rfl rfl) ?_
  refine Z.heap (h2 := mh (sI 15 (0) S)) rfl ?_
  refine z_topi (w := 0) rfl ?_
  refine z_if_eq_t (tgt := 13) dX7_greatestShare_6 (by decide) (by decide) ?_
  refine z_aload_0 dX7_greatestShare_13 ?_
  refine z_iload_1 dX7_greatestShare_14 ?_
  refine z_iload_2 dX7_greatestShare_15 ?_
  refine z_aload_0 dX7_greatestShare_16 ?_
  refine z_iload_1 dX7_greatestShare_17 ?_
  refine z_iload_2 dX7_greatestShare_18 ?_
  refine Z.call0s (zRun.V (ρ := fun i => i) (k_m_greatestOf n f t (sI 15 (0) S) h1 h40 hft ht (hO.sI (by decide))) dX7_greatestShare_19 zy_X7_greatestOf zm_X7_142 rfl rfl rfl rfl (Nat.le_of_ble_eq_true rfl) (by decide) (by decide)) (zlen2 14 rfl rfl) ?_
  refine Z.heap (h2 := mh (g_m_grows n (sI 15 (0) S))) (by rw [greatestOf_2]) ?_
  refine Z.call0s (zRun.V (ρ := fun i => i) (k_m_many n f t ((g_m_greatestOf n f t (sI 15 (0) S)).1) (g_m_grows n (sI 15 (0) S)) h1 h40 hft ht (mGr_of h1 h40 (hO.sI (by decide))).ok) dX7_greatestShare_22 zy_X7_many zm_X7_319 rfl rfl rfl rfl (Nat.le_of_ble_eq_true rfl) (by decide) (by decide)) (zlen2 14 rfl rfl) ?_
  refine Z.heap (h2 := mh (g_m_grows n (sI 15 (0) S))) (by rw [many_2, (mGr_of h1 h40 (hO.sI (by decide))).grows]) ?_
  refine z_i2f dX7_greatestShare_25 ?_
  refine z_iload_2 dX7_greatestShare_26 ?_
  refine z_iload_1 dX7_greatestShare_27 ?_
  refine z_isub dX7_greatestShare_28 ?_
  refine z_topi (w := nI (t - f)) (pk_sub (a := t) (b := f) (by first | omega | assumption)) ?_
  refine z_iconst (v := 1) dX7_greatestShare_29 rfl ?_
  refine z_iadd dX7_greatestShare_30 ?_
  refine z_topi (w := nI ((t - f) + 1)) (nI_add _ _) ?_
  refine z_i2f dX7_greatestShare_31 ?_
  refine z_fdiv (hn := hn) dX7_greatestShare_32 ?_
  rw [g_m_greatestShare]
  try dsimp only
  exact z_fret dX7_greatestShare_33 rfl rfl rfl
noncomputable def g_m_greatestShare_x1 (_x : Int32) (_z : Int32) (S : ZS) : UInt32 × ZS := (FP.fconst0, (sI 15 (1) S))
theorem k_m_greatestShare_x1 (x : Int32) (z : Int32) (S : ZS) (hx : g_m_isNone x z S = true) : zM sc yX7_greatestShare cX7_greatestShare 3 (some .float) 4 0 0 [.ref 0, .int (x), .int (z)] (mh S) (.inl (some (.float (g_m_greatestShare_x1 x z S).1))) (mh (g_m_greatestShare_x1 x z S).2) := by
  refine zM.at (ls := [some (.ref 0), some (.int (x)), some (.int (z))]) zy_X7_greatestShare.2.2.2.2.2 (Nat.le_of_ble_eq_true rfl) rfl ?_
  refine z_aload_0 dX7_greatestShare_0 ?_
  refine z_iload_1 dX7_greatestShare_1 ?_
  refine z_iload_2 dX7_greatestShare_2 ?_
  refine Z.call0s (zRun.V (ρ := fun i => i) (k_tr_x1 (x) (z) S hx) dX7_greatestShare_3 zy_X7_throwsRange zm_X7_301 rfl rfl rfl rfl (Nat.le_of_ble_eq_true rfl) (by decide) (by decide)) (zlen2 14 rfl rfl) ?_
  refine z_if_eq_f (tgt := 13) dX7_greatestShare_6 (by decide) (by decide) ?_
  refine z_fconst0 dX7_greatestShare_9 ?_
  refine z_goto (tgt := 33) dX7_greatestShare_10 (by decide) ?_
  rw [g_m_greatestShare_x1]
  try dsimp only
  exact z_fret dX7_greatestShare_33 rfl rfl rfl
noncomputable def g_m_greatestShare_x2 (_x : Int32) (_z : Int32) (S : ZS) : UInt32 × ZS := (FP.fconst0, (sI 15 (2) S))
theorem k_m_greatestShare_x2 (x : Int32) (z : Int32) (S : ZS) (hx : g_m_isNone x z S = false) (hz : z < x) : zM sc yX7_greatestShare cX7_greatestShare 3 (some .float) 4 0 0 [.ref 0, .int (x), .int (z)] (mh S) (.inl (some (.float (g_m_greatestShare_x2 x z S).1))) (mh (g_m_greatestShare_x2 x z S).2) := by
  refine zM.at (ls := [some (.ref 0), some (.int (x)), some (.int (z))]) zy_X7_greatestShare.2.2.2.2.2 (Nat.le_of_ble_eq_true rfl) rfl ?_
  refine z_aload_0 dX7_greatestShare_0 ?_
  refine z_iload_1 dX7_greatestShare_1 ?_
  refine z_iload_2 dX7_greatestShare_2 ?_
  refine Z.call0s (zRun.V (ρ := fun i => i) (k_m_tr_x2 (x) (z) S hx hz) dX7_greatestShare_3 zy_X7_throwsRange zm_X7_301 rfl rfl rfl rfl (Nat.le_of_ble_eq_true rfl) (by decide) (by decide)) (zlen2 14 rfl rfl) ?_
  refine Z.heap (h2 := mh (sI 15 (2) S)) rfl ?_
  refine z_topi (w := 1) rfl ?_
  refine z_if_eq_f (tgt := 13) dX7_greatestShare_6 (by decide) (by decide) ?_
  refine z_fconst0 dX7_greatestShare_9 ?_
  refine z_goto (tgt := 33) dX7_greatestShare_10 (by decide) ?_
  rw [g_m_greatestShare_x2]
  try dsimp only
  exact z_fret dX7_greatestShare_33 rfl rfl rfl
