variable {sc : SC}

noncomputable def g_m_appliedFor (n : Nat) (f : Nat) (t : Nat) (S : ZS) : Int32 × ZS := (((g_m_tries n f t (sI 15 (0) S)).2).1 21, (g_m_tries n f t (sI 15 (0) S)).2)
theorem k_m_appliedFor (n : Nat) (f : Nat) (t : Nat) (S : ZS) (h1 : 1 ≤ n) (h40 : n ≤ 40) (hft : f ≤ t) (ht : t < n) (hO : mOK n S) : zM sc yX7_appliedFor cX7_appliedFor 3 (some .int) 13 0 0 [.ref 0, .int (nI (f)), .int (nI (t))] (mh S) (.inl (some (.int (g_m_appliedFor n f t S).1))) (mh (g_m_appliedFor n f t S).2) := by
  refine zM.at (ls := [some (.ref 0), some (.int (nI (f))), some (.int (nI (t)))]) zy_X7_appliedFor.2.2.2.2.2 (Nat.le_of_ble_eq_true rfl) rfl ?_
  refine z_aload_0 dX7_appliedFor_0 ?_
  refine z_iload_1 dX7_appliedFor_1 ?_
  refine z_iload_2 dX7_appliedFor_2 ?_
  refine Z.call0s (zRun.V (ρ := fun i => i) (k_m_tr_ok n f t S h1 h40 hft ht hO) dX7_appliedFor_3 zy_X7_throwsRange zm_X7_301 rfl rfl rfl rfl (Nat.le_of_ble_eq_true rfl) (by decide) (by decide)) (zlen2 14 rfl rfl) ?_
  refine Z.heap (h2 := mh (sI 15 (0) S)) rfl ?_
  refine z_topi (w := 0) rfl ?_
  refine z_if_eq_t (tgt := 11) dX7_appliedFor_6 (by decide) (by decide) ?_
  refine z_aload_0 dX7_appliedFor_11 ?_
  refine z_iload_1 dX7_appliedFor_12 ?_
  refine z_iload_2 dX7_appliedFor_13 ?_
  refine Z.call0s (zRun.V (ρ := fun i => i) (k_m_tries n f t (sI 15 (0) S) h1 h40 hft ht (hO.sI (by decide))) dX7_appliedFor_14 zy_X7_tries zm_X7_331 rfl rfl rfl rfl (Nat.le_of_ble_eq_true rfl) (by decide) (by decide)) (zlen2 14 rfl rfl) ?_
  refine z_pop dX7_appliedFor_17 rfl ?_
  refine z_aload_0 dX7_appliedFor_18 ?_
  refine z_get (k := 21) (v := .int (((g_m_tries n f t (sI 15 (0) S)).2).1 21)) dX7_appliedFor_19 rfl rfl rfl (by decide) zf_X7_106 zw_in7 ?_
  rw [g_m_appliedFor]
  try dsimp only
  exact z_iret dX7_appliedFor_22 rfl (zint _) rfl rfl
noncomputable def g_m_appliedFor_x1 (_x : Int32) (_z : Int32) (S : ZS) : Int32 × ZS := (0, (sI 15 (1) S))
theorem k_m_appliedFor_x1 (x : Int32) (z : Int32) (S : ZS) (hx : g_m_isNone x z S = true) : zM sc yX7_appliedFor cX7_appliedFor 3 (some .int) 4 0 0 [.ref 0, .int (x), .int (z)] (mh S) (.inl (some (.int (g_m_appliedFor_x1 x z S).1))) (mh (g_m_appliedFor_x1 x z S).2) := by
  refine zM.at (ls := [some (.ref 0), some (.int (x)), some (.int (z))]) zy_X7_appliedFor.2.2.2.2.2 (Nat.le_of_ble_eq_true rfl) rfl ?_
  refine z_aload_0 dX7_appliedFor_0 ?_
  refine z_iload_1 dX7_appliedFor_1 ?_
  refine z_iload_2 dX7_appliedFor_2 ?_
  refine Z.call0s (zRun.V (ρ := fun i => i) (k_tr_x1 (x) (z) S hx) dX7_appliedFor_3 zy_X7_throwsRange zm_X7_301 rfl rfl rfl rfl (Nat.le_of_ble_eq_true rfl) (by decide) (by decide)) (zlen2 14 rfl rfl) ?_
  refine z_if_eq_f (tgt := 11) dX7_appliedFor_6 (by decide) (by decide) ?_
  refine z_iconst (v := 0) dX7_appliedFor_9 rfl ?_
  rw [g_m_appliedFor_x1]
  try dsimp only
  exact z_iret dX7_appliedFor_10 rfl (zint _) rfl rfl
noncomputable def g_m_appliedFor_x2 (_x : Int32) (_z : Int32) (S : ZS) : Int32 × ZS := (0, (sI 15 (2) S))
theorem k_m_appliedFor_x2 (x : Int32) (z : Int32) (S : ZS) (hx : g_m_isNone x z S = false) (hz : z < x) : zM sc yX7_appliedFor cX7_appliedFor 3 (some .int) 4 0 0 [.ref 0, .int (x), .int (z)] (mh S) (.inl (some (.int (g_m_appliedFor_x2 x z S).1))) (mh (g_m_appliedFor_x2 x z S).2) := by
  refine zM.at (ls := [some (.ref 0), some (.int (x)), some (.int (z))]) zy_X7_appliedFor.2.2.2.2.2 (Nat.le_of_ble_eq_true rfl) rfl ?_
  refine z_aload_0 dX7_appliedFor_0 ?_
  refine z_iload_1 dX7_appliedFor_1 ?_
  refine z_iload_2 dX7_appliedFor_2 ?_
  refine Z.call0s (zRun.V (ρ := fun i => i) (k_m_tr_x2 (x) (z) S hx hz) dX7_appliedFor_3 zy_X7_throwsRange zm_X7_301 rfl rfl rfl rfl (Nat.le_of_ble_eq_true rfl) (by decide) (by decide)) (zlen2 14 rfl rfl) ?_
  refine Z.heap (h2 := mh (sI 15 (2) S)) rfl ?_
  refine z_topi (w := 1) rfl ?_
  refine z_if_eq_f (tgt := 11) dX7_appliedFor_6 (by decide) (by decide) ?_
  refine z_iconst (v := 0) dX7_appliedFor_9 rfl ?_
  rw [g_m_appliedFor_x2]
  try dsimp only
  exact z_iret dX7_appliedFor_10 rfl (zint _) rfl rfl
noncomputable def g_m_visitedFor (n : Nat) (f : Nat) (t : Nat) (S : ZS) : Int32 × ZS := (((g_m_tries n f t (sI 15 (0) S)).2).1 22, (g_m_tries n f t (sI 15 (0) S)).2)
theorem k_m_visitedFor (n : Nat) (f : Nat) (t : Nat) (S : ZS) (h1 : 1 ≤ n) (h40 : n ≤ 40) (hft : f ≤ t) (ht : t < n) (hO : mOK n S) : zM sc yX7_visitedFor cX7_visitedFor 3 (some .int) 13 0 0 [.ref 0, .int (nI (f)), .int (nI (t))] (mh S) (.inl (some (.int (g_m_visitedFor n f t S).1))) (mh (g_m_visitedFor n f t S).2) := by
  refine zM.at (ls := [some (.ref 0), some (.int (nI (f))), some (.int (nI (t)))]) zy_X7_visitedFor.2.2.2.2.2 (Nat.le_of_ble_eq_true rfl) rfl ?_
  refine z_aload_0 dX7_visitedFor_0 ?_
  refine z_iload_1 dX7_visitedFor_1 ?_
  refine z_iload_2 dX7_visitedFor_2 ?_
  refine Z.call0s (zRun.V (ρ := fun i => i) (k_m_tr_ok n f t S h1 h40 hft ht hO) dX7_visitedFor_3 zy_X7_throwsRange zm_X7_301 rfl rfl rfl rfl (Nat.le_of_ble_eq_true rfl) (by decide) (by decide)) (zlen2 14 rfl rfl) ?_
  refine Z.heap (h2 := mh (sI 15 (0) S)) rfl ?_
  refine z_topi (w := 0) rfl ?_
  refine z_if_eq_t (tgt := 11) dX7_visitedFor_6 (by decide) (by decide) ?_
  refine z_aload_0 dX7_visitedFor_11 ?_
  refine z_iload_1 dX7_visitedFor_12 ?_
  refine z_iload_2 dX7_visitedFor_13 ?_
  refine Z.call0s (zRun.V (ρ := fun i => i) (k_m_tries n f t (sI 15 (0) S) h1 h40 hft ht (hO.sI (by decide))) dX7_visitedFor_14 zy_X7_tries zm_X7_331 rfl rfl rfl rfl (Nat.le_of_ble_eq_true rfl) (by decide) (by decide)) (zlen2 14 rfl rfl) ?_
  refine z_pop dX7_visitedFor_17 rfl ?_
  refine z_aload_0 dX7_visitedFor_18 ?_
  refine z_get (k := 22) (v := .int (((g_m_tries n f t (sI 15 (0) S)).2).1 22)) dX7_visitedFor_19 rfl rfl rfl (by decide) zf_X7_103 zw_in7 ?_
  rw [g_m_visitedFor]
  try dsimp only
  exact z_iret dX7_visitedFor_22 rfl (zint _) rfl rfl
noncomputable def g_m_visitedFor_x1 (_x : Int32) (_z : Int32) (S : ZS) : Int32 × ZS := (0, (sI 15 (1) S))
theorem k_m_visitedFor_x1 (x : Int32) (z : Int32) (S : ZS) (hx : g_m_isNone x z S = true) : zM sc yX7_visitedFor cX7_visitedFor 3 (some .int) 4 0 0 [.ref 0, .int (x), .int (z)] (mh S) (.inl (some (.int (g_m_visitedFor_x1 x z S).1))) (mh (g_m_visitedFor_x1 x z S).2) := by
  refine zM.at (ls := [some (.ref 0), some (.int (x)), some (.int (z))]) zy_X7_visitedFor.2.2.2.2.2 (Nat.le_of_ble_eq_true rfl) rfl ?_
  refine z_aload_0 dX7_visitedFor_0 ?_
  refine z_iload_1 dX7_visitedFor_1 ?_
  refine z_iload_2 dX7_visitedFor_2 ?_
  refine Z.call0s (zRun.V (ρ := fun i => i) (k_tr_x1 (x) (z) S hx) dX7_visitedFor_3 zy_X7_throwsRange zm_X7_301 rfl rfl rfl rfl (Nat.le_of_ble_eq_true rfl) (by decide) (by decide)) (zlen2 14 rfl rfl) ?_
  refine z_if_eq_f (tgt := 11) dX7_visitedFor_6 (by decide) (by decide) ?_
  refine z_iconst (v := 0) dX7_visitedFor_9 rfl ?_
  rw [g_m_visitedFor_x1]
  try dsimp only
  exact z_iret dX7_visitedFor_10 rfl (zint _) rfl rfl
noncomputable def g_m_visitedFor_x2 (_x : Int32) (_z : Int32) (S : ZS) : Int32 × ZS := (0, (sI 15 (2) S))
theorem k_m_visitedFor_x2 (x : Int32) (z : Int32) (S : ZS) (hx : g_m_isNone x z S = false) (hz : z < x) : zM sc yX7_visitedFor cX7_visitedFor 3 (some .int) 4 0 0 [.ref 0, .int (x), .int (z)] (mh S) (.inl (some (.int (g_m_visitedFor_x2 x z S).1))) (mh (g_m_visitedFor_x2 x z S).2) := by
  refine zM.at (ls := [some (.ref 0), some (.int (x)), some (.int (z))]) zy_X7_visitedFor.2.2.2.2.2 (Nat.le_of_ble_eq_true rfl) rfl ?_
  refine z_aload_0 dX7_visitedFor_0 ?_
  refine z_iload_1 dX7_visitedFor_1 ?_
  refine z_iload_2 dX7_visitedFor_2 ?_
  refine Z.call0s (zRun.V (ρ := fun i => i) (k_m_tr_x2 (x) (z) S hx hz) dX7_visitedFor_3 zy_X7_throwsRange zm_X7_301 rfl rfl rfl rfl (Nat.le_of_ble_eq_true rfl) (by decide) (by decide)) (zlen2 14 rfl rfl) ?_
  refine Z.heap (h2 := mh (sI 15 (2) S)) rfl ?_
  refine z_topi (w := 1) rfl ?_
  refine z_if_eq_f (tgt := 11) dX7_visitedFor_6 (by decide) (by decide) ?_
  refine z_iconst (v := 0) dX7_visitedFor_9 rfl ?_
  rw [g_m_visitedFor_x2]
  try dsimp only
  exact z_iret dX7_visitedFor_10 rfl (zint _) rfl rfl
noncomputable def g_m_pushesFor (n : Nat) (f : Nat) (t : Nat) (S : ZS) : Int32 × ZS := ((g_m_tries n f t (sI 15 (0) S)).1, (g_m_tries n f t (sI 15 (0) S)).2)
theorem k_m_pushesFor (n : Nat) (f : Nat) (t : Nat) (S : ZS) (h1 : 1 ≤ n) (h40 : n ≤ 40) (hft : f ≤ t) (ht : t < n) (hO : mOK n S) : zM sc yX7_pushesFor cX7_pushesFor 3 (some .int) 13 0 0 [.ref 0, .int (nI (f)), .int (nI (t))] (mh S) (.inl (some (.int (g_m_pushesFor n f t S).1))) (mh (g_m_pushesFor n f t S).2) := by
  refine zM.at (ls := [some (.ref 0), some (.int (nI (f))), some (.int (nI (t)))]) zy_X7_pushesFor.2.2.2.2.2 (Nat.le_of_ble_eq_true rfl) rfl ?_
  refine z_aload_0 dX7_pushesFor_0 ?_
  refine z_iload_1 dX7_pushesFor_1 ?_
  refine z_iload_2 dX7_pushesFor_2 ?_
  refine Z.call0s (zRun.V (ρ := fun i => i) (k_m_tr_ok n f t S h1 h40 hft ht hO) dX7_pushesFor_3 zy_X7_throwsRange zm_X7_301 rfl rfl rfl rfl (Nat.le_of_ble_eq_true rfl) (by decide) (by decide)) (zlen2 14 rfl rfl) ?_
  refine Z.heap (h2 := mh (sI 15 (0) S)) rfl ?_
  refine z_topi (w := 0) rfl ?_
  refine z_if_eq_t (tgt := 13) dX7_pushesFor_6 (by decide) (by decide) ?_
  refine z_aload_0 dX7_pushesFor_13 ?_
  refine z_iload_1 dX7_pushesFor_14 ?_
  refine z_iload_2 dX7_pushesFor_15 ?_
  refine Z.call0s (zRun.V (ρ := fun i => i) (k_m_tries n f t (sI 15 (0) S) h1 h40 hft ht (hO.sI (by decide))) dX7_pushesFor_16 zy_X7_tries zm_X7_331 rfl rfl rfl rfl (Nat.le_of_ble_eq_true rfl) (by decide) (by decide)) (zlen2 14 rfl rfl) ?_
  rw [g_m_pushesFor]
  try dsimp only
  exact z_iret dX7_pushesFor_19 rfl (zint _) rfl rfl
noncomputable def g_m_pushesFor_x1 (_x : Int32) (_z : Int32) (S : ZS) : Int32 × ZS := (0, (sI 15 (1) S))
theorem k_m_pushesFor_x1 (x : Int32) (z : Int32) (S : ZS) (hx : g_m_isNone x z S = true) : zM sc yX7_pushesFor cX7_pushesFor 3 (some .int) 4 0 0 [.ref 0, .int (x), .int (z)] (mh S) (.inl (some (.int (g_m_pushesFor_x1 x z S).1))) (mh (g_m_pushesFor_x1 x z S).2) := by
  refine zM.at (ls := [some (.ref 0), some (.int (x)), some (.int (z))]) zy_X7_pushesFor.2.2.2.2.2 (Nat.le_of_ble_eq_true rfl) rfl ?_
  refine z_aload_0 dX7_pushesFor_0 ?_
  refine z_iload_1 dX7_pushesFor_1 ?_
  refine z_iload_2 dX7_pushesFor_2 ?_
  refine Z.call0s (zRun.V (ρ := fun i => i) (k_tr_x1 (x) (z) S hx) dX7_pushesFor_3 zy_X7_throwsRange zm_X7_301 rfl rfl rfl rfl (Nat.le_of_ble_eq_true rfl) (by decide) (by decide)) (zlen2 14 rfl rfl) ?_
  refine z_if_eq_f (tgt := 13) dX7_pushesFor_6 (by decide) (by decide) ?_
  refine z_iconst (v := 0) dX7_pushesFor_9 rfl ?_
  refine z_goto (tgt := 19) dX7_pushesFor_10 (by decide) ?_
  rw [g_m_pushesFor_x1]
  try dsimp only
  exact z_iret dX7_pushesFor_19 rfl (zint _) rfl rfl
noncomputable def g_m_pushesFor_x2 (_x : Int32) (_z : Int32) (S : ZS) : Int32 × ZS := (0, (sI 15 (2) S))
theorem k_m_pushesFor_x2 (x : Int32) (z : Int32) (S : ZS) (hx : g_m_isNone x z S = false) (hz : z < x) : zM sc yX7_pushesFor cX7_pushesFor 3 (some .int) 4 0 0 [.ref 0, .int (x), .int (z)] (mh S) (.inl (some (.int (g_m_pushesFor_x2 x z S).1))) (mh (g_m_pushesFor_x2 x z S).2) := by
  refine zM.at (ls := [some (.ref 0), some (.int (x)), some (.int (z))]) zy_X7_pushesFor.2.2.2.2.2 (Nat.le_of_ble_eq_true rfl) rfl ?_
  refine z_aload_0 dX7_pushesFor_0 ?_
  refine z_iload_1 dX7_pushesFor_1 ?_
  refine z_iload_2 dX7_pushesFor_2 ?_
  refine Z.call0s (zRun.V (ρ := fun i => i) (k_m_tr_x2 (x) (z) S hx hz) dX7_pushesFor_3 zy_X7_throwsRange zm_X7_301 rfl rfl rfl rfl (Nat.le_of_ble_eq_true rfl) (by decide) (by decide)) (zlen2 14 rfl rfl) ?_
  refine Z.heap (h2 := mh (sI 15 (2) S)) rfl ?_
  refine z_topi (w := 1) rfl ?_
  refine z_if_eq_f (tgt := 13) dX7_pushesFor_6 (by decide) (by decide) ?_
  refine z_iconst (v := 0) dX7_pushesFor_9 rfl ?_
  refine z_goto (tgt := 19) dX7_pushesFor_10 (by decide) ?_
  rw [g_m_pushesFor_x2]
  try dsimp only
  exact z_iret dX7_pushesFor_19 rfl (zint _) rfl rfl
noncomputable def g_m_appliedNode (n : Nat) (f : Nat) (t : Nat) (_v : Int32) (S : ZS) : Int32 × ZS := ((-1), (g_m_tries n f t (sI 15 (0) S)).2)
theorem k_m_appliedNode (n : Nat) (f : Nat) (t : Nat) (v : Int32) (S : ZS) (h1 : 1 ≤ n) (h40 : n ≤ 40) (hft : f ≤ t) (ht : t < n) (hO : mOK n S) (hv : g_m_in v 0 ((g_m_tries n f t (sI 15 0 S)).2.1 21 - 1) = false) : zM sc yX7_appliedNode cX7_appliedNode 4 (some .int) 13 0 0 [.ref 0, .int (nI (f)), .int (nI (t)), .int (v)] (mh S) (.inl (some (.int (g_m_appliedNode n f t v S).1))) (mh (g_m_appliedNode n f t v S).2) := by
  refine zM.at (ls := [some (.ref 0), some (.int (nI (f))), some (.int (nI (t))), some (.int (v))]) zy_X7_appliedNode.2.2.2.2.2 (Nat.le_of_ble_eq_true rfl) rfl ?_
  refine z_aload_0 dX7_appliedNode_0 ?_
  refine z_iload_1 dX7_appliedNode_1 ?_
  refine z_iload_2 dX7_appliedNode_2 ?_
  refine Z.call0s (zRun.V (ρ := fun i => i) (k_m_tr_ok n f t S h1 h40 hft ht hO) dX7_appliedNode_3 zy_X7_throwsRange zm_X7_301 rfl rfl rfl rfl (Nat.le_of_ble_eq_true rfl) (by decide) (by decide)) (zlen2 14 rfl rfl) ?_
  refine Z.heap (h2 := mh (sI 15 (0) S)) rfl ?_
  refine z_topi (w := 0) rfl ?_
  refine z_if_eq_t (tgt := 11) dX7_appliedNode_6 (by decide) (by decide) ?_
  refine z_aload_0 dX7_appliedNode_11 ?_
  refine z_iload_1 dX7_appliedNode_12 ?_
  refine z_iload_2 dX7_appliedNode_13 ?_
  refine Z.call0s (zRun.V (ρ := fun i => i) (k_m_tries n f t (sI 15 (0) S) h1 h40 hft ht (hO.sI (by decide))) dX7_appliedNode_14 zy_X7_tries zm_X7_331 rfl rfl rfl rfl (Nat.le_of_ble_eq_true rfl) (by decide) (by decide)) (zlen2 14 rfl rfl) ?_
  refine z_pop dX7_appliedNode_17 rfl ?_
  refine z_iload_3 dX7_appliedNode_18 ?_
  refine z_iconst (v := 0) dX7_appliedNode_19 rfl ?_
  refine z_aload_0 dX7_appliedNode_20 ?_
  refine z_get (k := 21) (v := .int (((g_m_tries n f t (sI 15 (0) S)).2).1 21)) dX7_appliedNode_21 rfl rfl rfl (by decide) zf_X7_106 zw_in7 ?_
  refine z_iconst (v := 1) dX7_appliedNode_24 rfl ?_
  refine z_isub dX7_appliedNode_25 ?_
  refine Z.callE (zRun.S (ρ := fun i => i) (k_m_in (v) (0) ((((g_m_tries n f t (sI 15 (0) S)).2).1 21) - 1) ) dX7_appliedNode_26 zy_X7_in zm_X7_67 rfl rfl (Nat.le_of_ble_eq_true rfl) (by decide) (by decide)) ?_
  refine z_topi (w := 0) (by rw [hv]; rfl) ?_
  refine z_if_eq_t (tgt := 41) dX7_appliedNode_29 (by decide) (by decide) ?_
  refine z_iconst (v := (-1)) dX7_appliedNode_41 rfl ?_
  rw [g_m_appliedNode]
  try dsimp only
  exact z_iret dX7_appliedNode_42 rfl (zint _) rfl rfl
noncomputable def g_m_appliedNode_v (n : Nat) (f : Nat) (t : Nat) (q : Nat) (S : ZS) : Int32 × ZS := (((g_m_tries n f t (sI 15 (0) S)).2).2 11 (q), (g_m_tries n f t (sI 15 (0) S)).2)
theorem k_m_appliedNode_v (n : Nat) (f : Nat) (t : Nat) (q : Nat) (S : ZS) (h1 : 1 ≤ n) (h40 : n ≤ 40) (hft : f ≤ t) (ht : t < n) (hO : mOK n S) (hq : q < 40) (hv : g_m_in (nI q) 0 ((g_m_tries n f t (sI 15 0 S)).2.1 21 - 1) = true) : zM sc yX7_appliedNode cX7_appliedNode 4 (some .int) 13 0 0 [.ref 0, .int (nI (f)), .int (nI (t)), .int (nI (q))] (mh S) (.inl (some (.int (g_m_appliedNode_v n f t q S).1))) (mh (g_m_appliedNode_v n f t q S).2) := by
  refine zM.at (ls := [some (.ref 0), some (.int (nI (f))), some (.int (nI (t))), some (.int (nI (q)))]) zy_X7_appliedNode.2.2.2.2.2 (Nat.le_of_ble_eq_true rfl) rfl ?_
  refine z_aload_0 dX7_appliedNode_0 ?_
  refine z_iload_1 dX7_appliedNode_1 ?_
  refine z_iload_2 dX7_appliedNode_2 ?_
  refine Z.call0s (zRun.V (ρ := fun i => i) (k_m_tr_ok n f t S h1 h40 hft ht hO) dX7_appliedNode_3 zy_X7_throwsRange zm_X7_301 rfl rfl rfl rfl (Nat.le_of_ble_eq_true rfl) (by decide) (by decide)) (zlen2 14 rfl rfl) ?_
  refine Z.heap (h2 := mh (sI 15 (0) S)) rfl ?_
  refine z_topi (w := 0) rfl ?_
  refine z_if_eq_t (tgt := 11) dX7_appliedNode_6 (by decide) (by decide) ?_
  refine z_aload_0 dX7_appliedNode_11 ?_
  refine z_iload_1 dX7_appliedNode_12 ?_
  refine z_iload_2 dX7_appliedNode_13 ?_
  refine Z.call0s (zRun.V (ρ := fun i => i) (k_m_tries n f t (sI 15 (0) S) h1 h40 hft ht (hO.sI (by decide))) dX7_appliedNode_14 zy_X7_tries zm_X7_331 rfl rfl rfl rfl (Nat.le_of_ble_eq_true rfl) (by decide) (by decide)) (zlen2 14 rfl rfl) ?_
  refine z_pop dX7_appliedNode_17 rfl ?_
  refine z_iload_3 dX7_appliedNode_18 ?_
  refine z_iconst (v := 0) dX7_appliedNode_19 rfl ?_
  refine z_aload_0 dX7_appliedNode_20 ?_
  refine z_get (k := 21) (v := .int (((g_m_tries n f t (sI 15 (0) S)).2).1 21)) dX7_appliedNode_21 rfl rfl rfl (by decide) zf_X7_106 zw_in7 ?_
  refine z_iconst (v := 1) dX7_appliedNode_24 rfl ?_
  refine z_isub dX7_appliedNode_25 ?_
  refine Z.callE (zRun.S (ρ := fun i => i) (k_m_in (nI (q)) (0) ((((g_m_tries n f t (sI 15 (0) S)).2).1 21) - 1) ) dX7_appliedNode_26 zy_X7_in zm_X7_67 rfl rfl (Nat.le_of_ble_eq_true rfl) (by decide) (by decide)) ?_
  refine z_topi (w := 1) (by rw [hv]; rfl) ?_
  refine z_if_eq_f (tgt := 41) dX7_appliedNode_29 (by decide) (by decide) ?_
  refine z_aload_0 dX7_appliedNode_32 ?_
  refine z_get (k := 20) (v := .ref 12) dX7_appliedNode_33 rfl rfl rfl (by decide) zf_X7_48 zw_in7 ?_
  refine z_iload_3 dX7_appliedNode_36 ?_
  refine z_ialdN (k := q) dX7_appliedNode_37 rfl (by first | omega | assumption) (by decide) ?_
  refine z_topi (w := ((g_m_tries n f t (sI 15 (0) S)).2).2 11 (q)) rfl ?_
  refine z_goto (tgt := 42) dX7_appliedNode_38 (by decide) ?_
  rw [g_m_appliedNode_v]
  try dsimp only
  exact z_iret dX7_appliedNode_42 rfl (zint _) rfl rfl
noncomputable def g_m_appliedNode_x1 (_x : Int32) (_z : Int32) (_v : Int32) (S : ZS) : Int32 × ZS := (0, (sI 15 (1) S))
theorem k_m_appliedNode_x1 (x : Int32) (z : Int32) (v : Int32) (S : ZS) (hx : g_m_isNone x z S = true) : zM sc yX7_appliedNode cX7_appliedNode 4 (some .int) 4 0 0 [.ref 0, .int (x), .int (z), .int (v)] (mh S) (.inl (some (.int (g_m_appliedNode_x1 x z v S).1))) (mh (g_m_appliedNode_x1 x z v S).2) := by
  refine zM.at (ls := [some (.ref 0), some (.int (x)), some (.int (z)), some (.int (v))]) zy_X7_appliedNode.2.2.2.2.2 (Nat.le_of_ble_eq_true rfl) rfl ?_
  refine z_aload_0 dX7_appliedNode_0 ?_
  refine z_iload_1 dX7_appliedNode_1 ?_
  refine z_iload_2 dX7_appliedNode_2 ?_
  refine Z.call0s (zRun.V (ρ := fun i => i) (k_tr_x1 (x) (z) S hx) dX7_appliedNode_3 zy_X7_throwsRange zm_X7_301 rfl rfl rfl rfl (Nat.le_of_ble_eq_true rfl) (by decide) (by decide)) (zlen2 14 rfl rfl) ?_
  refine z_if_eq_f (tgt := 11) dX7_appliedNode_6 (by decide) (by decide) ?_
  refine z_iconst (v := 0) dX7_appliedNode_9 rfl ?_
  rw [g_m_appliedNode_x1]
  try dsimp only
  exact z_iret dX7_appliedNode_10 rfl (zint _) rfl rfl
noncomputable def g_m_appliedNode_x2 (_x : Int32) (_z : Int32) (_v : Int32) (S : ZS) : Int32 × ZS := (0, (sI 15 (2) S))
theorem k_m_appliedNode_x2 (x : Int32) (z : Int32) (v : Int32) (S : ZS) (hx : g_m_isNone x z S = false) (hz : z < x) : zM sc yX7_appliedNode cX7_appliedNode 4 (some .int) 4 0 0 [.ref 0, .int (x), .int (z), .int (v)] (mh S) (.inl (some (.int (g_m_appliedNode_x2 x z v S).1))) (mh (g_m_appliedNode_x2 x z v S).2) := by
  refine zM.at (ls := [some (.ref 0), some (.int (x)), some (.int (z)), some (.int (v))]) zy_X7_appliedNode.2.2.2.2.2 (Nat.le_of_ble_eq_true rfl) rfl ?_
  refine z_aload_0 dX7_appliedNode_0 ?_
  refine z_iload_1 dX7_appliedNode_1 ?_
  refine z_iload_2 dX7_appliedNode_2 ?_
  refine Z.call0s (zRun.V (ρ := fun i => i) (k_m_tr_x2 (x) (z) S hx hz) dX7_appliedNode_3 zy_X7_throwsRange zm_X7_301 rfl rfl rfl rfl (Nat.le_of_ble_eq_true rfl) (by decide) (by decide)) (zlen2 14 rfl rfl) ?_
  refine Z.heap (h2 := mh (sI 15 (2) S)) rfl ?_
  refine z_topi (w := 1) rfl ?_
  refine z_if_eq_f (tgt := 11) dX7_appliedNode_6 (by decide) (by decide) ?_
  refine z_iconst (v := 0) dX7_appliedNode_9 rfl ?_
  rw [g_m_appliedNode_x2]
  try dsimp only
  exact z_iret dX7_appliedNode_10 rfl (zint _) rfl rfl
noncomputable def g_m_canAdd (n : Nat) (f : Nat) (t : Nat) (v : Int32) (S : ZS) : Bool × ZS := (if ((g_m_fits n f t (v) (sI 15 (0) S)).1) = true then (true, (g_m_grows n (sI 15 (0) S))) else (false, (g_m_grows n (sI 15 (0) S))))
theorem k_m_canAdd (n : Nat) (f : Nat) (t : Nat) (v : Int32) (S : ZS) (h1 : 1 ≤ n) (h40 : n ≤ 40) (hft : f ≤ t) (ht : t < n) (hO : mOK n S) (hv : g_m_isValue v = true) : zM sc yX7_canAdd cX7_canAdd 4 (some .boolean) 4 0 0 [.ref 0, .int (nI (f)), .int (nI (t)), .int (v)] (mh S) (.inl (some (.int (zb (g_m_canAdd n f t v S).1)))) (mh (g_m_canAdd n f t v S).2) := by
  refine zM.at (ls := [some (.ref 0), some (.int (nI (f))), some (.int (nI (t))), some (.int (v))]) zy_X7_canAdd.2.2.2.2.2 (Nat.le_of_ble_eq_true rfl) rfl ?_
  refine z_aload_0 dX7_canAdd_0 ?_
  refine z_aload_0 dX7_canAdd_1 ?_
  refine z_iload_1 dX7_canAdd_2 ?_
  refine z_iload_2 dX7_canAdd_3 ?_
  refine Z.call0s (zRun.V (ρ := fun i => i) (k_m_isNone (nI (f)) (nI (t)) S ) dX7_canAdd_4 zy_X7_isNone zm_X7_75 rfl rfl rfl rfl (Nat.le_of_ble_eq_true rfl) (by decide) (by decide)) (zlen2 14 rfl rfl) ?_
  refine z_topi (w := 0) (by rw [isNone_ok h1 h40 hO.1 hft ht]; rfl) ?_
  refine z_iload_2 dX7_canAdd_7 ?_
  refine z_iload_1 dX7_canAdd_8 ?_
  refine z_icmpN_lt_f (tgt := 19) dX7_canAdd_9 (by decide) (x := t) (z := f) (by first | omega | assumption) (by first | omega | assumption) (by omega) ?_
  refine z_iload_3 dX7_canAdd_12 ?_
  refine Z.callE (zRun.S (ρ := fun i => i) (k_m_isValue (v) ) dX7_canAdd_13 zy_X7_isValue zm_X7_295 rfl rfl (Nat.le_of_ble_eq_true rfl) (by decide) (by decide)) ?_
  refine z_topi (w := 1) (by rw [hv]; rfl) ?_
  refine z_if_ne_t (tgt := 23) dX7_canAdd_16 (by decide) (by decide) ?_
  refine z_iconst (v := 0) dX7_canAdd_23 rfl ?_
  refine Z.call0s (zRun.V (ρ := fun i => i) (k_m_throwsOne_ (false) (false) S ) dX7_canAdd_24 zy_X7_throwsOne_ zm_X7_79 rfl rfl rfl rfl (Nat.le_of_ble_eq_true rfl) (by decide) (by decide)) (zlen2 14 rfl rfl) ?_
  refine Z.heap (h2 := mh (sI 15 (0) S)) rfl ?_
  refine z_topi (w := 0) rfl ?_
  refine z_if_ne_f (tgt := 44) dX7_canAdd_27 (by decide) (by decide) ?_
  refine z_aload_0 dX7_canAdd_30 ?_
  refine z_iload_1 dX7_canAdd_31 ?_
  refine z_iload_2 dX7_canAdd_32 ?_
  refine z_iload_3 dX7_canAdd_33 ?_
  refine Z.call0s (zRun.V (ρ := fun i => i) (k_m_fits n f t (v) (sI 15 (0) S) h1 h40 hft ht (hO.sI (by decide))) dX7_canAdd_34 zy_X7_fits zm_X7_207 rfl rfl rfl rfl (Nat.le_of_ble_eq_true rfl) (by decide) (by decide)) (zlen2 14 rfl rfl) ?_
  refine Z.heap (h2 := mh (g_m_grows n (sI 15 (0) S))) (by rw [fits_2]) ?_
  refine z_ifB_eq (tgt := 44) dX7_canAdd_37 (by decide) (fun c37 => ?_) (fun c37 => ?_)
  · refine z_iconst (v := 0) dX7_canAdd_44 rfl ?_
    rw [g_m_canAdd, if_neg c37]
    try dsimp only
    exact z_iret dX7_canAdd_45 rfl rfl rfl rfl
  · refine z_iconst (v := 1) dX7_canAdd_40 rfl ?_
    refine z_goto (tgt := 45) dX7_canAdd_41 (by decide) ?_
    rw [g_m_canAdd, if_pos c37]
    try dsimp only
    exact z_iret dX7_canAdd_45 rfl rfl rfl rfl
noncomputable def g_m_canAdd_x1 (x : Int32) (z : Int32) (v : Int32) (S : ZS) : Bool × ZS := (if z < x then (false, (sI 15 (1) S)) else (if ((g_m_isValue (v))) = true then (false, (sI 15 (1) S)) else (false, (sI 15 (1) S))))
theorem k_m_canAdd_x1 (x : Int32) (z : Int32) (v : Int32) (S : ZS) (hx : g_m_isNone x z S = true) : zM sc yX7_canAdd cX7_canAdd 4 (some .boolean) 3 0 0 [.ref 0, .int (x), .int (z), .int (v)] (mh S) (.inl (some (.int (zb (g_m_canAdd_x1 x z v S).1)))) (mh (g_m_canAdd_x1 x z v S).2) := by
  refine zM.at (ls := [some (.ref 0), some (.int (x)), some (.int (z)), some (.int (v))]) zy_X7_canAdd.2.2.2.2.2 (Nat.le_of_ble_eq_true rfl) rfl ?_
  refine z_aload_0 dX7_canAdd_0 ?_
  refine z_aload_0 dX7_canAdd_1 ?_
  refine z_iload_1 dX7_canAdd_2 ?_
  refine z_iload_2 dX7_canAdd_3 ?_
  refine Z.call0s (zRun.V (ρ := fun i => i) (k_m_isNone (x) (z) S ) dX7_canAdd_4 zy_X7_isNone zm_X7_75 rfl rfl rfl rfl (Nat.le_of_ble_eq_true rfl) (by decide) (by decide)) (zlen2 14 rfl rfl) ?_
  refine z_topi (w := 1) (by rw [hx]; rfl) ?_
  refine z_iload_2 dX7_canAdd_7 ?_
  refine z_iload_1 dX7_canAdd_8 ?_
  refine z_icmp_lt (tgt := 19) dX7_canAdd_9 (by decide) (fun c9 => ?_) (fun c9 => ?_)
  · refine z_iconst (v := 1) dX7_canAdd_19 rfl ?_
    refine z_goto (tgt := 24) dX7_canAdd_20 (by decide) ?_
    refine Z.call0s (zRun.V (ρ := fun i => i) (k_m_throwsOne_ (true) (true) S ) dX7_canAdd_24 zy_X7_throwsOne_ zm_X7_79 rfl rfl rfl rfl (Nat.le_of_ble_eq_true rfl) (by decide) (by decide)) (zlen2 14 rfl rfl) ?_
    refine Z.heap (h2 := mh (sI 15 (1) S)) rfl ?_
    refine z_topi (w := 1) rfl ?_
    refine z_if_ne_t (tgt := 44) dX7_canAdd_27 (by decide) (by decide) ?_
    refine z_iconst (v := 0) dX7_canAdd_44 rfl ?_
    rw [g_m_canAdd_x1, if_pos c9]
    try dsimp only
    exact z_iret dX7_canAdd_45 rfl rfl rfl rfl
  · refine z_iload_3 dX7_canAdd_12 ?_
    refine Z.callE (zRun.S (ρ := fun i => i) (k_m_isValue (v) ) dX7_canAdd_13 zy_X7_isValue zm_X7_295 rfl rfl (Nat.le_of_ble_eq_true rfl) (by decide) (by decide)) ?_
    refine z_ifB_ne (tgt := 23) dX7_canAdd_16 (by decide) (fun c16 => ?_) (fun c16 => ?_)
    · refine z_iconst (v := 0) dX7_canAdd_23 rfl ?_
      refine Z.call0s (zRun.V (ρ := fun i => i) (k_m_throwsOne_ (true) (false) S ) dX7_canAdd_24 zy_X7_throwsOne_ zm_X7_79 rfl rfl rfl rfl (Nat.le_of_ble_eq_true rfl) (by decide) (by decide)) (zlen2 14 rfl rfl) ?_
      refine Z.heap (h2 := mh (sI 15 (1) S)) rfl ?_
      refine z_topi (w := 1) rfl ?_
      refine z_if_ne_t (tgt := 44) dX7_canAdd_27 (by decide) (by decide) ?_
      refine z_iconst (v := 0) dX7_canAdd_44 rfl ?_
      rw [g_m_canAdd_x1, if_neg c9, if_pos c16]
      try dsimp only
      exact z_iret dX7_canAdd_45 rfl rfl rfl rfl
    · refine z_iconst (v := 1) dX7_canAdd_19 rfl ?_
      refine z_goto (tgt := 24) dX7_canAdd_20 (by decide) ?_
      refine Z.call0s (zRun.V (ρ := fun i => i) (k_m_throwsOne_ (true) (true) S ) dX7_canAdd_24 zy_X7_throwsOne_ zm_X7_79 rfl rfl rfl rfl (Nat.le_of_ble_eq_true rfl) (by decide) (by decide)) (zlen2 14 rfl rfl) ?_
      refine Z.heap (h2 := mh (sI 15 (1) S)) rfl ?_
      refine z_topi (w := 1) rfl ?_
      refine z_if_ne_t (tgt := 44) dX7_canAdd_27 (by decide) (by decide) ?_
      refine z_iconst (v := 0) dX7_canAdd_44 rfl ?_
      rw [g_m_canAdd_x1, if_neg c9, if_neg c16]
      try dsimp only
      exact z_iret dX7_canAdd_45 rfl rfl rfl rfl
noncomputable def g_m_canAdd_x2 (_x : Int32) (_z : Int32) (_v : Int32) (S : ZS) : Bool × ZS := (false, (sI 15 (2) S))
theorem k_m_canAdd_x2 (x : Int32) (z : Int32) (v : Int32) (S : ZS) (hx : g_m_isNone x z S = false) (hz : z < x) : zM sc yX7_canAdd cX7_canAdd 4 (some .boolean) 3 0 0 [.ref 0, .int (x), .int (z), .int (v)] (mh S) (.inl (some (.int (zb (g_m_canAdd_x2 x z v S).1)))) (mh (g_m_canAdd_x2 x z v S).2) := by
  refine zM.at (ls := [some (.ref 0), some (.int (x)), some (.int (z)), some (.int (v))]) zy_X7_canAdd.2.2.2.2.2 (Nat.le_of_ble_eq_true rfl) rfl ?_
  refine z_aload_0 dX7_canAdd_0 ?_
  refine z_aload_0 dX7_canAdd_1 ?_
  refine z_iload_1 dX7_canAdd_2 ?_
  refine z_iload_2 dX7_canAdd_3 ?_
  refine Z.call0s (zRun.V (ρ := fun i => i) (k_m_isNone (x) (z) S ) dX7_canAdd_4 zy_X7_isNone zm_X7_75 rfl rfl rfl rfl (Nat.le_of_ble_eq_true rfl) (by decide) (by decide)) (zlen2 14 rfl rfl) ?_
  refine z_topi (w := 0) (by rw [hx]; rfl) ?_
  refine z_iload_2 dX7_canAdd_7 ?_
  refine z_iload_1 dX7_canAdd_8 ?_
  refine z_icmp_lt_t (tgt := 19) dX7_canAdd_9 (by decide) hz ?_
  refine z_iconst (v := 1) dX7_canAdd_19 rfl ?_
  refine z_goto (tgt := 24) dX7_canAdd_20 (by decide) ?_
  refine Z.call0s (zRun.V (ρ := fun i => i) (k_m_throwsOne_ (false) (true) S ) dX7_canAdd_24 zy_X7_throwsOne_ zm_X7_79 rfl rfl rfl rfl (Nat.le_of_ble_eq_true rfl) (by decide) (by decide)) (zlen2 14 rfl rfl) ?_
  refine Z.heap (h2 := mh (sI 15 (2) S)) rfl ?_
  refine z_topi (w := 1) rfl ?_
  refine z_if_ne_t (tgt := 44) dX7_canAdd_27 (by decide) (by decide) ?_
  refine z_iconst (v := 0) dX7_canAdd_44 rfl ?_
  rw [g_m_canAdd_x2]
  try dsimp only
  exact z_iret dX7_canAdd_45 rfl rfl rfl rfl
noncomputable def g_m_canAdd_x3 (_x : Int32) (_z : Int32) (_v : Int32) (S : ZS) : Bool × ZS := (false, (sI 15 (2) S))
theorem k_m_canAdd_x3 (x : Int32) (z : Int32) (v : Int32) (S : ZS) (hx : g_m_isNone x z S = false) (hz : ¬ z < x) (hv : g_m_isValue v = false) : zM sc yX7_canAdd cX7_canAdd 4 (some .boolean) 3 0 0 [.ref 0, .int (x), .int (z), .int (v)] (mh S) (.inl (some (.int (zb (g_m_canAdd_x3 x z v S).1)))) (mh (g_m_canAdd_x3 x z v S).2) := by
  refine zM.at (ls := [some (.ref 0), some (.int (x)), some (.int (z)), some (.int (v))]) zy_X7_canAdd.2.2.2.2.2 (Nat.le_of_ble_eq_true rfl) rfl ?_
  refine z_aload_0 dX7_canAdd_0 ?_
  refine z_aload_0 dX7_canAdd_1 ?_
  refine z_iload_1 dX7_canAdd_2 ?_
  refine z_iload_2 dX7_canAdd_3 ?_
  refine Z.call0s (zRun.V (ρ := fun i => i) (k_m_isNone (x) (z) S ) dX7_canAdd_4 zy_X7_isNone zm_X7_75 rfl rfl rfl rfl (Nat.le_of_ble_eq_true rfl) (by decide) (by decide)) (zlen2 14 rfl rfl) ?_
  refine z_topi (w := 0) (by rw [hx]; rfl) ?_
  refine z_iload_2 dX7_canAdd_7 ?_
  refine z_iload_1 dX7_canAdd_8 ?_
  refine z_icmp_lt_f (tgt := 19) dX7_canAdd_9 (by decide) hz ?_
  refine z_iload_3 dX7_canAdd_12 ?_
  refine Z.callE (zRun.S (ρ := fun i => i) (k_m_isValue (v) ) dX7_canAdd_13 zy_X7_isValue zm_X7_295 rfl rfl (Nat.le_of_ble_eq_true rfl) (by decide) (by decide)) ?_
  refine z_topi (w := 0) (by rw [hv]; rfl) ?_
  refine z_if_ne_f (tgt := 23) dX7_canAdd_16 (by decide) (by decide) ?_
  refine z_iconst (v := 1) dX7_canAdd_19 rfl ?_
  refine z_goto (tgt := 24) dX7_canAdd_20 (by decide) ?_
  refine Z.call0s (zRun.V (ρ := fun i => i) (k_m_throwsOne_ (false) (true) S ) dX7_canAdd_24 zy_X7_throwsOne_ zm_X7_79 rfl rfl rfl rfl (Nat.le_of_ble_eq_true rfl) (by decide) (by decide)) (zlen2 14 rfl rfl) ?_
  refine Z.heap (h2 := mh (sI 15 (2) S)) rfl ?_
  refine z_topi (w := 1) rfl ?_
  refine z_if_ne_t (tgt := 44) dX7_canAdd_27 (by decide) (by decide) ?_
  refine z_iconst (v := 0) dX7_canAdd_44 rfl ?_
  rw [g_m_canAdd_x3]
  try dsimp only
  exact z_iret dX7_canAdd_45 rfl rfl rfl rfl
noncomputable def g_m_totalIfAssigned (n : Nat) (f : Nat) (t : Nat) (v : Int32) (S : ZS) : Int64 × ZS := ((((g_m_sumOf n 0 (n - 1) (sI 15 (0) S)).1) - ((g_m_sumOf n f t (g_m_grows n (sI 15 (0) S))).1)) + (((v).toInt64) * ((nI ((t - f) + 1)).toInt64)), (g_m_grows n (sI 15 (0) S)))
theorem k_m_totalIfAssigned (n : Nat) (f : Nat) (t : Nat) (v : Int32) (S : ZS) (h1 : 1 ≤ n) (h40 : n ≤ 40) (hft : f ≤ t) (ht : t < n) (hO : mOK n S) (hv : g_m_isValue v = true) : zM sc yX7_totalIfAssigned cX7_totalIfAssigned 4 (some .long) 3 0 0 [.ref 0, .int (nI (f)), .int (nI (t)), .int (v)] (mh S) (.inl (some (.long (g_m_totalIfAssigned n f t v S).1))) (mh (g_m_totalIfAssigned n f t v S).2) := by
  refine zM.at (ls := [some (.ref 0), some (.int (nI (f))), some (.int (nI (t))), some (.int (v))]) zy_X7_totalIfAssigned.2.2.2.2.2 (Nat.le_of_ble_eq_true rfl) rfl ?_
  refine z_aload_0 dX7_totalIfAssigned_0 ?_
  refine z_aload_0 dX7_totalIfAssigned_1 ?_
  refine z_iload_1 dX7_totalIfAssigned_2 ?_
  refine z_iload_2 dX7_totalIfAssigned_3 ?_
  refine Z.call0s (zRun.V (ρ := fun i => i) (k_m_isNone (nI (f)) (nI (t)) S ) dX7_totalIfAssigned_4 zy_X7_isNone zm_X7_75 rfl rfl rfl rfl (Nat.le_of_ble_eq_true rfl) (by decide) (by decide)) (zlen2 14 rfl rfl) ?_
  refine z_topi (w := 0) (by rw [isNone_ok h1 h40 hO.1 hft ht]; rfl) ?_
  refine z_iload_2 dX7_totalIfAssigned_7 ?_
  refine z_iload_1 dX7_totalIfAssigned_8 ?_
  refine z_icmpN_lt_f (tgt := 19) dX7_totalIfAssigned_9 (by decide) (x := t) (z := f) (by first | omega | assumption) (by first | omega | assumption) (by omega) ?_
  refine z_iload_3 dX7_totalIfAssigned_12 ?_
  refine Z.callE (zRun.S (ρ := fun i => i) (k_m_isValue (v) ) dX7_totalIfAssigned_13 zy_X7_isValue zm_X7_295 rfl rfl (Nat.le_of_ble_eq_true rfl) (by decide) (by decide)) ?_
  refine z_topi (w := 1) (by rw [hv]; rfl) ?_
  refine z_if_ne_t (tgt := 23) dX7_totalIfAssigned_16 (by decide) (by decide) ?_
  refine z_iconst (v := 0) dX7_totalIfAssigned_23 rfl ?_
  refine Z.call0s (zRun.V (ρ := fun i => i) (k_m_throwsOne_ (false) (false) S ) dX7_totalIfAssigned_24 zy_X7_throwsOne_ zm_X7_79 rfl rfl rfl rfl (Nat.le_of_ble_eq_true rfl) (by decide) (by decide)) (zlen2 14 rfl rfl) ?_
  refine Z.heap (h2 := mh (sI 15 (0) S)) rfl ?_
  refine z_topi (w := 0) rfl ?_
  refine z_if_eq_t (tgt := 32) dX7_totalIfAssigned_27 (by decide) (by decide) ?_
  refine z_aload_0 dX7_totalIfAssigned_32 ?_
  refine z_iconst (v := 0) dX7_totalIfAssigned_33 rfl ?_
  refine z_aload_0 dX7_totalIfAssigned_34 ?_
  refine z_get (k := 0) (v := .ref 1) dX7_totalIfAssigned_35 rfl rfl rfl (by decide) zf_X7_7 zw_in7 ?_
  refine z_iconst (v := 0) dX7_totalIfAssigned_38 rfl ?_
  refine z_ialdN (k := 0) dX7_totalIfAssigned_39 rfl (by first | omega | assumption) (by decide) ?_
  refine z_topi (w := S.2 0 (0)) (by rw [sI_2]) ?_
  refine z_topi (w := nI (n)) hO.1 ?_
  refine z_iconst (v := 1) dX7_totalIfAssigned_40 rfl ?_
  refine z_isub dX7_totalIfAssigned_41 ?_
  refine z_topi (w := nI (n - 1)) (pk_sub (a := n) (b := 1) (by first | omega | assumption)) ?_
  refine Z.call0s (zRun.V (ρ := fun i => i) (k_m_sumOf n 0 (n - 1) (sI 15 (0) S) h1 h40 (by omega) (by omega) (hO.sI (by decide))) dX7_totalIfAssigned_42 zy_X7_sumOf zm_X7_311 rfl rfl rfl rfl (Nat.le_of_ble_eq_true rfl) (by decide) (by decide)) (zlen2 14 rfl rfl) ?_
  refine Z.heap (h2 := mh (g_m_grows n (sI 15 (0) S))) (by rw [sumOf_2]) ?_
  refine z_aload_0 dX7_totalIfAssigned_45 ?_
  refine z_iload_1 dX7_totalIfAssigned_46 ?_
  refine z_iload_2 dX7_totalIfAssigned_47 ?_
  refine Z.call0s (zRun.V (ρ := fun i => i) (k_m_sumOf n f t (g_m_grows n (sI 15 (0) S)) h1 h40 hft ht (mGr_of h1 h40 (hO.sI (by decide))).ok) dX7_totalIfAssigned_48 zy_X7_sumOf zm_X7_311 rfl rfl rfl rfl (Nat.le_of_ble_eq_true rfl) (by decide) (by decide)) (zlen2 14 rfl rfl) ?_
  refine Z.heap (h2 := mh (g_m_grows n (sI 15 (0) S))) (by rw [sumOf_2, (mGr_of h1 h40 (hO.sI (by decide))).grows]) ?_
  refine z_lsub dX7_totalIfAssigned_51 ?_
  refine z_iload_3 dX7_totalIfAssigned_52 ?_
  refine z_i2l dX7_totalIfAssigned_53 ?_
  refine z_iload_2 dX7_totalIfAssigned_54 ?_
  refine z_iload_1 dX7_totalIfAssigned_55 ?_
  refine z_isub dX7_totalIfAssigned_56 ?_
  refine z_topi (w := nI (t - f)) (pk_sub (a := t) (b := f) (by first | omega | assumption)) ?_
  refine z_iconst (v := 1) dX7_totalIfAssigned_57 rfl ?_
  refine z_iadd dX7_totalIfAssigned_58 ?_
  refine z_topi (w := nI ((t - f) + 1)) (nI_add _ _) ?_
  refine z_i2l dX7_totalIfAssigned_59 ?_
  refine z_lmul dX7_totalIfAssigned_60 ?_
  refine z_ladd dX7_totalIfAssigned_61 ?_
  rw [g_m_totalIfAssigned]
  try dsimp only
  exact z_lret dX7_totalIfAssigned_62 rfl rfl rfl
noncomputable def g_m_totalIfAssigned_x1 (x : Int32) (z : Int32) (v : Int32) (S : ZS) : Int64 × ZS := (if z < x then (0, (sI 15 (1) S)) else (if ((g_m_isValue (v))) = true then (0, (sI 15 (1) S)) else (0, (sI 15 (1) S))))
theorem k_m_totalIfAssigned_x1 (x : Int32) (z : Int32) (v : Int32) (S : ZS) (hx : g_m_isNone x z S = true) : zM sc yX7_totalIfAssigned cX7_totalIfAssigned 4 (some .long) 3 0 0 [.ref 0, .int (x), .int (z), .int (v)] (mh S) (.inl (some (.long (g_m_totalIfAssigned_x1 x z v S).1))) (mh (g_m_totalIfAssigned_x1 x z v S).2) := by
  refine zM.at (ls := [some (.ref 0), some (.int (x)), some (.int (z)), some (.int (v))]) zy_X7_totalIfAssigned.2.2.2.2.2 (Nat.le_of_ble_eq_true rfl) rfl ?_
  refine z_aload_0 dX7_totalIfAssigned_0 ?_
  refine z_aload_0 dX7_totalIfAssigned_1 ?_
  refine z_iload_1 dX7_totalIfAssigned_2 ?_
  refine z_iload_2 dX7_totalIfAssigned_3 ?_
  refine Z.call0s (zRun.V (ρ := fun i => i) (k_m_isNone (x) (z) S ) dX7_totalIfAssigned_4 zy_X7_isNone zm_X7_75 rfl rfl rfl rfl (Nat.le_of_ble_eq_true rfl) (by decide) (by decide)) (zlen2 14 rfl rfl) ?_
  refine z_topi (w := 1) (by rw [hx]; rfl) ?_
  refine z_iload_2 dX7_totalIfAssigned_7 ?_
  refine z_iload_1 dX7_totalIfAssigned_8 ?_
  refine z_icmp_lt (tgt := 19) dX7_totalIfAssigned_9 (by decide) (fun c9 => ?_) (fun c9 => ?_)
  · refine z_iconst (v := 1) dX7_totalIfAssigned_19 rfl ?_
    refine z_goto (tgt := 24) dX7_totalIfAssigned_20 (by decide) ?_
    refine Z.call0s (zRun.V (ρ := fun i => i) (k_m_throwsOne_ (true) (true) S ) dX7_totalIfAssigned_24 zy_X7_throwsOne_ zm_X7_79 rfl rfl rfl rfl (Nat.le_of_ble_eq_true rfl) (by decide) (by decide)) (zlen2 14 rfl rfl) ?_
    refine Z.heap (h2 := mh (sI 15 (1) S)) rfl ?_
    refine z_topi (w := 1) rfl ?_
    refine z_if_eq_f (tgt := 32) dX7_totalIfAssigned_27 (by decide) (by decide) ?_
    refine z_lconst (v := 0) dX7_totalIfAssigned_30 rfl ?_
    rw [g_m_totalIfAssigned_x1, if_pos c9]
    try dsimp only
    exact z_lret dX7_totalIfAssigned_31 rfl rfl rfl
  · refine z_iload_3 dX7_totalIfAssigned_12 ?_
    refine Z.callE (zRun.S (ρ := fun i => i) (k_m_isValue (v) ) dX7_totalIfAssigned_13 zy_X7_isValue zm_X7_295 rfl rfl (Nat.le_of_ble_eq_true rfl) (by decide) (by decide)) ?_
    refine z_ifB_ne (tgt := 23) dX7_totalIfAssigned_16 (by decide) (fun c16 => ?_) (fun c16 => ?_)
    · refine z_iconst (v := 0) dX7_totalIfAssigned_23 rfl ?_
      refine Z.call0s (zRun.V (ρ := fun i => i) (k_m_throwsOne_ (true) (false) S ) dX7_totalIfAssigned_24 zy_X7_throwsOne_ zm_X7_79 rfl rfl rfl rfl (Nat.le_of_ble_eq_true rfl) (by decide) (by decide)) (zlen2 14 rfl rfl) ?_
      refine Z.heap (h2 := mh (sI 15 (1) S)) rfl ?_
      refine z_topi (w := 1) rfl ?_
      refine z_if_eq_f (tgt := 32) dX7_totalIfAssigned_27 (by decide) (by decide) ?_
      refine z_lconst (v := 0) dX7_totalIfAssigned_30 rfl ?_
      rw [g_m_totalIfAssigned_x1, if_neg c9, if_pos c16]
      try dsimp only
      exact z_lret dX7_totalIfAssigned_31 rfl rfl rfl
    · refine z_iconst (v := 1) dX7_totalIfAssigned_19 rfl ?_
      refine z_goto (tgt := 24) dX7_totalIfAssigned_20 (by decide) ?_
      refine Z.call0s (zRun.V (ρ := fun i => i) (k_m_throwsOne_ (true) (true) S ) dX7_totalIfAssigned_24 zy_X7_throwsOne_ zm_X7_79 rfl rfl rfl rfl (Nat.le_of_ble_eq_true rfl) (by decide) (by decide)) (zlen2 14 rfl rfl) ?_
      refine Z.heap (h2 := mh (sI 15 (1) S)) rfl ?_
      refine z_topi (w := 1) rfl ?_
      refine z_if_eq_f (tgt := 32) dX7_totalIfAssigned_27 (by decide) (by decide) ?_
      refine z_lconst (v := 0) dX7_totalIfAssigned_30 rfl ?_
      rw [g_m_totalIfAssigned_x1, if_neg c9, if_neg c16]
      try dsimp only
      exact z_lret dX7_totalIfAssigned_31 rfl rfl rfl
noncomputable def g_m_totalIfAssigned_x2 (_x : Int32) (_z : Int32) (_v : Int32) (S : ZS) : Int64 × ZS := (0, (sI 15 (2) S))
theorem k_m_totalIfAssigned_x2 (x : Int32) (z : Int32) (v : Int32) (S : ZS) (hx : g_m_isNone x z S = false) (hz : z < x) : zM sc yX7_totalIfAssigned cX7_totalIfAssigned 4 (some .long) 3 0 0 [.ref 0, .int (x), .int (z), .int (v)] (mh S) (.inl (some (.long (g_m_totalIfAssigned_x2 x z v S).1))) (mh (g_m_totalIfAssigned_x2 x z v S).2) := by
  refine zM.at (ls := [some (.ref 0), some (.int (x)), some (.int (z)), some (.int (v))]) zy_X7_totalIfAssigned.2.2.2.2.2 (Nat.le_of_ble_eq_true rfl) rfl ?_
  refine z_aload_0 dX7_totalIfAssigned_0 ?_
  refine z_aload_0 dX7_totalIfAssigned_1 ?_
  refine z_iload_1 dX7_totalIfAssigned_2 ?_
  refine z_iload_2 dX7_totalIfAssigned_3 ?_
  refine Z.call0s (zRun.V (ρ := fun i => i) (k_m_isNone (x) (z) S ) dX7_totalIfAssigned_4 zy_X7_isNone zm_X7_75 rfl rfl rfl rfl (Nat.le_of_ble_eq_true rfl) (by decide) (by decide)) (zlen2 14 rfl rfl) ?_
  refine z_topi (w := 0) (by rw [hx]; rfl) ?_
  refine z_iload_2 dX7_totalIfAssigned_7 ?_
  refine z_iload_1 dX7_totalIfAssigned_8 ?_
  refine z_icmp_lt_t (tgt := 19) dX7_totalIfAssigned_9 (by decide) hz ?_
  refine z_iconst (v := 1) dX7_totalIfAssigned_19 rfl ?_
  refine z_goto (tgt := 24) dX7_totalIfAssigned_20 (by decide) ?_
  refine Z.call0s (zRun.V (ρ := fun i => i) (k_m_throwsOne_ (false) (true) S ) dX7_totalIfAssigned_24 zy_X7_throwsOne_ zm_X7_79 rfl rfl rfl rfl (Nat.le_of_ble_eq_true rfl) (by decide) (by decide)) (zlen2 14 rfl rfl) ?_
  refine Z.heap (h2 := mh (sI 15 (2) S)) rfl ?_
  refine z_topi (w := 1) rfl ?_
  refine z_if_eq_f (tgt := 32) dX7_totalIfAssigned_27 (by decide) (by decide) ?_
  refine z_lconst (v := 0) dX7_totalIfAssigned_30 rfl ?_
  rw [g_m_totalIfAssigned_x2]
  try dsimp only
  exact z_lret dX7_totalIfAssigned_31 rfl rfl rfl
noncomputable def g_m_totalIfAssigned_x3 (_x : Int32) (_z : Int32) (_v : Int32) (S : ZS) : Int64 × ZS := (0, (sI 15 (2) S))
theorem k_m_totalIfAssigned_x3 (x : Int32) (z : Int32) (v : Int32) (S : ZS) (hx : g_m_isNone x z S = false) (hz : ¬ z < x) (hv : g_m_isValue v = false) : zM sc yX7_totalIfAssigned cX7_totalIfAssigned 4 (some .long) 3 0 0 [.ref 0, .int (x), .int (z), .int (v)] (mh S) (.inl (some (.long (g_m_totalIfAssigned_x3 x z v S).1))) (mh (g_m_totalIfAssigned_x3 x z v S).2) := by
  refine zM.at (ls := [some (.ref 0), some (.int (x)), some (.int (z)), some (.int (v))]) zy_X7_totalIfAssigned.2.2.2.2.2 (Nat.le_of_ble_eq_true rfl) rfl ?_
  refine z_aload_0 dX7_totalIfAssigned_0 ?_
  refine z_aload_0 dX7_totalIfAssigned_1 ?_
  refine z_iload_1 dX7_totalIfAssigned_2 ?_
  refine z_iload_2 dX7_totalIfAssigned_3 ?_
  refine Z.call0s (zRun.V (ρ := fun i => i) (k_m_isNone (x) (z) S ) dX7_totalIfAssigned_4 zy_X7_isNone zm_X7_75 rfl rfl rfl rfl (Nat.le_of_ble_eq_true rfl) (by decide) (by decide)) (zlen2 14 rfl rfl) ?_
  refine z_topi (w := 0) (by rw [hx]; rfl) ?_
  refine z_iload_2 dX7_totalIfAssigned_7 ?_
  refine z_iload_1 dX7_totalIfAssigned_8 ?_
  refine z_icmp_lt_f (tgt := 19) dX7_totalIfAssigned_9 (by decide) hz ?_
  refine z_iload_3 dX7_totalIfAssigned_12 ?_
  refine Z.callE (zRun.S (ρ := fun i => i) (k_m_isValue (v) ) dX7_totalIfAssigned_13 zy_X7_isValue zm_X7_295 rfl rfl (Nat.le_of_ble_eq_true rfl) (by decide) (by decide)) ?_
  refine z_topi (w := 0) (by rw [hv]; rfl) ?_
  refine z_if_ne_f (tgt := 23) dX7_totalIfAssigned_16 (by decide) (by decide) ?_
  refine z_iconst (v := 1) dX7_totalIfAssigned_19 rfl ?_
  refine z_goto (tgt := 24) dX7_totalIfAssigned_20 (by decide) ?_
  refine Z.call0s (zRun.V (ρ := fun i => i) (k_m_throwsOne_ (false) (true) S ) dX7_totalIfAssigned_24 zy_X7_throwsOne_ zm_X7_79 rfl rfl rfl rfl (Nat.le_of_ble_eq_true rfl) (by decide) (by decide)) (zlen2 14 rfl rfl) ?_
  refine Z.heap (h2 := mh (sI 15 (2) S)) rfl ?_
  refine z_topi (w := 1) rfl ?_
  refine z_if_eq_f (tgt := 32) dX7_totalIfAssigned_27 (by decide) (by decide) ?_
  refine z_lconst (v := 0) dX7_totalIfAssigned_30 rfl ?_
  rw [g_m_totalIfAssigned_x3]
  try dsimp only
  exact z_lret dX7_totalIfAssigned_31 rfl rfl rfl
theorem begins_ok {n : Nat} {S : ZS} (h : mOK n S) : mOK n (g_m_begins S) := by
  have hb := begins_eq S
  refine ⟨by rw [hb.2.1 0 (by decide)]; exact h.1, fun e => ?_⟩
  rw [hb.1] at e
  have g := h.2 e
  exact ⟨fun k hk => by rw [hb.2.1 8 (by decide), hb.2.1 9 (by decide)]; exact g.1 k hk, fun i hi => by rw [hb.2.1 10 (by decide)]; exact g.2 i hi⟩
theorem begins_5 (S : ZS) : (g_m_begins S).1 5 = S.1 5 := by rw [(begins_eq S).1]
theorem isNode_gr {n : Nat} {S : ZS} (h : mGr n S) : mGr n (g_m_begins S) := by
  have hb := begins_eq S
  exact ⟨(begins_ok h.ok).1, by rw [hb.1]; exact h.2.1, (begins_ok h.ok).2 (by rw [hb.1]; exact h.2.1)⟩
noncomputable def s_m_assign_1 (n : Nat) (p : Nat) (f : Nat) (t : Nat) (v : Int32) (S : ZS) : ZS := (g_m_remember p ((g_m_updates n f t (0) (v) (g_m_begins (sI 15 (0) S))).1) ((g_m_updates n f t (0) (v) (g_m_begins (sI 15 (0) S))).2)).2
noncomputable def g_m_assign (n : Nat) (p : Nat) (f : Nat) (t : Nat) (v : Int32) (S : ZS) : Int32 × ZS := ((g_m_remember p ((g_m_updates n f t (0) (v) (g_m_begins (sI 15 (0) S))).1) ((g_m_updates n f t (0) (v) (g_m_begins (sI 15 (0) S))).2)).1, (s_m_assign_1 n p f t v S))
theorem k_m_assign (n : Nat) (p : Nat) (f : Nat) (t : Nat) (v : Int32) (S : ZS) (h1 : 1 ≤ n) (h40 : n ≤ 40) (hft : f ≤ t) (ht : t < n) (hO : mOK n S) (hv : g_m_isValue v = true) (hp5 : S.1 5 = nI p) (hp8 : p ≤ 8) : zM sc yX7_assign cX7_assign 4 (some .int) 12 0 0 [.ref 0, .int (nI (f)), .int (nI (t)), .int (v)] (mh S) (.inl (some (.int (g_m_assign n p f t v S).1))) (mh (g_m_assign n p f t v S).2) := by
  refine zM.at (ls := [some (.ref 0), some (.int (nI (f))), some (.int (nI (t))), some (.int (v))]) zy_X7_assign.2.2.2.2.2 (Nat.le_of_ble_eq_true rfl) rfl ?_
  refine z_aload_0 dX7_assign_0 ?_
  refine z_aload_0 dX7_assign_1 ?_
  refine z_iload_1 dX7_assign_2 ?_
  refine z_iload_2 dX7_assign_3 ?_
  refine Z.call0s (zRun.V (ρ := fun i => i) (k_m_isNone (nI (f)) (nI (t)) S ) dX7_assign_4 zy_X7_isNone zm_X7_75 rfl rfl rfl rfl (Nat.le_of_ble_eq_true rfl) (by decide) (by decide)) (zlen2 14 rfl rfl) ?_
  refine z_topi (w := 0) (by rw [isNone_ok h1 h40 hO.1 hft ht]; rfl) ?_
  refine z_iload_2 dX7_assign_7 ?_
  refine z_iload_1 dX7_assign_8 ?_
  refine z_icmpN_lt_f (tgt := 19) dX7_assign_9 (by decide) (x := t) (z := f) (by first | omega | assumption) (by first | omega | assumption) (by omega) ?_
  refine z_iload_3 dX7_assign_12 ?_
  refine Z.callE (zRun.S (ρ := fun i => i) (k_m_isValue (v) ) dX7_assign_13 zy_X7_isValue zm_X7_295 rfl rfl (Nat.le_of_ble_eq_true rfl) (by decide) (by decide)) ?_
  refine z_topi (w := 1) (by rw [hv]; rfl) ?_
  refine z_if_ne_t (tgt := 23) dX7_assign_16 (by decide) (by decide) ?_
  refine z_iconst (v := 0) dX7_assign_23 rfl ?_
  refine Z.call0s (zRun.V (ρ := fun i => i) (k_m_throwsOne_ (false) (false) S ) dX7_assign_24 zy_X7_throwsOne_ zm_X7_79 rfl rfl rfl rfl (Nat.le_of_ble_eq_true rfl) (by decide) (by decide)) (zlen2 14 rfl rfl) ?_
  refine Z.heap (h2 := mh (sI 15 (0) S)) rfl ?_
  refine z_topi (w := 0) rfl ?_
  refine z_if_eq_t (tgt := 32) dX7_assign_27 (by decide) (by decide) ?_
  refine z_aload_0 dX7_assign_32 ?_
  refine Z.call0n (zRun.V (ρ := fun i => i) (k_m_begins (sI 15 (0) S) ) dX7_assign_33 zy_X7_begins zm_X7_289 rfl rfl rfl rfl (Nat.le_of_ble_eq_true rfl) (by decide) (by decide)) (zlen2 14 rfl rfl) ?_
  refine z_aload_0 dX7_assign_36 ?_
  refine z_aload_0 dX7_assign_37 ?_
  refine z_iload_1 dX7_assign_38 ?_
  refine z_iload_2 dX7_assign_39 ?_
  refine z_iconst (v := 0) dX7_assign_40 rfl ?_
  refine z_iload_3 dX7_assign_41 ?_
  refine Z.call0s (zRun.V (ρ := fun i => i) (k_m_updates n f t (0) (v) (g_m_begins (sI 15 (0) S)) h1 h40 hft ht (begins_ok (hO.sI (by decide)))) dX7_assign_42 zy_X7_updates zm_X7_116 rfl rfl rfl rfl (Nat.le_of_ble_eq_true rfl) (by decide) (by decide)) (zlen2 14 rfl rfl) ?_
  refine Z.call0s (zRun.V (ρ := fun i => i) (k_m_remember p ((g_m_updates n f t (0) (v) (g_m_begins (sI 15 (0) S))).1) ((g_m_updates n f t (0) (v) (g_m_begins (sI 15 (0) S))).2) (((upd_keep h1 h40 (begins_ok (hO.sI (by decide)))).1.1 5 (by decide) (by decide) (by decide)).trans ((begins_5 _).trans hp5)) hp8) dX7_assign_45 zy_X7_remember zm_X7_292 rfl rfl rfl rfl (Nat.le_of_ble_eq_true rfl) (by decide) (by decide)) (zlen2 14 rfl rfl) ?_
  rw [g_m_assign]
  try dsimp only
  exact z_iret dX7_assign_48 rfl (zint _) rfl rfl
noncomputable def g_m_assign_x1 (x : Int32) (z : Int32) (v : Int32) (S : ZS) : Int32 × ZS := (if z < x then (0, (sI 15 (1) S)) else (if ((g_m_isValue (v))) = true then (0, (sI 15 (1) S)) else (0, (sI 15 (1) S))))
theorem k_m_assign_x1 (x : Int32) (z : Int32) (v : Int32) (S : ZS) (hx : g_m_isNone x z S = true) : zM sc yX7_assign cX7_assign 4 (some .int) 3 0 0 [.ref 0, .int (x), .int (z), .int (v)] (mh S) (.inl (some (.int (g_m_assign_x1 x z v S).1))) (mh (g_m_assign_x1 x z v S).2) := by
  refine zM.at (ls := [some (.ref 0), some (.int (x)), some (.int (z)), some (.int (v))]) zy_X7_assign.2.2.2.2.2 (Nat.le_of_ble_eq_true rfl) rfl ?_
  refine z_aload_0 dX7_assign_0 ?_
  refine z_aload_0 dX7_assign_1 ?_
  refine z_iload_1 dX7_assign_2 ?_
  refine z_iload_2 dX7_assign_3 ?_
  refine Z.call0s (zRun.V (ρ := fun i => i) (k_m_isNone (x) (z) S ) dX7_assign_4 zy_X7_isNone zm_X7_75 rfl rfl rfl rfl (Nat.le_of_ble_eq_true rfl) (by decide) (by decide)) (zlen2 14 rfl rfl) ?_
  refine z_topi (w := 1) (by rw [hx]; rfl) ?_
  refine z_iload_2 dX7_assign_7 ?_
  refine z_iload_1 dX7_assign_8 ?_
  refine z_icmp_lt (tgt := 19) dX7_assign_9 (by decide) (fun c9 => ?_) (fun c9 => ?_)
  · refine z_iconst (v := 1) dX7_assign_19 rfl ?_
    refine z_goto (tgt := 24) dX7_assign_20 (by decide) ?_
    refine Z.call0s (zRun.V (ρ := fun i => i) (k_m_throwsOne_ (true) (true) S ) dX7_assign_24 zy_X7_throwsOne_ zm_X7_79 rfl rfl rfl rfl (Nat.le_of_ble_eq_true rfl) (by decide) (by decide)) (zlen2 14 rfl rfl) ?_
    refine Z.heap (h2 := mh (sI 15 (1) S)) rfl ?_
    refine z_topi (w := 1) rfl ?_
    refine z_if_eq_f (tgt := 32) dX7_assign_27 (by decide) (by decide) ?_
    refine z_iconst (v := 0) dX7_assign_30 rfl ?_
    rw [g_m_assign_x1, if_pos c9]
    try dsimp only
    exact z_iret dX7_assign_31 rfl (zint _) rfl rfl
  · refine z_iload_3 dX7_assign_12 ?_
    refine Z.callE (zRun.S (ρ := fun i => i) (k_m_isValue (v) ) dX7_assign_13 zy_X7_isValue zm_X7_295 rfl rfl (Nat.le_of_ble_eq_true rfl) (by decide) (by decide)) ?_
    refine z_ifB_ne (tgt := 23) dX7_assign_16 (by decide) (fun c16 => ?_) (fun c16 => ?_)
    · refine z_iconst (v := 0) dX7_assign_23 rfl ?_
      refine Z.call0s (zRun.V (ρ := fun i => i) (k_m_throwsOne_ (true) (false) S ) dX7_assign_24 zy_X7_throwsOne_ zm_X7_79 rfl rfl rfl rfl (Nat.le_of_ble_eq_true rfl) (by decide) (by decide)) (zlen2 14 rfl rfl) ?_
      refine Z.heap (h2 := mh (sI 15 (1) S)) rfl ?_
      refine z_topi (w := 1) rfl ?_
      refine z_if_eq_f (tgt := 32) dX7_assign_27 (by decide) (by decide) ?_
      refine z_iconst (v := 0) dX7_assign_30 rfl ?_
      rw [g_m_assign_x1, if_neg c9, if_pos c16]
      try dsimp only
      exact z_iret dX7_assign_31 rfl (zint _) rfl rfl
    · refine z_iconst (v := 1) dX7_assign_19 rfl ?_
      refine z_goto (tgt := 24) dX7_assign_20 (by decide) ?_
      refine Z.call0s (zRun.V (ρ := fun i => i) (k_m_throwsOne_ (true) (true) S ) dX7_assign_24 zy_X7_throwsOne_ zm_X7_79 rfl rfl rfl rfl (Nat.le_of_ble_eq_true rfl) (by decide) (by decide)) (zlen2 14 rfl rfl) ?_
      refine Z.heap (h2 := mh (sI 15 (1) S)) rfl ?_
      refine z_topi (w := 1) rfl ?_
      refine z_if_eq_f (tgt := 32) dX7_assign_27 (by decide) (by decide) ?_
      refine z_iconst (v := 0) dX7_assign_30 rfl ?_
      rw [g_m_assign_x1, if_neg c9, if_neg c16]
      try dsimp only
      exact z_iret dX7_assign_31 rfl (zint _) rfl rfl
noncomputable def g_m_assign_x2 (_x : Int32) (_z : Int32) (_v : Int32) (S : ZS) : Int32 × ZS := (0, (sI 15 (2) S))
theorem k_m_assign_x2 (x : Int32) (z : Int32) (v : Int32) (S : ZS) (hx : g_m_isNone x z S = false) (hz : z < x) : zM sc yX7_assign cX7_assign 4 (some .int) 3 0 0 [.ref 0, .int (x), .int (z), .int (v)] (mh S) (.inl (some (.int (g_m_assign_x2 x z v S).1))) (mh (g_m_assign_x2 x z v S).2) := by
  refine zM.at (ls := [some (.ref 0), some (.int (x)), some (.int (z)), some (.int (v))]) zy_X7_assign.2.2.2.2.2 (Nat.le_of_ble_eq_true rfl) rfl ?_
  refine z_aload_0 dX7_assign_0 ?_
  refine z_aload_0 dX7_assign_1 ?_
  refine z_iload_1 dX7_assign_2 ?_
  refine z_iload_2 dX7_assign_3 ?_
  refine Z.call0s (zRun.V (ρ := fun i => i) (k_m_isNone (x) (z) S ) dX7_assign_4 zy_X7_isNone zm_X7_75 rfl rfl rfl rfl (Nat.le_of_ble_eq_true rfl) (by decide) (by decide)) (zlen2 14 rfl rfl) ?_
  refine z_topi (w := 0) (by rw [hx]; rfl) ?_
  refine z_iload_2 dX7_assign_7 ?_
  refine z_iload_1 dX7_assign_8 ?_
  refine z_icmp_lt_t (tgt := 19) dX7_assign_9 (by decide) hz ?_
  refine z_iconst (v := 1) dX7_assign_19 rfl ?_
  refine z_goto (tgt := 24) dX7_assign_20 (by decide) ?_
  refine Z.call0s (zRun.V (ρ := fun i => i) (k_m_throwsOne_ (false) (true) S ) dX7_assign_24 zy_X7_throwsOne_ zm_X7_79 rfl rfl rfl rfl (Nat.le_of_ble_eq_true rfl) (by decide) (by decide)) (zlen2 14 rfl rfl) ?_
  refine Z.heap (h2 := mh (sI 15 (2) S)) rfl ?_
  refine z_topi (w := 1) rfl ?_
  refine z_if_eq_f (tgt := 32) dX7_assign_27 (by decide) (by decide) ?_
  refine z_iconst (v := 0) dX7_assign_30 rfl ?_
  rw [g_m_assign_x2]
  try dsimp only
  exact z_iret dX7_assign_31 rfl (zint _) rfl rfl
noncomputable def g_m_assign_x3 (_x : Int32) (_z : Int32) (_v : Int32) (S : ZS) : Int32 × ZS := (0, (sI 15 (2) S))
theorem k_m_assign_x3 (x : Int32) (z : Int32) (v : Int32) (S : ZS) (hx : g_m_isNone x z S = false) (hz : ¬ z < x) (hv : g_m_isValue v = false) : zM sc yX7_assign cX7_assign 4 (some .int) 3 0 0 [.ref 0, .int (x), .int (z), .int (v)] (mh S) (.inl (some (.int (g_m_assign_x3 x z v S).1))) (mh (g_m_assign_x3 x z v S).2) := by
  refine zM.at (ls := [some (.ref 0), some (.int (x)), some (.int (z)), some (.int (v))]) zy_X7_assign.2.2.2.2.2 (Nat.le_of_ble_eq_true rfl) rfl ?_
  refine z_aload_0 dX7_assign_0 ?_
  refine z_aload_0 dX7_assign_1 ?_
  refine z_iload_1 dX7_assign_2 ?_
  refine z_iload_2 dX7_assign_3 ?_
  refine Z.call0s (zRun.V (ρ := fun i => i) (k_m_isNone (x) (z) S ) dX7_assign_4 zy_X7_isNone zm_X7_75 rfl rfl rfl rfl (Nat.le_of_ble_eq_true rfl) (by decide) (by decide)) (zlen2 14 rfl rfl) ?_
  refine z_topi (w := 0) (by rw [hx]; rfl) ?_
  refine z_iload_2 dX7_assign_7 ?_
  refine z_iload_1 dX7_assign_8 ?_
  refine z_icmp_lt_f (tgt := 19) dX7_assign_9 (by decide) hz ?_
  refine z_iload_3 dX7_assign_12 ?_
  refine Z.callE (zRun.S (ρ := fun i => i) (k_m_isValue (v) ) dX7_assign_13 zy_X7_isValue zm_X7_295 rfl rfl (Nat.le_of_ble_eq_true rfl) (by decide) (by decide)) ?_
  refine z_topi (w := 0) (by rw [hv]; rfl) ?_
  refine z_if_ne_f (tgt := 23) dX7_assign_16 (by decide) (by decide) ?_
  refine z_iconst (v := 1) dX7_assign_19 rfl ?_
  refine z_goto (tgt := 24) dX7_assign_20 (by decide) ?_
  refine Z.call0s (zRun.V (ρ := fun i => i) (k_m_throwsOne_ (false) (true) S ) dX7_assign_24 zy_X7_throwsOne_ zm_X7_79 rfl rfl rfl rfl (Nat.le_of_ble_eq_true rfl) (by decide) (by decide)) (zlen2 14 rfl rfl) ?_
  refine Z.heap (h2 := mh (sI 15 (2) S)) rfl ?_
  refine z_topi (w := 1) rfl ?_
  refine z_if_eq_f (tgt := 32) dX7_assign_27 (by decide) (by decide) ?_
  refine z_iconst (v := 0) dX7_assign_30 rfl ?_
  rw [g_m_assign_x3]
  try dsimp only
  exact z_iret dX7_assign_31 rfl (zint _) rfl rfl
noncomputable def s_m_negate_1 (n : Nat) (p : Nat) (f : Nat) (t : Nat) (S : ZS) : ZS := (g_m_remember p ((g_m_updates n f t ((-1)) (0) (g_m_begins (sI 15 (0) S))).1) ((g_m_updates n f t ((-1)) (0) (g_m_begins (sI 15 (0) S))).2)).2
noncomputable def g_m_negate (n : Nat) (p : Nat) (f : Nat) (t : Nat) (S : ZS) : Int32 × ZS := ((g_m_remember p ((g_m_updates n f t ((-1)) (0) (g_m_begins (sI 15 (0) S))).1) ((g_m_updates n f t ((-1)) (0) (g_m_begins (sI 15 (0) S))).2)).1, (s_m_negate_1 n p f t S))
theorem k_m_negate (n : Nat) (p : Nat) (f : Nat) (t : Nat) (S : ZS) (h1 : 1 ≤ n) (h40 : n ≤ 40) (hft : f ≤ t) (ht : t < n) (hO : mOK n S) (hp5 : S.1 5 = nI p) (hp8 : p ≤ 8) : zM sc yX7_negate cX7_negate 3 (some .int) 12 0 0 [.ref 0, .int (nI (f)), .int (nI (t))] (mh S) (.inl (some (.int (g_m_negate n p f t S).1))) (mh (g_m_negate n p f t S).2) := by
  refine zM.at (ls := [some (.ref 0), some (.int (nI (f))), some (.int (nI (t)))]) zy_X7_negate.2.2.2.2.2 (Nat.le_of_ble_eq_true rfl) rfl ?_
  refine z_aload_0 dX7_negate_0 ?_
  refine z_iload_1 dX7_negate_1 ?_
  refine z_iload_2 dX7_negate_2 ?_
  refine Z.call0s (zRun.V (ρ := fun i => i) (k_m_tr_ok n f t S h1 h40 hft ht hO) dX7_negate_3 zy_X7_throwsRange zm_X7_301 rfl rfl rfl rfl (Nat.le_of_ble_eq_true rfl) (by decide) (by decide)) (zlen2 14 rfl rfl) ?_
  refine Z.heap (h2 := mh (sI 15 (0) S)) rfl ?_
  refine z_topi (w := 0) rfl ?_
  refine z_if_eq_t (tgt := 11) dX7_negate_6 (by decide) (by decide) ?_
  refine z_aload_0 dX7_negate_11 ?_
  refine Z.call0n (zRun.V (ρ := fun i => i) (k_m_begins (sI 15 (0) S) ) dX7_negate_12 zy_X7_begins zm_X7_289 rfl rfl rfl rfl (Nat.le_of_ble_eq_true rfl) (by decide) (by decide)) (zlen2 14 rfl rfl) ?_
  refine z_aload_0 dX7_negate_15 ?_
  refine z_aload_0 dX7_negate_16 ?_
  refine z_iload_1 dX7_negate_17 ?_
  refine z_iload_2 dX7_negate_18 ?_
  refine z_iconst (v := (-1)) dX7_negate_19 rfl ?_
  refine z_iconst (v := 0) dX7_negate_20 rfl ?_
  refine Z.call0s (zRun.V (ρ := fun i => i) (k_m_updates n f t ((-1)) (0) (g_m_begins (sI 15 (0) S)) h1 h40 hft ht (begins_ok (hO.sI (by decide)))) dX7_negate_21 zy_X7_updates zm_X7_116 rfl rfl rfl rfl (Nat.le_of_ble_eq_true rfl) (by decide) (by decide)) (zlen2 14 rfl rfl) ?_
  refine Z.call0s (zRun.V (ρ := fun i => i) (k_m_remember p ((g_m_updates n f t ((-1)) (0) (g_m_begins (sI 15 (0) S))).1) ((g_m_updates n f t ((-1)) (0) (g_m_begins (sI 15 (0) S))).2) (((upd_keep h1 h40 (begins_ok (hO.sI (by decide)))).1.1 5 (by decide) (by decide) (by decide)).trans ((begins_5 _).trans hp5)) hp8) dX7_negate_24 zy_X7_remember zm_X7_292 rfl rfl rfl rfl (Nat.le_of_ble_eq_true rfl) (by decide) (by decide)) (zlen2 14 rfl rfl) ?_
  rw [g_m_negate]
  try dsimp only
  exact z_iret dX7_negate_27 rfl (zint _) rfl rfl
noncomputable def g_m_negate_x1 (_x : Int32) (_z : Int32) (S : ZS) : Int32 × ZS := (0, (sI 15 (1) S))
theorem k_m_negate_x1 (x : Int32) (z : Int32) (S : ZS) (hx : g_m_isNone x z S = true) : zM sc yX7_negate cX7_negate 3 (some .int) 4 0 0 [.ref 0, .int (x), .int (z)] (mh S) (.inl (some (.int (g_m_negate_x1 x z S).1))) (mh (g_m_negate_x1 x z S).2) := by
  refine zM.at (ls := [some (.ref 0), some (.int (x)), some (.int (z))]) zy_X7_negate.2.2.2.2.2 (Nat.le_of_ble_eq_true rfl) rfl ?_
  refine z_aload_0 dX7_negate_0 ?_
  refine z_iload_1 dX7_negate_1 ?_
  refine z_iload_2 dX7_negate_2 ?_
  refine Z.call0s (zRun.V (ρ := fun i => i) (k_tr_x1 (x) (z) S hx) dX7_negate_3 zy_X7_throwsRange zm_X7_301 rfl rfl rfl rfl (Nat.le_of_ble_eq_true rfl) (by decide) (by decide)) (zlen2 14 rfl rfl) ?_
  refine z_if_eq_f (tgt := 11) dX7_negate_6 (by decide) (by decide) ?_
  refine z_iconst (v := 0) dX7_negate_9 rfl ?_
  rw [g_m_negate_x1]
  try dsimp only
  exact z_iret dX7_negate_10 rfl (zint _) rfl rfl
noncomputable def g_m_negate_x2 (_x : Int32) (_z : Int32) (S : ZS) : Int32 × ZS := (0, (sI 15 (2) S))
theorem k_m_negate_x2 (x : Int32) (z : Int32) (S : ZS) (hx : g_m_isNone x z S = false) (hz : z < x) : zM sc yX7_negate cX7_negate 3 (some .int) 4 0 0 [.ref 0, .int (x), .int (z)] (mh S) (.inl (some (.int (g_m_negate_x2 x z S).1))) (mh (g_m_negate_x2 x z S).2) := by
  refine zM.at (ls := [some (.ref 0), some (.int (x)), some (.int (z))]) zy_X7_negate.2.2.2.2.2 (Nat.le_of_ble_eq_true rfl) rfl ?_
  refine z_aload_0 dX7_negate_0 ?_
  refine z_iload_1 dX7_negate_1 ?_
  refine z_iload_2 dX7_negate_2 ?_
  refine Z.call0s (zRun.V (ρ := fun i => i) (k_m_tr_x2 (x) (z) S hx hz) dX7_negate_3 zy_X7_throwsRange zm_X7_301 rfl rfl rfl rfl (Nat.le_of_ble_eq_true rfl) (by decide) (by decide)) (zlen2 14 rfl rfl) ?_
  refine Z.heap (h2 := mh (sI 15 (2) S)) rfl ?_
  refine z_topi (w := 1) rfl ?_
  refine z_if_eq_f (tgt := 11) dX7_negate_6 (by decide) (by decide) ?_
  refine z_iconst (v := 0) dX7_negate_9 rfl ?_
  rw [g_m_negate_x2]
  try dsimp only
  exact z_iret dX7_negate_10 rfl (zint _) rfl rfl
