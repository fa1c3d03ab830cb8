variable {sc : SC}

theorem k_L_firstLeast (n : Nat) (a : Nat) (b : Nat) (S : ZS) (X : ZS) (R : ZS) (T : TS) (hn : tn T = nI n) (h40 : n ≤ 40) (hab : a ≤ b) (hbn : b < n) (P : ZS) (TU : TS) (q : Nat) (G : Nat → TS) (TN : TS) (fo : Nat → Int64) : zMW sc yL_firstLeast cL_firstLeast 5 (some .int) 4 0 0 [.ref 0, .int (nI (a)), .int (nI (b)), .ref 115] (WL S X R T P TU q G TN fo) (some (.int 0)) (WL S X R T P TU q G TN (vp_updL fo 0 ((g_c_6_firstLeast n a b S X R T).toInt64))) := by
  refine zMW.at (ls := [some (.ref 0), some (.int (nI (a))), some (.int (nI (b))), some (.ref 115), none]) (by decide +kernel) (Nat.le_of_ble_eq_true rfl) rfl ?_
  refine z_aload_3 dL_firstLeast_0 ?_
  refine z_iconst (v := 0) dL_firstLeast_1 rfl ?_
  refine z_aload_0 dL_firstLeast_2 ?_
  refine z_iload_1 dL_firstLeast_3 ?_
  refine z_iload_2 dL_firstLeast_4 ?_
  refine Z.heap (WL_q S X R T P TU q G TN fo) ?_
  refine Z.callPs (zRun.V (ρ := fun i => i) (k_c_6_firstLeast n a b S X R T hn h40 hab hbn) dL_firstLeast_5 zy_X6_firstLeast zm_L_59 rfl rfl rfl rfl (Nat.le_of_ble_eq_true rfl) (by decide) (by decide)) (zlen2 14 rfl rfl) ?_
  refine Z.heap (WL_q S X R T P TU q G TN fo).symm ?_
  refine z_i2l dL_firstLeast_8 ?_
  refine z_lastW dL_firstLeast_9 ?_
  refine z_goto (tgt := 21) dL_firstLeast_10 (by decide) ?_
  refine z_iconst (v := 0) dL_firstLeast_21 rfl ?_
  exact z_iret dL_firstLeast_22 rfl rfl rfl rfl
theorem k_L_firstLeast_x1 (n : Nat) (x : Int32) (z : Int32) (S : ZS) (X : ZS) (R : ZS) (T : TS) (hn : tn T = nI n) (h40 : n ≤ 40) (hx : ¬ (tIx T x ∧ tIx T z)) (P : ZS) (TU : TS) (q : Nat) (G : Nat → TS) (TN : TS) (fo : Nat → Int64) : zMW sc yL_firstLeast cL_firstLeast 5 (some .int) 11 1 6 [.ref 0, .int (x), .int (z), .ref 115] (WL S X R T P TU q G TN fo) (some (.int 1)) (WL S X R T P TU q G TN fo) := by
  refine zMW.at (ls := [some (.ref 0), some (.int (x)), some (.int (z)), some (.ref 115), none]) (by decide +kernel) (Nat.le_of_ble_eq_true rfl) rfl ?_
  refine z_aload_3 dL_firstLeast_0 ?_
  refine z_iconst (v := 0) dL_firstLeast_1 rfl ?_
  refine z_aload_0 dL_firstLeast_2 ?_
  refine z_iload_1 dL_firstLeast_3 ?_
  refine z_iload_2 dL_firstLeast_4 ?_
  refine WL_catch [] ⟨0, 10, 13, 19⟩ [⟨0, 10, 17, 13⟩] (zRun.V (ρ := fun i => i) (k_c_6_firstLeast_x1 n x z S X R T hn h40 hx) dL_firstLeast_5 zy_X6_firstLeast zm_L_59 rfl rfl rfl rfl (Nat.le_of_ble_eq_true rfl) (by decide) (by decide)) (T9 := [(0, 10, 13, 19), (0, 10, 17, 13)]) (by decide +kernel) rfl ?_ (by decide) (by decide) zcl_L_19 zca_B (zbl_of rfl) ?_
  · exact fun z hz => absurd hz (List.not_mem_nil)
  show Z sc _ _ _ _ _ 0 0 13 _ _ _ _ _
  refine z_astore_4 dL_firstLeast_13 rfl (by decide) ?_
  refine z_iconst (v := 1) dL_firstLeast_15 rfl ?_
  exact z_iret dL_firstLeast_16 rfl rfl rfl rfl
theorem k_L_firstLeast_x2 (n : Nat) (x : Int32) (z : Int32) (S : ZS) (X : ZS) (R : ZS) (T : TS) (hn : tn T = nI n) (h40 : n ≤ 40) (hx : tIx T x) (hz : tIx T z) (hzx : z < x) (P : ZS) (TU : TS) (q : Nat) (G : Nat → TS) (TN : TS) (fo : Nat → Int64) : zMW sc yL_firstLeast cL_firstLeast 5 (some .int) 11 1 6 [.ref 0, .int (x), .int (z), .ref 115] (WL S X R T P TU q G TN fo) (some (.int 2)) (WL S X R T P TU q G TN fo) := by
  refine zMW.at (ls := [some (.ref 0), some (.int (x)), some (.int (z)), some (.ref 115), none]) (by decide +kernel) (Nat.le_of_ble_eq_true rfl) rfl ?_
  refine z_aload_3 dL_firstLeast_0 ?_
  refine z_iconst (v := 0) dL_firstLeast_1 rfl ?_
  refine z_aload_0 dL_firstLeast_2 ?_
  refine z_iload_1 dL_firstLeast_3 ?_
  refine z_iload_2 dL_firstLeast_4 ?_
  refine WL_catch [⟨0, 10, 13, 19⟩] ⟨0, 10, 17, 13⟩ [] (zRun.V (ρ := fun i => i) (k_c_6_firstLeast_x2 n x z S X R T hn h40 hx hz hzx) dL_firstLeast_5 zy_X6_firstLeast zm_L_59 rfl rfl rfl rfl (Nat.le_of_ble_eq_true rfl) (by decide) (by decide)) (T9 := [(0, 10, 13, 19), (0, 10, 17, 13)]) (by decide +kernel) rfl ?_ (by decide) (by decide) zcl_L_13 zca_A (zbl_of rfl) ?_
  · intro z hz
    cases List.mem_singleton.mp hz
    exact zcat_b (y := yL_firstLeast) (by decide) zcl_L_19 (fun _ _ _ h => h.2.2.2.2.2.2.1)
  show Z sc _ _ _ _ _ 0 0 17 _ _ _ _ _
  refine z_astore_4 dL_firstLeast_17 rfl (by decide) ?_
  refine z_iconst (v := 2) dL_firstLeast_19 rfl ?_
  exact z_iret dL_firstLeast_20 rfl rfl rfl rfl
theorem k_L_firstGreatest (n : Nat) (a : Nat) (b : Nat) (S : ZS) (X : ZS) (R : ZS) (T : TS) (hn : tn T = nI n) (h40 : n ≤ 40) (hab : a ≤ b) (hbn : b < n) (P : ZS) (TU : TS) (q : Nat) (G : Nat → TS) (TN : TS) (fo : Nat → Int64) : zMW sc yL_firstGreatest cL_firstGreatest 5 (some .int) 4 0 0 [.ref 0, .int (nI (a)), .int (nI (b)), .ref 115] (WL S X R T P TU q G TN fo) (some (.int 0)) (WL S X R T P TU q G TN (vp_updL fo 0 ((g_c_6_firstGreatest n a b S X R T).toInt64))) := by
  refine zMW.at (ls := [some (.ref 0), some (.int (nI (a))), some (.int (nI (b))), some (.ref 115), none]) (by decide +kernel) (Nat.le_of_ble_eq_true rfl) rfl ?_
  refine z_aload_3 dL_firstGreatest_0 ?_
  refine z_iconst (v := 0) dL_firstGreatest_1 rfl ?_
  refine z_aload_0 dL_firstGreatest_2 ?_
  refine z_iload_1 dL_firstGreatest_3 ?_
  refine z_iload_2 dL_firstGreatest_4 ?_
  refine Z.heap (WL_q S X R T P TU q G TN fo) ?_
  refine Z.callPs (zRun.V (ρ := fun i => i) (k_c_6_firstGreatest n a b S X R T hn h40 hab hbn) dL_firstGreatest_5 zy_X6_firstGreatest zm_L_62 rfl rfl rfl rfl (Nat.le_of_ble_eq_true rfl) (by decide) (by decide)) (zlen2 14 rfl rfl) ?_
  refine Z.heap (WL_q S X R T P TU q G TN fo).symm ?_
  refine z_i2l dL_firstGreatest_8 ?_
  refine z_lastW dL_firstGreatest_9 ?_
  refine z_goto (tgt := 21) dL_firstGreatest_10 (by decide) ?_
  refine z_iconst (v := 0) dL_firstGreatest_21 rfl ?_
  exact z_iret dL_firstGreatest_22 rfl rfl rfl rfl
theorem k_L_firstGreatest_x1 (n : Nat) (x : Int32) (z : Int32) (S : ZS) (X : ZS) (R : ZS) (T : TS) (hn : tn T = nI n) (h40 : n ≤ 40) (hx : ¬ (tIx T x ∧ tIx T z)) (P : ZS) (TU : TS) (q : Nat) (G : Nat → TS) (TN : TS) (fo : Nat → Int64) : zMW sc yL_firstGreatest cL_firstGreatest 5 (some .int) 11 1 6 [.ref 0, .int (x), .int (z), .ref 115] (WL S X R T P TU q G TN fo) (some (.int 1)) (WL S X R T P TU q G TN fo) := by
  refine zMW.at (ls := [some (.ref 0), some (.int (x)), some (.int (z)), some (.ref 115), none]) (by decide +kernel) (Nat.le_of_ble_eq_true rfl) rfl ?_
  refine z_aload_3 dL_firstGreatest_0 ?_
  refine z_iconst (v := 0) dL_firstGreatest_1 rfl ?_
  refine z_aload_0 dL_firstGreatest_2 ?_
  refine z_iload_1 dL_firstGreatest_3 ?_
  refine z_iload_2 dL_firstGreatest_4 ?_
  refine WL_catch [] ⟨0, 10, 13, 19⟩ [⟨0, 10, 17, 13⟩] (zRun.V (ρ := fun i => i) (k_c_6_firstGreatest_x1 n x z S X R T hn h40 hx) dL_firstGreatest_5 zy_X6_firstGreatest zm_L_62 rfl rfl rfl rfl (Nat.le_of_ble_eq_true rfl) (by decide) (by decide)) (T9 := [(0, 10, 13, 19), (0, 10, 17, 13)]) (by decide +kernel) rfl ?_ (by decide) (by decide) zcl_L_19 zca_B (zbl_of rfl) ?_
  · exact fun z hz => absurd hz (List.not_mem_nil)
  show Z sc _ _ _ _ _ 0 0 13 _ _ _ _ _
  refine z_astore_4 dL_firstGreatest_13 rfl (by decide) ?_
  refine z_iconst (v := 1) dL_firstGreatest_15 rfl ?_
  exact z_iret dL_firstGreatest_16 rfl rfl rfl rfl
theorem k_L_firstGreatest_x2 (n : Nat) (x : Int32) (z : Int32) (S : ZS) (X : ZS) (R : ZS) (T : TS) (hn : tn T = nI n) (h40 : n ≤ 40) (hx : tIx T x) (hz : tIx T z) (hzx : z < x) (P : ZS) (TU : TS) (q : Nat) (G : Nat → TS) (TN : TS) (fo : Nat → Int64) : zMW sc yL_firstGreatest cL_firstGreatest 5 (some .int) 11 1 6 [.ref 0, .int (x), .int (z), .ref 115] (WL S X R T P TU q G TN fo) (some (.int 2)) (WL S X R T P TU q G TN fo) := by
  refine zMW.at (ls := [some (.ref 0), some (.int (x)), some (.int (z)), some (.ref 115), none]) (by decide +kernel) (Nat.le_of_ble_eq_true rfl) rfl ?_
  refine z_aload_3 dL_firstGreatest_0 ?_
  refine z_iconst (v := 0) dL_firstGreatest_1 rfl ?_
  refine z_aload_0 dL_firstGreatest_2 ?_
  refine z_iload_1 dL_firstGreatest_3 ?_
  refine z_iload_2 dL_firstGreatest_4 ?_
  refine WL_catch [⟨0, 10, 13, 19⟩] ⟨0, 10, 17, 13⟩ [] (zRun.V (ρ := fun i => i) (k_c_6_firstGreatest_x2 n x z S X R T hn h40 hx hz hzx) dL_firstGreatest_5 zy_X6_firstGreatest zm_L_62 rfl rfl rfl rfl (Nat.le_of_ble_eq_true rfl) (by decide) (by decide)) (T9 := [(0, 10, 13, 19), (0, 10, 17, 13)]) (by decide +kernel) rfl ?_ (by decide) (by decide) zcl_L_13 zca_A (zbl_of rfl) ?_
  · intro z hz
    cases List.mem_singleton.mp hz
    exact zcat_b (y := yL_firstGreatest) (by decide) zcl_L_19 (fun _ _ _ h => h.2.2.2.2.2.2.1)
  show Z sc _ _ _ _ _ 0 0 17 _ _ _ _ _
  refine z_astore_4 dL_firstGreatest_17 rfl (by decide) ?_
  refine z_iconst (v := 2) dL_firstGreatest_19 rfl ?_
  exact z_iret dL_firstGreatest_20 rfl rfl rfl rfl
theorem k_L_leastCount (n : Nat) (a : Nat) (b : Nat) (S : ZS) (X : ZS) (R : ZS) (T : TS) (hn : tn T = nI n) (h40 : n ≤ 40) (hab : a ≤ b) (hbn : b < n) (P : ZS) (TU : TS) (q : Nat) (G : Nat → TS) (TN : TS) (fo : Nat → Int64) : zMW sc yL_leastCount cL_leastCount 5 (some .int) 4 0 0 [.ref 0, .int (nI (a)), .int (nI (b)), .ref 115] (WL S X R T P TU q G TN fo) (some (.int 0)) (WL S X R T P TU q G TN (vp_updL fo 0 ((g_c_6_leastCount n a b S X R T).toInt64))) := by
  refine zMW.at (ls := [some (.ref 0), some (.int (nI (a))), some (.int (nI (b))), some (.ref 115), none]) (by decide +kernel) (Nat.le_of_ble_eq_true rfl) rfl ?_
  refine z_aload_3 dL_leastCount_0 ?_
  refine z_iconst (v := 0) dL_leastCount_1 rfl ?_
  refine z_aload_0 dL_leastCount_2 ?_
  refine z_iload_1 dL_leastCount_3 ?_
  refine z_iload_2 dL_leastCount_4 ?_
  refine Z.heap (WL_q S X R T P TU q G TN fo) ?_
  refine Z.callPs (zRun.V (ρ := fun i => i) (k_c_6_leastCount n a b S X R T hn h40 hab hbn) dL_leastCount_5 zy_X6_leastCount zm_L_65 rfl rfl rfl rfl (Nat.le_of_ble_eq_true rfl) (by decide) (by decide)) (zlen2 14 rfl rfl) ?_
  refine Z.heap (WL_q S X R T P TU q G TN fo).symm ?_
  refine z_i2l dL_leastCount_8 ?_
  refine z_lastW dL_leastCount_9 ?_
  refine z_goto (tgt := 21) dL_leastCount_10 (by decide) ?_
  refine z_iconst (v := 0) dL_leastCount_21 rfl ?_
  exact z_iret dL_leastCount_22 rfl rfl rfl rfl
theorem k_L_leastCount_x1 (n : Nat) (x : Int32) (z : Int32) (S : ZS) (X : ZS) (R : ZS) (T : TS) (hn : tn T = nI n) (h40 : n ≤ 40) (hx : ¬ (tIx T x ∧ tIx T z)) (P : ZS) (TU : TS) (q : Nat) (G : Nat → TS) (TN : TS) (fo : Nat → Int64) : zMW sc yL_leastCount cL_leastCount 5 (some .int) 11 1 6 [.ref 0, .int (x), .int (z), .ref 115] (WL S X R T P TU q G TN fo) (some (.int 1)) (WL S X R T P TU q G TN fo) := by
  refine zMW.at (ls := [some (.ref 0), some (.int (x)), some (.int (z)), some (.ref 115), none]) (by decide +kernel) (Nat.le_of_ble_eq_true rfl) rfl ?_
  refine z_aload_3 dL_leastCount_0 ?_
  refine z_iconst (v := 0) dL_leastCount_1 rfl ?_
  refine z_aload_0 dL_leastCount_2 ?_
  refine z_iload_1 dL_leastCount_3 ?_
  refine z_iload_2 dL_leastCount_4 ?_
  refine WL_catch [] ⟨0, 10, 13, 19⟩ [⟨0, 10, 17, 13⟩] (zRun.V (ρ := fun i => i) (k_c_6_leastCount_x1 n x z S X R T hn h40 hx) dL_leastCount_5 zy_X6_leastCount zm_L_65 rfl rfl rfl rfl (Nat.le_of_ble_eq_true rfl) (by decide) (by decide)) (T9 := [(0, 10, 13, 19), (0, 10, 17, 13)]) (by decide +kernel) rfl ?_ (by decide) (by decide) zcl_L_19 zca_B (zbl_of rfl) ?_
  · exact fun z hz => absurd hz (List.not_mem_nil)
  show Z sc _ _ _ _ _ 0 0 13 _ _ _ _ _
  refine z_astore_4 dL_leastCount_13 rfl (by decide) ?_
  refine z_iconst (v := 1) dL_leastCount_15 rfl ?_
  exact z_iret dL_leastCount_16 rfl rfl rfl rfl
theorem k_L_leastCount_x2 (n : Nat) (x : Int32) (z : Int32) (S : ZS) (X : ZS) (R : ZS) (T : TS) (hn : tn T = nI n) (h40 : n ≤ 40) (hx : tIx T x) (hz : tIx T z) (hzx : z < x) (P : ZS) (TU : TS) (q : Nat) (G : Nat → TS) (TN : TS) (fo : Nat → Int64) : zMW sc yL_leastCount cL_leastCount 5 (some .int) 11 1 6 [.ref 0, .int (x), .int (z), .ref 115] (WL S X R T P TU q G TN fo) (some (.int 2)) (WL S X R T P TU q G TN fo) := by
  refine zMW.at (ls := [some (.ref 0), some (.int (x)), some (.int (z)), some (.ref 115), none]) (by decide +kernel) (Nat.le_of_ble_eq_true rfl) rfl ?_
  refine z_aload_3 dL_leastCount_0 ?_
  refine z_iconst (v := 0) dL_leastCount_1 rfl ?_
  refine z_aload_0 dL_leastCount_2 ?_
  refine z_iload_1 dL_leastCount_3 ?_
  refine z_iload_2 dL_leastCount_4 ?_
  refine WL_catch [⟨0, 10, 13, 19⟩] ⟨0, 10, 17, 13⟩ [] (zRun.V (ρ := fun i => i) (k_c_6_leastCount_x2 n x z S X R T hn h40 hx hz hzx) dL_leastCount_5 zy_X6_leastCount zm_L_65 rfl rfl rfl rfl (Nat.le_of_ble_eq_true rfl) (by decide) (by decide)) (T9 := [(0, 10, 13, 19), (0, 10, 17, 13)]) (by decide +kernel) rfl ?_ (by decide) (by decide) zcl_L_13 zca_A (zbl_of rfl) ?_
  · intro z hz
    cases List.mem_singleton.mp hz
    exact zcat_b (y := yL_leastCount) (by decide) zcl_L_19 (fun _ _ _ h => h.2.2.2.2.2.2.1)
  show Z sc _ _ _ _ _ 0 0 17 _ _ _ _ _
  refine z_astore_4 dL_leastCount_17 rfl (by decide) ?_
  refine z_iconst (v := 2) dL_leastCount_19 rfl ?_
  exact z_iret dL_leastCount_20 rfl rfl rfl rfl
theorem k_L_greatestCount (n : Nat) (a : Nat) (b : Nat) (S : ZS) (X : ZS) (R : ZS) (T : TS) (hn : tn T = nI n) (h40 : n ≤ 40) (hab : a ≤ b) (hbn : b < n) (P : ZS) (TU : TS) (q : Nat) (G : Nat → TS) (TN : TS) (fo : Nat → Int64) : zMW sc yL_greatestCount cL_greatestCount 5 (some .int) 4 0 0 [.ref 0, .int (nI (a)), .int (nI (b)), .ref 115] (WL S X R T P TU q G TN fo) (some (.int 0)) (WL S X R T P TU q G TN (vp_updL fo 0 ((g_c_6_greatestCount n a b S X R T).toInt64))) := by
  refine zMW.at (ls := [some (.ref 0), some (.int (nI (a))), some (.int (nI (b))), some (.ref 115), none]) (by decide +kernel) (Nat.le_of_ble_eq_true rfl) rfl ?_
  refine z_aload_3 dL_greatestCount_0 ?_
  refine z_iconst (v := 0) dL_greatestCount_1 rfl ?_
  refine z_aload_0 dL_greatestCount_2 ?_
  refine z_iload_1 dL_greatestCount_3 ?_
  refine z_iload_2 dL_greatestCount_4 ?_
  refine Z.heap (WL_q S X R T P TU q G TN fo) ?_
  refine Z.callPs (zRun.V (ρ := fun i => i) (k_c_6_greatestCount n a b S X R T hn h40 hab hbn) dL_greatestCount_5 zy_X6_greatestCount zm_L_68 rfl rfl rfl rfl (Nat.le_of_ble_eq_true rfl) (by decide) (by decide)) (zlen2 14 rfl rfl) ?_
  refine Z.heap (WL_q S X R T P TU q G TN fo).symm ?_
  refine z_i2l dL_greatestCount_8 ?_
  refine z_lastW dL_greatestCount_9 ?_
  refine z_goto (tgt := 21) dL_greatestCount_10 (by decide) ?_
  refine z_iconst (v := 0) dL_greatestCount_21 rfl ?_
  exact z_iret dL_greatestCount_22 rfl rfl rfl rfl
theorem k_L_greatestCount_x1 (n : Nat) (x : Int32) (z : Int32) (S : ZS) (X : ZS) (R : ZS) (T : TS) (hn : tn T = nI n) (h40 : n ≤ 40) (hx : ¬ (tIx T x ∧ tIx T z)) (P : ZS) (TU : TS) (q : Nat) (G : Nat → TS) (TN : TS) (fo : Nat → Int64) : zMW sc yL_greatestCount cL_greatestCount 5 (some .int) 11 1 6 [.ref 0, .int (x), .int (z), .ref 115] (WL S X R T P TU q G TN fo) (some (.int 1)) (WL S X R T P TU q G TN fo) := by
  refine zMW.at (ls := [some (.ref 0), some (.int (x)), some (.int (z)), some (.ref 115), none]) (by decide +kernel) (Nat.le_of_ble_eq_true rfl) rfl ?_
  refine z_aload_3 dL_greatestCount_0 ?_
  refine z_iconst (v := 0) dL_greatestCount_1 rfl ?_
  refine z_aload_0 dL_greatestCount_2 ?_
  refine z_iload_1 dL_greatestCount_3 ?_
  refine z_iload_2 dL_greatestCount_4 ?_
  refine WL_catch [] ⟨0, 10, 13, 19⟩ [⟨0, 10, 17, 13⟩] (zRun.V (ρ := fun i => i) (k_c_6_greatestCount_x1 n x z S X R T hn h40 hx) dL_greatestCount_5 zy_X6_greatestCount zm_L_68 rfl rfl rfl rfl (Nat.le_of_ble_eq_true rfl) (by decide) (by decide)) (T9 := [(0, 10, 13, 19), (0, 10, 17, 13)]) (by decide +kernel) rfl ?_ (by decide) (by decide) zcl_L_19 zca_B (zbl_of rfl) ?_
  · exact fun z hz => absurd hz (List.not_mem_nil)
  show Z sc _ _ _ _ _ 0 0 13 _ _ _ _ _
  refine z_astore_4 dL_greatestCount_13 rfl (by decide) ?_
  refine z_iconst (v := 1) dL_greatestCount_15 rfl ?_
  exact z_iret dL_greatestCount_16 rfl rfl rfl rfl
theorem k_L_greatestCount_x2 (n : Nat) (x : Int32) (z : Int32) (S : ZS) (X : ZS) (R : ZS) (T : TS) (hn : tn T = nI n) (h40 : n ≤ 40) (hx : tIx T x) (hz : tIx T z) (hzx : z < x) (P : ZS) (TU : TS) (q : Nat) (G : Nat → TS) (TN : TS) (fo : Nat → Int64) : zMW sc yL_greatestCount cL_greatestCount 5 (some .int) 11 1 6 [.ref 0, .int (x), .int (z), .ref 115] (WL S X R T P TU q G TN fo) (some (.int 2)) (WL S X R T P TU q G TN fo) := by
  refine zMW.at (ls := [some (.ref 0), some (.int (x)), some (.int (z)), some (.ref 115), none]) (by decide +kernel) (Nat.le_of_ble_eq_true rfl) rfl ?_
  refine z_aload_3 dL_greatestCount_0 ?_
  refine z_iconst (v := 0) dL_greatestCount_1 rfl ?_
  refine z_aload_0 dL_greatestCount_2 ?_
  refine z_iload_1 dL_greatestCount_3 ?_
  refine z_iload_2 dL_greatestCount_4 ?_
  refine WL_catch [⟨0, 10, 13, 19⟩] ⟨0, 10, 17, 13⟩ [] (zRun.V (ρ := fun i => i) (k_c_6_greatestCount_x2 n x z S X R T hn h40 hx hz hzx) dL_greatestCount_5 zy_X6_greatestCount zm_L_68 rfl rfl rfl rfl (Nat.le_of_ble_eq_true rfl) (by decide) (by decide)) (T9 := [(0, 10, 13, 19), (0, 10, 17, 13)]) (by decide +kernel) rfl ?_ (by decide) (by decide) zcl_L_13 zca_A (zbl_of rfl) ?_
  · intro z hz
    cases List.mem_singleton.mp hz
    exact zcat_b (y := yL_greatestCount) (by decide) zcl_L_19 (fun _ _ _ h => h.2.2.2.2.2.2.1)
  show Z sc _ _ _ _ _ 0 0 17 _ _ _ _ _
  refine z_astore_4 dL_greatestCount_17 rfl (by decide) ?_
  refine z_iconst (v := 2) dL_greatestCount_19 rfl ?_
  exact z_iret dL_greatestCount_20 rfl rfl rfl rfl
theorem k_L_runCount (n : Nat) (a : Nat) (b : Nat) (S : ZS) (X : ZS) (R : ZS) (T : TS) (hn : tn T = nI n) (h40 : n ≤ 40) (hab : a ≤ b) (hbn : b < n) (P : ZS) (TU : TS) (q : Nat) (G : Nat → TS) (TN : TS) (fo : Nat → Int64) : zMW sc yL_runCount cL_runCount 5 (some .int) 4 0 0 [.ref 0, .int (nI (a)), .int (nI (b)), .ref 115] (WL S X R T P TU q G TN fo) (some (.int 0)) (WL S X R T P TU q G TN (vp_updL fo 0 ((g_c_6_runCount n a b S X R T).toInt64))) := by
  refine zMW.at (ls := [some (.ref 0), some (.int (nI (a))), some (.int (nI (b))), some (.ref 115), none]) (by decide +kernel) (Nat.le_of_ble_eq_true rfl) rfl ?_
  refine z_aload_3 dL_runCount_0 ?_
  refine z_iconst (v := 0) dL_runCount_1 rfl ?_
  refine z_aload_0 dL_runCount_2 ?_
  refine z_iload_1 dL_runCount_3 ?_
  refine z_iload_2 dL_runCount_4 ?_
  refine Z.heap (WL_q S X R T P TU q G TN fo) ?_
  refine Z.callPs (zRun.V (ρ := fun i => i) (k_c_6_runCount n a b S X R T hn h40 hab hbn) dL_runCount_5 zy_X6_runCount zm_L_71 rfl rfl rfl rfl (Nat.le_of_ble_eq_true rfl) (by decide) (by decide)) (zlen2 14 rfl rfl) ?_
  refine Z.heap (WL_q S X R T P TU q G TN fo).symm ?_
  refine z_i2l dL_runCount_8 ?_
  refine z_lastW dL_runCount_9 ?_
  refine z_goto (tgt := 21) dL_runCount_10 (by decide) ?_
  refine z_iconst (v := 0) dL_runCount_21 rfl ?_
  exact z_iret dL_runCount_22 rfl rfl rfl rfl
theorem k_L_runCount_x1 (n : Nat) (x : Int32) (z : Int32) (S : ZS) (X : ZS) (R : ZS) (T : TS) (hn : tn T = nI n) (h40 : n ≤ 40) (hx : ¬ (tIx T x ∧ tIx T z)) (P : ZS) (TU : TS) (q : Nat) (G : Nat → TS) (TN : TS) (fo : Nat → Int64) : zMW sc yL_runCount cL_runCount 5 (some .int) 11 1 6 [.ref 0, .int (x), .int (z), .ref 115] (WL S X R T P TU q G TN fo) (some (.int 1)) (WL S X R T P TU q G TN fo) := by
  refine zMW.at (ls := [some (.ref 0), some (.int (x)), some (.int (z)), some (.ref 115), none]) (by decide +kernel) (Nat.le_of_ble_eq_true rfl) rfl ?_
  refine z_aload_3 dL_runCount_0 ?_
  refine z_iconst (v := 0) dL_runCount_1 rfl ?_
  refine z_aload_0 dL_runCount_2 ?_
  refine z_iload_1 dL_runCount_3 ?_
  refine z_iload_2 dL_runCount_4 ?_
  refine WL_catch [] ⟨0, 10, 13, 19⟩ [⟨0, 10, 17, 13⟩] (zRun.V (ρ := fun i => i) (k_c_6_runCount_x1 n x z S X R T hn h40 hx) dL_runCount_5 zy_X6_runCount zm_L_71 rfl rfl rfl rfl (Nat.le_of_ble_eq_true rfl) (by decide) (by decide)) (T9 := [(0, 10, 13, 19), (0, 10, 17, 13)]) (by decide +kernel) rfl ?_ (by decide) (by decide) zcl_L_19 zca_B (zbl_of rfl) ?_
  · exact fun z hz => absurd hz (List.not_mem_nil)
  show Z sc _ _ _ _ _ 0 0 13 _ _ _ _ _
  refine z_astore_4 dL_runCount_13 rfl (by decide) ?_
  refine z_iconst (v := 1) dL_runCount_15 rfl ?_
  exact z_iret dL_runCount_16 rfl rfl rfl rfl
theorem k_L_runCount_x2 (n : Nat) (x : Int32) (z : Int32) (S : ZS) (X : ZS) (R : ZS) (T : TS) (hn : tn T = nI n) (h40 : n ≤ 40) (hx : tIx T x) (hz : tIx T z) (hzx : z < x) (P : ZS) (TU : TS) (q : Nat) (G : Nat → TS) (TN : TS) (fo : Nat → Int64) : zMW sc yL_runCount cL_runCount 5 (some .int) 11 1 6 [.ref 0, .int (x), .int (z), .ref 115] (WL S X R T P TU q G TN fo) (some (.int 2)) (WL S X R T P TU q G TN fo) := by
  refine zMW.at (ls := [some (.ref 0), some (.int (x)), some (.int (z)), some (.ref 115), none]) (by decide +kernel) (Nat.le_of_ble_eq_true rfl) rfl ?_
  refine z_aload_3 dL_runCount_0 ?_
  refine z_iconst (v := 0) dL_runCount_1 rfl ?_
  refine z_aload_0 dL_runCount_2 ?_
  refine z_iload_1 dL_runCount_3 ?_
  refine z_iload_2 dL_runCount_4 ?_
  refine WL_catch [⟨0, 10, 13, 19⟩] ⟨0, 10, 17, 13⟩ [] (zRun.V (ρ := fun i => i) (k_c_6_runCount_x2 n x z S X R T hn h40 hx hz hzx) dL_runCount_5 zy_X6_runCount zm_L_71 rfl rfl rfl rfl (Nat.le_of_ble_eq_true rfl) (by decide) (by decide)) (T9 := [(0, 10, 13, 19), (0, 10, 17, 13)]) (by decide +kernel) rfl ?_ (by decide) (by decide) zcl_L_13 zca_A (zbl_of rfl) ?_
  · intro z hz
    cases List.mem_singleton.mp hz
    exact zcat_b (y := yL_runCount) (by decide) zcl_L_19 (fun _ _ _ h => h.2.2.2.2.2.2.1)
  show Z sc _ _ _ _ _ 0 0 17 _ _ _ _ _
  refine z_astore_4 dL_runCount_17 rfl (by decide) ?_
  refine z_iconst (v := 2) dL_runCount_19 rfl ?_
  exact z_iret dL_runCount_20 rfl rfl rfl rfl
theorem k_L_isAscending (n : Nat) (a : Nat) (b : Nat) (S : ZS) (X : ZS) (R : ZS) (T : TS) (hn : tn T = nI n) (h40 : n ≤ 40) (hab : a ≤ b) (hbn : b < n) (P : ZS) (TU : TS) (q : Nat) (G : Nat → TS) (TN : TS) (fo : Nat → Int64) : zMW sc yL_isAscending cL_isAscending 5 (some .int) 4 0 0 [.ref 0, .int (nI (a)), .int (nI (b)), .ref 115] (WL S X R T P TU q G TN fo) (some (.int 0)) (WL S X R T P TU q G TN (vp_updL fo 0 (if (g_c_6_isAscending n a b S X R T) = true then 1 else 0))) := by
  refine zMW.at (ls := [some (.ref 0), some (.int (nI (a))), some (.int (nI (b))), some (.ref 115), none]) (by decide +kernel) (Nat.le_of_ble_eq_true rfl) rfl ?_
  refine z_aload_3 dL_isAscending_0 ?_
  refine z_iconst (v := 0) dL_isAscending_1 rfl ?_
  refine z_aload_0 dL_isAscending_2 ?_
  refine z_iload_1 dL_isAscending_3 ?_
  refine z_iload_2 dL_isAscending_4 ?_
  refine Z.heap (WL_q S X R T P TU q G TN fo) ?_
  refine Z.callPs (zRun.V (ρ := fun i => i) (k_c_6_isAscending n a b S X R T hn h40 hab hbn) dL_isAscending_5 zy_X6_isAscending zm_L_74 rfl rfl rfl rfl (Nat.le_of_ble_eq_true rfl) (by decide) (by decide)) (zlen2 14 rfl rfl) ?_
  refine Z.heap (WL_q S X R T P TU q G TN fo).symm ?_
  refine z_ifB_eq (tgt := 15) dL_isAscending_8 (by decide) (fun c9 => ?_) (fun c9 => ?_)
  · rw [if_neg c9]
    refine z_lconst (v := 0) dL_isAscending_15 rfl ?_
    refine z_lastW dL_isAscending_16 ?_
    refine z_goto (tgt := 28) dL_isAscending_17 (by decide) ?_
    refine z_iconst (v := 0) dL_isAscending_28 rfl ?_
    exact z_iret dL_isAscending_29 rfl rfl rfl rfl
  · rw [if_pos c9]
    refine z_lconst (v := 1) dL_isAscending_11 rfl ?_
    refine z_goto (tgt := 16) dL_isAscending_12 (by decide) ?_
    refine z_lastW dL_isAscending_16 ?_
    refine z_goto (tgt := 28) dL_isAscending_17 (by decide) ?_
    refine z_iconst (v := 0) dL_isAscending_28 rfl ?_
    exact z_iret dL_isAscending_29 rfl rfl rfl rfl
theorem k_L_isAscending_x1 (n : Nat) (x : Int32) (z : Int32) (S : ZS) (X : ZS) (R : ZS) (T : TS) (hn : tn T = nI n) (h40 : n ≤ 40) (hx : ¬ (tIx T x ∧ tIx T z)) (P : ZS) (TU : TS) (q : Nat) (G : Nat → TS) (TN : TS) (fo : Nat → Int64) : zMW sc yL_isAscending cL_isAscending 5 (some .int) 11 1 6 [.ref 0, .int (x), .int (z), .ref 115] (WL S X R T P TU q G TN fo) (some (.int 1)) (WL S X R T P TU q G TN fo) := by
  refine zMW.at (ls := [some (.ref 0), some (.int (x)), some (.int (z)), some (.ref 115), none]) (by decide +kernel) (Nat.le_of_ble_eq_true rfl) rfl ?_
  refine z_aload_3 dL_isAscending_0 ?_
  refine z_iconst (v := 0) dL_isAscending_1 rfl ?_
  refine z_aload_0 dL_isAscending_2 ?_
  refine z_iload_1 dL_isAscending_3 ?_
  refine z_iload_2 dL_isAscending_4 ?_
  refine WL_catch [] ⟨0, 17, 20, 19⟩ [⟨0, 17, 24, 13⟩] (zRun.V (ρ := fun i => i) (k_c_6_isAscending_x1 n x z S X R T hn h40 hx) dL_isAscending_5 zy_X6_isAscending zm_L_74 rfl rfl rfl rfl (Nat.le_of_ble_eq_true rfl) (by decide) (by decide)) (T9 := [(0, 17, 20, 19), (0, 17, 24, 13)]) (by decide +kernel) rfl ?_ (by decide) (by decide) zcl_L_19 zca_B (zbl_of rfl) ?_
  · exact fun z hz => absurd hz (List.not_mem_nil)
  show Z sc _ _ _ _ _ 0 0 20 _ _ _ _ _
  refine z_astore_4 dL_isAscending_20 rfl (by decide) ?_
  refine z_iconst (v := 1) dL_isAscending_22 rfl ?_
  exact z_iret dL_isAscending_23 rfl rfl rfl rfl
theorem k_L_isAscending_x2 (n : Nat) (x : Int32) (z : Int32) (S : ZS) (X : ZS) (R : ZS) (T : TS) (hn : tn T = nI n) (h40 : n ≤ 40) (hx : tIx T x) (hz : tIx T z) (hzx : z < x) (P : ZS) (TU : TS) (q : Nat) (G : Nat → TS) (TN : TS) (fo : Nat → Int64) : zMW sc yL_isAscending cL_isAscending 5 (some .int) 11 1 6 [.ref 0, .int (x), .int (z), .ref 115] (WL S X R T P TU q G TN fo) (some (.int 2)) (WL S X R T P TU q G TN fo) := by
  refine zMW.at (ls := [some (.ref 0), some (.int (x)), some (.int (z)), some (.ref 115), none]) (by decide +kernel) (Nat.le_of_ble_eq_true rfl) rfl ?_
  refine z_aload_3 dL_isAscending_0 ?_
  refine z_iconst (v := 0) dL_isAscending_1 rfl ?_
  refine z_aload_0 dL_isAscending_2 ?_
  refine z_iload_1 dL_isAscending_3 ?_
  refine z_iload_2 dL_isAscending_4 ?_
  refine WL_catch [⟨0, 17, 20, 19⟩] ⟨0, 17, 24, 13⟩ [] (zRun.V (ρ := fun i => i) (k_c_6_isAscending_x2 n x z S X R T hn h40 hx hz hzx) dL_isAscending_5 zy_X6_isAscending zm_L_74 rfl rfl rfl rfl (Nat.le_of_ble_eq_true rfl) (by decide) (by decide)) (T9 := [(0, 17, 20, 19), (0, 17, 24, 13)]) (by decide +kernel) rfl ?_ (by decide) (by decide) zcl_L_13 zca_A (zbl_of rfl) ?_
  · intro z hz
    cases List.mem_singleton.mp hz
    exact zcat_b (y := yL_isAscending) (by decide) zcl_L_19 (fun _ _ _ h => h.2.2.2.2.2.2.1)
  show Z sc _ _ _ _ _ 0 0 24 _ _ _ _ _
  refine z_astore_4 dL_isAscending_24 rfl (by decide) ?_
  refine z_iconst (v := 2) dL_isAscending_26 rfl ?_
  exact z_iret dL_isAscending_27 rfl rfl rfl rfl
theorem k_L_isDescending (n : Nat) (a : Nat) (b : Nat) (S : ZS) (X : ZS) (R : ZS) (T : TS) (hn : tn T = nI n) (h40 : n ≤ 40) (hab : a ≤ b) (hbn : b < n) (P : ZS) (TU : TS) (q : Nat) (G : Nat → TS) (TN : TS) (fo : Nat → Int64) : zMW sc yL_isDescending cL_isDescending 5 (some .int) 4 0 0 [.ref 0, .int (nI (a)), .int (nI (b)), .ref 115] (WL S X R T P TU q G TN fo) (some (.int 0)) (WL S X R T P TU q G TN (vp_updL fo 0 (if (g_c_6_isDescending n a b S X R T) = true then 1 else 0))) := by
  refine zMW.at (ls := [some (.ref 0), some (.int (nI (a))), some (.int (nI (b))), some (.ref 115), none]) (by decide +kernel) (Nat.le_of_ble_eq_true rfl) rfl ?_
  refine z_aload_3 dL_isDescending_0 ?_
  refine z_iconst (v := 0) dL_isDescending_1 rfl ?_
  refine z_aload_0 dL_isDescending_2 ?_
  refine z_iload_1 dL_isDescending_3 ?_
  refine z_iload_2 dL_isDescending_4 ?_
  refine Z.heap (WL_q S X R T P TU q G TN fo) ?_
  refine Z.callPs (zRun.V (ρ := fun i => i) (k_c_6_isDescending n a b S X R T hn h40 hab hbn) dL_isDescending_5 zy_X6_isDescending zm_L_78 rfl rfl rfl rfl (Nat.le_of_ble_eq_true rfl) (by decide) (by decide)) (zlen2 14 rfl rfl) ?_
  refine Z.heap (WL_q S X R T P TU q G TN fo).symm ?_
  refine z_ifB_eq (tgt := 15) dL_isDescending_8 (by decide) (fun c9 => ?_) (fun c9 => ?_)
  · rw [if_neg c9]
    refine z_lconst (v := 0) dL_isDescending_15 rfl ?_
    refine z_lastW dL_isDescending_16 ?_
    refine z_goto (tgt := 28) dL_isDescending_17 (by decide) ?_
    refine z_iconst (v := 0) dL_isDescending_28 rfl ?_
    exact z_iret dL_isDescending_29 rfl rfl rfl rfl
  · rw [if_pos c9]
    refine z_lconst (v := 1) dL_isDescending_11 rfl ?_
    refine z_goto (tgt := 16) dL_isDescending_12 (by decide) ?_
    refine z_lastW dL_isDescending_16 ?_
    refine z_goto (tgt := 28) dL_isDescending_17 (by decide) ?_
    refine z_iconst (v := 0) dL_isDescending_28 rfl ?_
    exact z_iret dL_isDescending_29 rfl rfl rfl rfl
theorem k_L_isDescending_x1 (n : Nat) (x : Int32) (z : Int32) (S : ZS) (X : ZS) (R : ZS) (T : TS) (hn : tn T = nI n) (h40 : n ≤ 40) (hx : ¬ (tIx T x ∧ tIx T z)) (P : ZS) (TU : TS) (q : Nat) (G : Nat → TS) (TN : TS) (fo : Nat → Int64) : zMW sc yL_isDescending cL_isDescending 5 (some .int) 11 1 6 [.ref 0, .int (x), .int (z), .ref 115] (WL S X R T P TU q G TN fo) (some (.int 1)) (WL S X R T P TU q G TN fo) := by
  refine zMW.at (ls := [some (.ref 0), some (.int (x)), some (.int (z)), some (.ref 115), none]) (by decide +kernel) (Nat.le_of_ble_eq_true rfl) rfl ?_
  refine z_aload_3 dL_isDescending_0 ?_
  refine z_iconst (v := 0) dL_isDescending_1 rfl ?_
  refine z_aload_0 dL_isDescending_2 ?_
  refine z_iload_1 dL_isDescending_3 ?_
  refine z_iload_2 dL_isDescending_4 ?_
  refine WL_catch [] ⟨0, 17, 20, 19⟩ [⟨0, 17, 24, 13⟩] (zRun.V (ρ := fun i => i) (k_c_6_isDescending_x1 n x z S X R T hn h40 hx) dL_isDescending_5 zy_X6_isDescending zm_L_78 rfl rfl rfl rfl (Nat.le_of_ble_eq_true rfl) (by decide) (by decide)) (T9 := [(0, 17, 20, 19), (0, 17, 24, 13)]) (by decide +kernel) rfl ?_ (by decide) (by decide) zcl_L_19 zca_B (zbl_of rfl) ?_
  · exact fun z hz => absurd hz (List.not_mem_nil)
  show Z sc _ _ _ _ _ 0 0 20 _ _ _ _ _
  refine z_astore_4 dL_isDescending_20 rfl (by decide) ?_
  refine z_iconst (v := 1) dL_isDescending_22 rfl ?_
  exact z_iret dL_isDescending_23 rfl rfl rfl rfl
theorem k_L_isDescending_x2 (n : Nat) (x : Int32) (z : Int32) (S : ZS) (X : ZS) (R : ZS) (T : TS) (hn : tn T = nI n) (h40 : n ≤ 40) (hx : tIx T x) (hz : tIx T z) (hzx : z < x) (P : ZS) (TU : TS) (q : Nat) (G : Nat → TS) (TN : TS) (fo : Nat → Int64) : zMW sc yL_isDescending cL_isDescending 5 (some .int) 11 1 6 [.ref 0, .int (x), .int (z), .ref 115] (WL S X R T P TU q G TN fo) (some (.int 2)) (WL S X R T P TU q G TN fo) := by
  refine zMW.at (ls := [some (.ref 0), some (.int (x)), some (.int (z)), some (.ref 115), none]) (by decide +kernel) (Nat.le_of_ble_eq_true rfl) rfl ?_
  refine z_aload_3 dL_isDescending_0 ?_
  refine z_iconst (v := 0) dL_isDescending_1 rfl ?_
  refine z_aload_0 dL_isDescending_2 ?_
  refine z_iload_1 dL_isDescending_3 ?_
  refine z_iload_2 dL_isDescending_4 ?_
  refine WL_catch [⟨0, 17, 20, 19⟩] ⟨0, 17, 24, 13⟩ [] (zRun.V (ρ := fun i => i) (k_c_6_isDescending_x2 n x z S X R T hn h40 hx hz hzx) dL_isDescending_5 zy_X6_isDescending zm_L_78 rfl rfl rfl rfl (Nat.le_of_ble_eq_true rfl) (by decide) (by decide)) (T9 := [(0, 17, 20, 19), (0, 17, 24, 13)]) (by decide +kernel) rfl ?_ (by decide) (by decide) zcl_L_13 zca_A (zbl_of rfl) ?_
  · intro z hz
    cases List.mem_singleton.mp hz
    exact zcat_b (y := yL_isDescending) (by decide) zcl_L_19 (fun _ _ _ h => h.2.2.2.2.2.2.1)
  show Z sc _ _ _ _ _ 0 0 24 _ _ _ _ _
  refine z_astore_4 dL_isDescending_24 rfl (by decide) ?_
  refine z_iconst (v := 2) dL_isDescending_26 rfl ?_
  exact z_iret dL_isDescending_27 rfl rfl rfl rfl
theorem k_L_steepestStep (n : Nat) (a : Nat) (b : Nat) (S : ZS) (X : ZS) (R : ZS) (T : TS) (hn : tn T = nI n) (h40 : n ≤ 40) (hab : a ≤ b) (hbn : b < n) (P : ZS) (TU : TS) (q : Nat) (G : Nat → TS) (TN : TS) (fo : Nat → Int64) : zMW sc yL_steepestStep cL_steepestStep 5 (some .int) 4 0 0 [.ref 0, .int (nI (a)), .int (nI (b)), .ref 115] (WL S X R T P TU q G TN fo) (some (.int 0)) (WL S X R T P TU q G TN (vp_updL fo 0 ((g_c_6_steepestStep n a b S X R T).toInt64))) := by
  refine zMW.at (ls := [some (.ref 0), some (.int (nI (a))), some (.int (nI (b))), some (.ref 115), none]) (by decide +kernel) (Nat.le_of_ble_eq_true rfl) rfl ?_
  refine z_aload_3 dL_steepestStep_0 ?_
  refine z_iconst (v := 0) dL_steepestStep_1 rfl ?_
  refine z_aload_0 dL_steepestStep_2 ?_
  refine z_iload_1 dL_steepestStep_3 ?_
  refine z_iload_2 dL_steepestStep_4 ?_
  refine Z.heap (WL_q S X R T P TU q G TN fo) ?_
  refine Z.callPs (zRun.V (ρ := fun i => i) (k_c_6_steepestStep n a b S X R T hn h40 hab hbn) dL_steepestStep_5 zy_X6_steepestStep zm_L_81 rfl rfl rfl rfl (Nat.le_of_ble_eq_true rfl) (by decide) (by decide)) (zlen2 14 rfl rfl) ?_
  refine Z.heap (WL_q S X R T P TU q G TN fo).symm ?_
  refine z_i2l dL_steepestStep_8 ?_
  refine z_lastW dL_steepestStep_9 ?_
  refine z_goto (tgt := 21) dL_steepestStep_10 (by decide) ?_
  refine z_iconst (v := 0) dL_steepestStep_21 rfl ?_
  exact z_iret dL_steepestStep_22 rfl rfl rfl rfl
theorem k_L_steepestStep_x1 (n : Nat) (x : Int32) (z : Int32) (S : ZS) (X : ZS) (R : ZS) (T : TS) (hn : tn T = nI n) (h40 : n ≤ 40) (hx : ¬ (tIx T x ∧ tIx T z)) (P : ZS) (TU : TS) (q : Nat) (G : Nat → TS) (TN : TS) (fo : Nat → Int64) : zMW sc yL_steepestStep cL_steepestStep 5 (some .int) 11 1 6 [.ref 0, .int (x), .int (z), .ref 115] (WL S X R T P TU q G TN fo) (some (.int 1)) (WL S X R T P TU q G TN fo) := by
  refine zMW.at (ls := [some (.ref 0), some (.int (x)), some (.int (z)), some (.ref 115), none]) (by decide +kernel) (Nat.le_of_ble_eq_true rfl) rfl ?_
  refine z_aload_3 dL_steepestStep_0 ?_
  refine z_iconst (v := 0) dL_steepestStep_1 rfl ?_
  refine z_aload_0 dL_steepestStep_2 ?_
  refine z_iload_1 dL_steepestStep_3 ?_
  refine z_iload_2 dL_steepestStep_4 ?_
  refine WL_catch [] ⟨0, 10, 13, 19⟩ [⟨0, 10, 17, 13⟩] (zRun.V (ρ := fun i => i) (k_c_6_steepestStep_x1 n x z S X R T hn h40 hx) dL_steepestStep_5 zy_X6_steepestStep zm_L_81 rfl rfl rfl rfl (Nat.le_of_ble_eq_true rfl) (by decide) (by decide)) (T9 := [(0, 10, 13, 19), (0, 10, 17, 13)]) (by decide +kernel) rfl ?_ (by decide) (by decide) zcl_L_19 zca_B (zbl_of rfl) ?_
  · exact fun z hz => absurd hz (List.not_mem_nil)
  show Z sc _ _ _ _ _ 0 0 13 _ _ _ _ _
  refine z_astore_4 dL_steepestStep_13 rfl (by decide) ?_
  refine z_iconst (v := 1) dL_steepestStep_15 rfl ?_
  exact z_iret dL_steepestStep_16 rfl rfl rfl rfl
theorem k_L_steepestStep_x2 (n : Nat) (x : Int32) (z : Int32) (S : ZS) (X : ZS) (R : ZS) (T : TS) (hn : tn T = nI n) (h40 : n ≤ 40) (hx : tIx T x) (hz : tIx T z) (hzx : z < x) (P : ZS) (TU : TS) (q : Nat) (G : Nat → TS) (TN : TS) (fo : Nat → Int64) : zMW sc yL_steepestStep cL_steepestStep 5 (some .int) 11 1 6 [.ref 0, .int (x), .int (z), .ref 115] (WL S X R T P TU q G TN fo) (some (.int 2)) (WL S X R T P TU q G TN fo) := by
  refine zMW.at (ls := [some (.ref 0), some (.int (x)), some (.int (z)), some (.ref 115), none]) (by decide +kernel) (Nat.le_of_ble_eq_true rfl) rfl ?_
  refine z_aload_3 dL_steepestStep_0 ?_
  refine z_iconst (v := 0) dL_steepestStep_1 rfl ?_
  refine z_aload_0 dL_steepestStep_2 ?_
  refine z_iload_1 dL_steepestStep_3 ?_
  refine z_iload_2 dL_steepestStep_4 ?_
  refine WL_catch [⟨0, 10, 13, 19⟩] ⟨0, 10, 17, 13⟩ [] (zRun.V (ρ := fun i => i) (k_c_6_steepestStep_x2 n x z S X R T hn h40 hx hz hzx) dL_steepestStep_5 zy_X6_steepestStep zm_L_81 rfl rfl rfl rfl (Nat.le_of_ble_eq_true rfl) (by decide) (by decide)) (T9 := [(0, 10, 13, 19), (0, 10, 17, 13)]) (by decide +kernel) rfl ?_ (by decide) (by decide) zcl_L_13 zca_A (zbl_of rfl) ?_
  · intro z hz
    cases List.mem_singleton.mp hz
    exact zcat_b (y := yL_steepestStep) (by decide) zcl_L_19 (fun _ _ _ h => h.2.2.2.2.2.2.1)
  show Z sc _ _ _ _ _ 0 0 17 _ _ _ _ _
  refine z_astore_4 dL_steepestStep_17 rfl (by decide) ?_
  refine z_iconst (v := 2) dL_steepestStep_19 rfl ?_
  exact z_iret dL_steepestStep_20 rfl rfl rfl rfl
theorem k_L_mean (n : Nat) (a : Nat) (b : Nat) (S : ZS) (X : ZS) (R : ZS) (T : TS) (hn : tn T = nI n) (h40 : n ≤ 40) (hab : a ≤ b) (hbn : b < n) (hnan : vf_n64 (FP.ddiv (FP.l2d (g_c_6_totalOf a b S X R T)) (FP.i2d (nI (b - a + 1))))) (P : ZS) (TU : TS) (q : Nat) (G : Nat → TS) (TN : TS) (fo : Nat → UInt64) : zMW sc yL_mean cL_mean 5 (some .int) 4 0 0 [.ref 0, .int (nI (a)), .int (nI (b)), .ref 115] (WD S X R T P TU q G TN fo) (some (.int 0)) (WD S X R T P TU q G TN (vf_upd fo 0 (g_c_6_mean n a b S X R T))) := by
  refine zMW.at (ls := [some (.ref 0), some (.int (nI (a))), some (.int (nI (b))), some (.ref 115), none]) (by decide +kernel) (Nat.le_of_ble_eq_true rfl) rfl ?_
  refine z_aload_3 dL_mean_0 ?_
  refine z_iconst (v := 0) dL_mean_1 rfl ?_
  refine z_aload_0 dL_mean_2 ?_
  refine z_iload_1 dL_mean_3 ?_
  refine z_iload_2 dL_mean_4 ?_
  refine Z.heap (WD_q S X R T P TU q G TN fo) ?_
  refine Z.callPs (zRun.V (ρ := fun i => i) (k_c_6_mean n a b S X R T hn h40 hab hbn hnan) dL_mean_5 zy_X6_mean zm_L_84 rfl rfl rfl rfl (Nat.le_of_ble_eq_true rfl) (by decide) (by decide)) (zlen2 14 rfl rfl) ?_
  refine Z.heap (WD_q S X R T P TU q G TN fo).symm ?_
  refine z_dastW dL_mean_8 ?_
  refine z_goto (tgt := 20) dL_mean_9 (by decide) ?_
  refine z_iconst (v := 0) dL_mean_20 rfl ?_
  exact z_iret dL_mean_21 rfl rfl rfl rfl
theorem k_L_mean_x1 (n : Nat) (x : Int32) (z : Int32) (S : ZS) (X : ZS) (R : ZS) (T : TS) (hn : tn T = nI n) (h40 : n ≤ 40) (hx : ¬ (tIx T x ∧ tIx T z)) (P : ZS) (TU : TS) (q : Nat) (G : Nat → TS) (TN : TS) (fo : Nat → UInt64) : zMW sc yL_mean cL_mean 5 (some .int) 11 1 6 [.ref 0, .int (x), .int (z), .ref 115] (WD S X R T P TU q G TN fo) (some (.int 1)) (WD S X R T P TU q G TN fo) := by
  refine zMW.at (ls := [some (.ref 0), some (.int (x)), some (.int (z)), some (.ref 115), none]) (by decide +kernel) (Nat.le_of_ble_eq_true rfl) rfl ?_
  refine z_aload_3 dL_mean_0 ?_
  refine z_iconst (v := 0) dL_mean_1 rfl ?_
  refine z_aload_0 dL_mean_2 ?_
  refine z_iload_1 dL_mean_3 ?_
  refine z_iload_2 dL_mean_4 ?_
  refine WD_catch [] ⟨0, 9, 12, 19⟩ [⟨0, 9, 16, 13⟩] (zRun.V (ρ := fun i => i) (k_c_6_mean_x1 n x z S X R T hn h40 hx) dL_mean_5 zy_X6_mean zm_L_84 rfl rfl rfl rfl (Nat.le_of_ble_eq_true rfl) (by decide) (by decide)) (T9 := [(0, 9, 12, 19), (0, 9, 16, 13)]) (by decide +kernel) rfl ?_ (by decide) (by decide) zcl_L_19 zca_B (zbl_of rfl) ?_
  · exact fun z hz => absurd hz (List.not_mem_nil)
  show Z sc _ _ _ _ _ 0 0 12 _ _ _ _ _
  refine z_astore_4 dL_mean_12 rfl (by decide) ?_
  refine z_iconst (v := 1) dL_mean_14 rfl ?_
  exact z_iret dL_mean_15 rfl rfl rfl rfl
theorem k_L_mean_x2 (n : Nat) (x : Int32) (z : Int32) (S : ZS) (X : ZS) (R : ZS) (T : TS) (hn : tn T = nI n) (h40 : n ≤ 40) (hx : tIx T x) (hz : tIx T z) (hzx : z < x) (P : ZS) (TU : TS) (q : Nat) (G : Nat → TS) (TN : TS) (fo : Nat → UInt64) : zMW sc yL_mean cL_mean 5 (some .int) 11 1 6 [.ref 0, .int (x), .int (z), .ref 115] (WD S X R T P TU q G TN fo) (some (.int 2)) (WD S X R T P TU q G TN fo) := by
  refine zMW.at (ls := [some (.ref 0), some (.int (x)), some (.int (z)), some (.ref 115), none]) (by decide +kernel) (Nat.le_of_ble_eq_true rfl) rfl ?_
  refine z_aload_3 dL_mean_0 ?_
  refine z_iconst (v := 0) dL_mean_1 rfl ?_
  refine z_aload_0 dL_mean_2 ?_
  refine z_iload_1 dL_mean_3 ?_
  refine z_iload_2 dL_mean_4 ?_
  refine WD_catch [⟨0, 9, 12, 19⟩] ⟨0, 9, 16, 13⟩ [] (zRun.V (ρ := fun i => i) (k_c_6_mean_x2 n x z S X R T hn h40 hx hz hzx) dL_mean_5 zy_X6_mean zm_L_84 rfl rfl rfl rfl (Nat.le_of_ble_eq_true rfl) (by decide) (by decide)) (T9 := [(0, 9, 12, 19), (0, 9, 16, 13)]) (by decide +kernel) rfl ?_ (by decide) (by decide) zcl_L_13 zca_A (zbl_of rfl) ?_
  · intro z hz
    cases List.mem_singleton.mp hz
    exact zcat_b (y := yL_mean) (by decide) zcl_L_19 (fun _ _ _ h => h.2.2.2.2.2.2.1)
  show Z sc _ _ _ _ _ 0 0 16 _ _ _ _ _
  refine z_astore_4 dL_mean_16 rfl (by decide) ?_
  refine z_iconst (v := 2) dL_mean_18 rfl ?_
  exact z_iret dL_mean_19 rfl rfl rfl rfl
theorem k_L_greatestShare (n : Nat) (a : Nat) (b : Nat) (S : ZS) (X : ZS) (R : ZS) (T : TS) (hn : tn T = nI n) (h40 : n ≤ 40) (hab : a ≤ b) (hbn : b < n) (hnan : vf_n32 (FP.fdiv (FP.i2f (g_c_6_countOf a b (tMaxF (tva T) (b - a) (a + 1) (tva T a)) S X R T)) (FP.i2f (nI (b - a + 1))))) (P : ZS) (TU : TS) (q : Nat) (G : Nat → TS) (TN : TS) (fo : Nat → UInt64) (hnan2 : vf_n64 (FP.f2d (g_c_6_greatestShare n a b S X R T))) : zMW sc yL_greatestShare cL_greatestShare 5 (some .int) 4 0 0 [.ref 0, .int (nI (a)), .int (nI (b)), .ref 115] (WD S X R T P TU q G TN fo) (some (.int 0)) (WD S X R T P TU q G TN (vf_upd fo 0 (FP.f2d (g_c_6_greatestShare n a b S X R T)))) := by
  refine zMW.at (ls := [some (.ref 0), some (.int (nI (a))), some (.int (nI (b))), some (.ref 115), none]) (by decide +kernel) (Nat.le_of_ble_eq_true rfl) rfl ?_
  refine z_aload_3 dL_greatestShare_0 ?_
  refine z_iconst (v := 0) dL_greatestShare_1 rfl ?_
  refine z_aload_0 dL_greatestShare_2 ?_
  refine z_iload_1 dL_greatestShare_3 ?_
  refine z_iload_2 dL_greatestShare_4 ?_
  refine Z.heap (WD_q S X R T P TU q G TN fo) ?_
  refine Z.callPs (zRun.V (ρ := fun i => i) (k_c_6_greatestShare n a b S X R T hn h40 hab hbn hnan) dL_greatestShare_5 zy_X6_greatestShare zm_L_88 rfl rfl rfl rfl (Nat.le_of_ble_eq_true rfl) (by decide) (by decide)) (zlen2 14 rfl rfl) ?_
  refine Z.heap (WD_q S X R T P TU q G TN fo).symm ?_
  refine z_f2d hnan2 dL_greatestShare_8 ?_
  refine z_dastW dL_greatestShare_9 ?_
  refine z_goto (tgt := 21) dL_greatestShare_10 (by decide) ?_
  refine z_iconst (v := 0) dL_greatestShare_21 rfl ?_
  exact z_iret dL_greatestShare_22 rfl rfl rfl rfl
theorem k_L_greatestShare_x1 (n : Nat) (x : Int32) (z : Int32) (S : ZS) (X : ZS) (R : ZS) (T : TS) (hn : tn T = nI n) (h40 : n ≤ 40) (hx : ¬ (tIx T x ∧ tIx T z)) (P : ZS) (TU : TS) (q : Nat) (G : Nat → TS) (TN : TS) (fo : Nat → UInt64) : zMW sc yL_greatestShare cL_greatestShare 5 (some .int) 11 1 6 [.ref 0, .int (x), .int (z), .ref 115] (WD S X R T P TU q G TN fo) (some (.int 1)) (WD S X R T P TU q G TN fo) := by
  refine zMW.at (ls := [some (.ref 0), some (.int (x)), some (.int (z)), some (.ref 115), none]) (by decide +kernel) (Nat.le_of_ble_eq_true rfl) rfl ?_
  refine z_aload_3 dL_greatestShare_0 ?_
  refine z_iconst (v := 0) dL_greatestShare_1 rfl ?_
  refine z_aload_0 dL_greatestShare_2 ?_
  refine z_iload_1 dL_greatestShare_3 ?_
  refine z_iload_2 dL_greatestShare_4 ?_
  refine WD_catch [] ⟨0, 10, 13, 19⟩ [⟨0, 10, 17, 13⟩] (zRun.V (ρ := fun i => i) (k_c_6_greatestShare_x1 n x z S X R T hn h40 hx) dL_greatestShare_5 zy_X6_greatestShare zm_L_88 rfl rfl rfl rfl (Nat.le_of_ble_eq_true rfl) (by decide) (by decide)) (T9 := [(0, 10, 13, 19), (0, 10, 17, 13)]) (by decide +kernel) rfl ?_ (by decide) (by decide) zcl_L_19 zca_B (zbl_of rfl) ?_
  · exact fun z hz => absurd hz (List.not_mem_nil)
  show Z sc _ _ _ _ _ 0 0 13 _ _ _ _ _
  refine z_astore_4 dL_greatestShare_13 rfl (by decide) ?_
  refine z_iconst (v := 1) dL_greatestShare_15 rfl ?_
  exact z_iret dL_greatestShare_16 rfl rfl rfl rfl
theorem k_L_greatestShare_x2 (n : Nat) (x : Int32) (z : Int32) (S : ZS) (X : ZS) (R : ZS) (T : TS) (hn : tn T = nI n) (h40 : n ≤ 40) (hx : tIx T x) (hz : tIx T z) (hzx : z < x) (P : ZS) (TU : TS) (q : Nat) (G : Nat → TS) (TN : TS) (fo : Nat → UInt64) : zMW sc yL_greatestShare cL_greatestShare 5 (some .int) 11 1 6 [.ref 0, .int (x), .int (z), .ref 115] (WD S X R T P TU q G TN fo) (some (.int 2)) (WD S X R T P TU q G TN fo) := by
  refine zMW.at (ls := [some (.ref 0), some (.int (x)), some (.int (z)), some (.ref 115), none]) (by decide +kernel) (Nat.le_of_ble_eq_true rfl) rfl ?_
  refine z_aload_3 dL_greatestShare_0 ?_
  refine z_iconst (v := 0) dL_greatestShare_1 rfl ?_
  refine z_aload_0 dL_greatestShare_2 ?_
  refine z_iload_1 dL_greatestShare_3 ?_
  refine z_iload_2 dL_greatestShare_4 ?_
  refine WD_catch [⟨0, 10, 13, 19⟩] ⟨0, 10, 17, 13⟩ [] (zRun.V (ρ := fun i => i) (k_c_6_greatestShare_x2 n x z S X R T hn h40 hx hz hzx) dL_greatestShare_5 zy_X6_greatestShare zm_L_88 rfl rfl rfl rfl (Nat.le_of_ble_eq_true rfl) (by decide) (by decide)) (T9 := [(0, 10, 13, 19), (0, 10, 17, 13)]) (by decide +kernel) rfl ?_ (by decide) (by decide) zcl_L_13 zca_A (zbl_of rfl) ?_
  · intro z hz
    cases List.mem_singleton.mp hz
    exact zcat_b (y := yL_greatestShare) (by decide) zcl_L_19 (fun _ _ _ h => h.2.2.2.2.2.2.1)
  show Z sc _ _ _ _ _ 0 0 17 _ _ _ _ _
  refine z_astore_4 dL_greatestShare_17 rfl (by decide) ?_
  refine z_iconst (v := 2) dL_greatestShare_19 rfl ?_
  exact z_iret dL_greatestShare_20 rfl rfl rfl rfl
theorem k_L_firstAtLeast (n : Nat) (f : Nat) (v : Int32) (S : ZS) (X : ZS) (R : ZS) (T : TS) (hn : tn T = nI n) (h40 : n ≤ 40) (hf : f < n) (P : ZS) (TU : TS) (q : Nat) (G : Nat → TS) (TN : TS) (fo : Nat → Int64) : zMW sc yL_firstAtLeast cL_firstAtLeast 5 (some .int) 3 0 0 [.ref 0, .int (nI (f)), .int (v), .ref 115] (WL S X R T P TU q G TN fo) (some (.int 0)) (WL S X R T P TU q G TN (vp_updL fo 0 ((g_c_6_firstAtLeast n f v S X R T).toInt64))) := by
  refine zMW.at (ls := [some (.ref 0), some (.int (nI (f))), some (.int (v)), some (.ref 115), none]) (by decide +kernel) (Nat.le_of_ble_eq_true rfl) rfl ?_
  refine z_aload_3 dL_firstAtLeast_0 ?_
  refine z_iconst (v := 0) dL_firstAtLeast_1 rfl ?_
  refine z_aload_0 dL_firstAtLeast_2 ?_
  refine z_iload_1 dL_firstAtLeast_3 ?_
  refine z_iload_2 dL_firstAtLeast_4 ?_
  refine Z.heap (WL_q S X R T P TU q G TN fo) ?_
  refine Z.callPs (zRun.V (ρ := fun i => i) (k_c_6_firstAtLeast n f v S X R T hn h40 hf) dL_firstAtLeast_5 zy_X6_firstAtLeast zm_L_92 rfl rfl rfl rfl (Nat.le_of_ble_eq_true rfl) (by decide) (by decide)) (zlen2 14 rfl rfl) ?_
  refine Z.heap (WL_q S X R T P TU q G TN fo).symm ?_
  refine z_i2l dL_firstAtLeast_8 ?_
  refine z_lastW dL_firstAtLeast_9 ?_
  refine z_goto (tgt := 17) dL_firstAtLeast_10 (by decide) ?_
  refine z_iconst (v := 0) dL_firstAtLeast_17 rfl ?_
  exact z_iret dL_firstAtLeast_18 rfl rfl rfl rfl
theorem k_L_firstAtLeast_x1 (x : Int32) (v : Int32) (S : ZS) (X : ZS) (R : ZS) (T : TS) (hx : ¬ tIx T x) (P : ZS) (TU : TS) (q : Nat) (G : Nat → TS) (TN : TS) (fo : Nat → Int64) : zMW sc yL_firstAtLeast cL_firstAtLeast 5 (some .int) 10 1 6 [.ref 0, .int (x), .int (v), .ref 115] (WL S X R T P TU q G TN fo) (some (.int 1)) (WL S X R T P TU q G TN fo) := by
  refine zMW.at (ls := [some (.ref 0), some (.int (x)), some (.int (v)), some (.ref 115), none]) (by decide +kernel) (Nat.le_of_ble_eq_true rfl) rfl ?_
  refine z_aload_3 dL_firstAtLeast_0 ?_
  refine z_iconst (v := 0) dL_firstAtLeast_1 rfl ?_
  refine z_aload_0 dL_firstAtLeast_2 ?_
  refine z_iload_1 dL_firstAtLeast_3 ?_
  refine z_iload_2 dL_firstAtLeast_4 ?_
  refine WL_catch [] ⟨0, 10, 13, 19⟩ [] (zRun.V (ρ := fun i => i) (k_c_6_firstAtLeast_x1 x v S X R T hx) dL_firstAtLeast_5 zy_X6_firstAtLeast zm_L_92 rfl rfl rfl rfl (Nat.le_of_ble_eq_true rfl) (by decide) (by decide)) (T9 := [(0, 10, 13, 19)]) (by decide +kernel) rfl ?_ (by decide) (by decide) zcl_L_19 zca_B (zbl_of rfl) ?_
  · exact fun z hz => absurd hz (List.not_mem_nil)
  show Z sc _ _ _ _ _ 0 0 13 _ _ _ _ _
  refine z_astore_4 dL_firstAtLeast_13 rfl (by decide) ?_
  refine z_iconst (v := 1) dL_firstAtLeast_15 rfl ?_
  exact z_iret dL_firstAtLeast_16 rfl rfl rfl rfl
theorem k_L_firstBelow (n : Nat) (f : Nat) (v : Int32) (S : ZS) (X : ZS) (R : ZS) (T : TS) (hn : tn T = nI n) (h40 : n ≤ 40) (hf : f < n) (P : ZS) (TU : TS) (q : Nat) (G : Nat → TS) (TN : TS) (fo : Nat → Int64) : zMW sc yL_firstBelow cL_firstBelow 5 (some .int) 3 0 0 [.ref 0, .int (nI (f)), .int (v), .ref 115] (WL S X R T P TU q G TN fo) (some (.int 0)) (WL S X R T P TU q G TN (vp_updL fo 0 ((g_c_6_firstBelow n f v S X R T).toInt64))) := by
  refine zMW.at (ls := [some (.ref 0), some (.int (nI (f))), some (.int (v)), some (.ref 115), none]) (by decide +kernel) (Nat.le_of_ble_eq_true rfl) rfl ?_
  refine z_aload_3 dL_firstBelow_0 ?_
  refine z_iconst (v := 0) dL_firstBelow_1 rfl ?_
  refine z_aload_0 dL_firstBelow_2 ?_
  refine z_iload_1 dL_firstBelow_3 ?_
  refine z_iload_2 dL_firstBelow_4 ?_
  refine Z.heap (WL_q S X R T P TU q G TN fo) ?_
  refine Z.callPs (zRun.V (ρ := fun i => i) (k_c_6_firstBelow n f v S X R T hn h40 hf) dL_firstBelow_5 zy_X6_firstBelow zm_L_95 rfl rfl rfl rfl (Nat.le_of_ble_eq_true rfl) (by decide) (by decide)) (zlen2 14 rfl rfl) ?_
  refine Z.heap (WL_q S X R T P TU q G TN fo).symm ?_
  refine z_i2l dL_firstBelow_8 ?_
  refine z_lastW dL_firstBelow_9 ?_
  refine z_goto (tgt := 17) dL_firstBelow_10 (by decide) ?_
  refine z_iconst (v := 0) dL_firstBelow_17 rfl ?_
  exact z_iret dL_firstBelow_18 rfl rfl rfl rfl
theorem k_L_firstBelow_x1 (x : Int32) (v : Int32) (S : ZS) (X : ZS) (R : ZS) (T : TS) (hx : ¬ tIx T x) (P : ZS) (TU : TS) (q : Nat) (G : Nat → TS) (TN : TS) (fo : Nat → Int64) : zMW sc yL_firstBelow cL_firstBelow 5 (some .int) 10 1 6 [.ref 0, .int (x), .int (v), .ref 115] (WL S X R T P TU q G TN fo) (some (.int 1)) (WL S X R T P TU q G TN fo) := by
  refine zMW.at (ls := [some (.ref 0), some (.int (x)), some (.int (v)), some (.ref 115), none]) (by decide +kernel) (Nat.le_of_ble_eq_true rfl) rfl ?_
  refine z_aload_3 dL_firstBelow_0 ?_
  refine z_iconst (v := 0) dL_firstBelow_1 rfl ?_
  refine z_aload_0 dL_firstBelow_2 ?_
  refine z_iload_1 dL_firstBelow_3 ?_
  refine z_iload_2 dL_firstBelow_4 ?_
  refine WL_catch [] ⟨0, 10, 13, 19⟩ [] (zRun.V (ρ := fun i => i) (k_c_6_firstBelow_x1 x v S X R T hx) dL_firstBelow_5 zy_X6_firstBelow zm_L_95 rfl rfl rfl rfl (Nat.le_of_ble_eq_true rfl) (by decide) (by decide)) (T9 := [(0, 10, 13, 19)]) (by decide +kernel) rfl ?_ (by decide) (by decide) zcl_L_19 zca_B (zbl_of rfl) ?_
  · exact fun z hz => absurd hz (List.not_mem_nil)
  show Z sc _ _ _ _ _ 0 0 13 _ _ _ _ _
  refine z_astore_4 dL_firstBelow_13 rfl (by decide) ?_
  refine z_iconst (v := 1) dL_firstBelow_15 rfl ?_
  exact z_iret dL_firstBelow_16 rfl rfl rfl rfl
