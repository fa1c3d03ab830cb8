variable {sc : SC}

theorem k_L_lastAtLeast (n : Nat) (f : Nat) (v : Int32) (S : ZS) (X : ZS) (R : ZS) (T : TS) (hn : tn T = nI n) (h40 : n ≤ 40) (hf : f < n) (P : ZS) (TU : TS) (q : Nat) (G : Nat → TS) (TN : TS) (fo : Nat → Int64) : zMW sc yL_lastAtLeast cL_lastAtLeast 5 (some .int) 3 0 0 [.ref 0, .int (nI (f)), .int (v), .ref 115] (WL S X R T P TU q G TN fo) (some (.int 0)) (WL S X R T P TU q G TN (vp_updL fo 0 ((g_c_6_lastAtLeast n f v S X R T).toInt64))) := by
  refine zMW.at (ls := [some (.ref 0), some (.int (nI (f))), some (.int (v)), some (.ref 115), none]) (by decide +kernel) (Nat.le_of_ble_eq_true rfl) rfl ?_
  refine z_aload_3 dL_lastAtLeast_0 ?_
  refine z_iconst (v := 0) dL_lastAtLeast_1 rfl ?_
  refine z_aload_0 dL_lastAtLeast_2 ?_
  refine z_iload_1 dL_lastAtLeast_3 ?_
  refine z_iload_2 dL_lastAtLeast_4 ?_
  refine Z.heap (WL_q S X R T P TU q G TN fo) ?_
  refine Z.callPs (zRun.V (ρ := fun i => i) (k_c_6_lastAtLeast n f v S X R T hn h40 hf) dL_lastAtLeast_5 zy_X6_lastAtLeast zm_L_98 rfl rfl rfl rfl (Nat.le_of_ble_eq_true rfl) (by decide) (by decide)) (zlen2 14 rfl rfl) ?_
  refine Z.heap (WL_q S X R T P TU q G TN fo).symm ?_
  refine z_i2l dL_lastAtLeast_8 ?_
  refine z_lastW dL_lastAtLeast_9 ?_
  refine z_goto (tgt := 17) dL_lastAtLeast_10 (by decide) ?_
  refine z_iconst (v := 0) dL_lastAtLeast_17 rfl ?_
  exact z_iret dL_lastAtLeast_18 rfl rfl rfl rfl
theorem k_L_lastAtLeast_x1 (x : Int32) (v : Int32) (S : ZS) (X : ZS) (R : ZS) (T : TS) (hx : ¬ tIx T x) (P : ZS) (TU : TS) (q : Nat) (G : Nat → TS) (TN : TS) (fo : Nat → Int64) : zMW sc yL_lastAtLeast cL_lastAtLeast 5 (some .int) 10 1 6 [.ref 0, .int (x), .int (v), .ref 115] (WL S X R T P TU q G TN fo) (some (.int 1)) (WL S X R T P TU q G TN fo) := by
  refine zMW.at (ls := [some (.ref 0), some (.int (x)), some (.int (v)), some (.ref 115), none]) (by decide +kernel) (Nat.le_of_ble_eq_true rfl) rfl ?_
  refine z_aload_3 dL_lastAtLeast_0 ?_
  refine z_iconst (v := 0) dL_lastAtLeast_1 rfl ?_
  refine z_aload_0 dL_lastAtLeast_2 ?_
  refine z_iload_1 dL_lastAtLeast_3 ?_
  refine z_iload_2 dL_lastAtLeast_4 ?_
  refine WL_catch [] ⟨0, 10, 13, 19⟩ [] (zRun.V (ρ := fun i => i) (k_c_6_lastAtLeast_x1 x v S X R T hx) dL_lastAtLeast_5 zy_X6_lastAtLeast zm_L_98 rfl rfl rfl rfl (Nat.le_of_ble_eq_true rfl) (by decide) (by decide)) (T9 := [(0, 10, 13, 19)]) (by decide +kernel) rfl ?_ (by decide) (by decide) zcl_L_19 zca_B (zbl_of rfl) ?_
  · exact fun z hz => absurd hz (List.not_mem_nil)
  show Z sc _ _ _ _ _ 0 0 13 _ _ _ _ _
  refine z_astore_4 dL_lastAtLeast_13 rfl (by decide) ?_
  refine z_iconst (v := 1) dL_lastAtLeast_15 rfl ?_
  exact z_iret dL_lastAtLeast_16 rfl rfl rfl rfl
theorem k_L_distinctCount (n : Nat) (a : Nat) (b : Nat) (S : ZS) (X : ZS) (R : ZS) (T : TS) (hn : tn T = nI n) (h40 : n ≤ 40) (hab : a ≤ b) (hbn : b < n) (P : ZS) (TU : TS) (q : Nat) (G : Nat → TS) (TN : TS) (fo : Nat → Int64) : zMW sc yL_distinctCount cL_distinctCount 5 (some .int) 4 0 0 [.ref 0, .int (nI (a)), .int (nI (b)), .ref 115] (WL S X R T P TU q G TN fo) (some (.int 0)) (WL S X R T P TU q G TN (vp_updL fo 0 ((g_c_6_distinctCount n a b S X R T).toInt64))) := by
  refine zMW.at (ls := [some (.ref 0), some (.int (nI (a))), some (.int (nI (b))), some (.ref 115), none]) (by decide +kernel) (Nat.le_of_ble_eq_true rfl) rfl ?_
  refine z_aload_3 dL_distinctCount_0 ?_
  refine z_iconst (v := 0) dL_distinctCount_1 rfl ?_
  refine z_aload_0 dL_distinctCount_2 ?_
  refine z_iload_1 dL_distinctCount_3 ?_
  refine z_iload_2 dL_distinctCount_4 ?_
  refine Z.heap (WL_q S X R T P TU q G TN fo) ?_
  refine Z.callPs (zRun.V (ρ := fun i => i) (k_c_6_distinctCount n a b S X R T hn h40 hab hbn) dL_distinctCount_5 zy_X6_distinctCount zm_L_101 rfl rfl rfl rfl (Nat.le_of_ble_eq_true rfl) (by decide) (by decide)) (zlen2 14 rfl rfl) ?_
  refine Z.heap (WL_q S X R T P TU q G TN fo).symm ?_
  refine z_i2l dL_distinctCount_8 ?_
  refine z_lastW dL_distinctCount_9 ?_
  refine z_goto (tgt := 21) dL_distinctCount_10 (by decide) ?_
  refine z_iconst (v := 0) dL_distinctCount_21 rfl ?_
  exact z_iret dL_distinctCount_22 rfl rfl rfl rfl
theorem k_L_distinctCount_x1 (n : Nat) (x : Int32) (z : Int32) (S : ZS) (X : ZS) (R : ZS) (T : TS) (hn : tn T = nI n) (h40 : n ≤ 40) (hx : ¬ (tIx T x ∧ tIx T z)) (P : ZS) (TU : TS) (q : Nat) (G : Nat → TS) (TN : TS) (fo : Nat → Int64) : zMW sc yL_distinctCount cL_distinctCount 5 (some .int) 11 1 6 [.ref 0, .int (x), .int (z), .ref 115] (WL S X R T P TU q G TN fo) (some (.int 1)) (WL S X R T P TU q G TN fo) := by
  refine zMW.at (ls := [some (.ref 0), some (.int (x)), some (.int (z)), some (.ref 115), none]) (by decide +kernel) (Nat.le_of_ble_eq_true rfl) rfl ?_
  refine z_aload_3 dL_distinctCount_0 ?_
  refine z_iconst (v := 0) dL_distinctCount_1 rfl ?_
  refine z_aload_0 dL_distinctCount_2 ?_
  refine z_iload_1 dL_distinctCount_3 ?_
  refine z_iload_2 dL_distinctCount_4 ?_
  refine WL_catch [] ⟨0, 10, 13, 19⟩ [⟨0, 10, 17, 13⟩] (zRun.V (ρ := fun i => i) (k_c_6_distinctCount_x1 n x z S X R T hn h40 hx) dL_distinctCount_5 zy_X6_distinctCount zm_L_101 rfl rfl rfl rfl (Nat.le_of_ble_eq_true rfl) (by decide) (by decide)) (T9 := [(0, 10, 13, 19), (0, 10, 17, 13)]) (by decide +kernel) rfl ?_ (by decide) (by decide) zcl_L_19 zca_B (zbl_of rfl) ?_
  · exact fun z hz => absurd hz (List.not_mem_nil)
  show Z sc _ _ _ _ _ 0 0 13 _ _ _ _ _
  refine z_astore_4 dL_distinctCount_13 rfl (by decide) ?_
  refine z_iconst (v := 1) dL_distinctCount_15 rfl ?_
  exact z_iret dL_distinctCount_16 rfl rfl rfl rfl
theorem k_L_distinctCount_x2 (n : Nat) (x : Int32) (z : Int32) (S : ZS) (X : ZS) (R : ZS) (T : TS) (hn : tn T = nI n) (h40 : n ≤ 40) (hx : tIx T x) (hz : tIx T z) (hzx : z < x) (P : ZS) (TU : TS) (q : Nat) (G : Nat → TS) (TN : TS) (fo : Nat → Int64) : zMW sc yL_distinctCount cL_distinctCount 5 (some .int) 11 1 6 [.ref 0, .int (x), .int (z), .ref 115] (WL S X R T P TU q G TN fo) (some (.int 2)) (WL S X R T P TU q G TN fo) := by
  refine zMW.at (ls := [some (.ref 0), some (.int (x)), some (.int (z)), some (.ref 115), none]) (by decide +kernel) (Nat.le_of_ble_eq_true rfl) rfl ?_
  refine z_aload_3 dL_distinctCount_0 ?_
  refine z_iconst (v := 0) dL_distinctCount_1 rfl ?_
  refine z_aload_0 dL_distinctCount_2 ?_
  refine z_iload_1 dL_distinctCount_3 ?_
  refine z_iload_2 dL_distinctCount_4 ?_
  refine WL_catch [⟨0, 10, 13, 19⟩] ⟨0, 10, 17, 13⟩ [] (zRun.V (ρ := fun i => i) (k_c_6_distinctCount_x2 n x z S X R T hn h40 hx hz hzx) dL_distinctCount_5 zy_X6_distinctCount zm_L_101 rfl rfl rfl rfl (Nat.le_of_ble_eq_true rfl) (by decide) (by decide)) (T9 := [(0, 10, 13, 19), (0, 10, 17, 13)]) (by decide +kernel) rfl ?_ (by decide) (by decide) zcl_L_13 zca_A (zbl_of rfl) ?_
  · intro z hz
    cases List.mem_singleton.mp hz
    exact zcat_b (y := yL_distinctCount) (by decide) zcl_L_19 (fun _ _ _ h => h.2.2.2.2.2.2.1)
  show Z sc _ _ _ _ _ 0 0 17 _ _ _ _ _
  refine z_astore_4 dL_distinctCount_17 rfl (by decide) ?_
  refine z_iconst (v := 2) dL_distinctCount_19 rfl ?_
  exact z_iret dL_distinctCount_20 rfl rfl rfl rfl
theorem k_L_leafOf (n : Nat) (f : Nat) (S : ZS) (X : ZS) (R : ZS) (T : TS) (hn : tn T = nI n) (h40 : n ≤ 40) (hf : f < n) (P : ZS) (TU : TS) (q : Nat) (G : Nat → TS) (TN : TS) (fo : Nat → Int64) : zMW sc yL_leafOf cL_leafOf 4 (some .int) 3 0 0 [.ref 0, .int (nI (f)), .ref 115] (WL S X R T P TU q G TN fo) (some (.int 0)) (WL S X R T P TU q G TN (vp_updL fo 0 ((nI (g_c_6_leafOf n f S X R T)).toInt64))) := by
  refine zMW.at (ls := [some (.ref 0), some (.int (nI (f))), some (.ref 115), none]) (by decide +kernel) (Nat.le_of_ble_eq_true rfl) rfl ?_
  refine z_aload_2 dL_leafOf_0 ?_
  refine z_iconst (v := 0) dL_leafOf_1 rfl ?_
  refine z_aload_0 dL_leafOf_2 ?_
  refine z_iload_1 dL_leafOf_3 ?_
  refine Z.heap (WL_q S X R T P TU q G TN fo) ?_
  refine Z.callPs (zRun.V (ρ := fun i => i) (k_c_6_leafOf n f S X R T hn h40 hf) dL_leafOf_4 zy_X6_leafOf zm_L_104 rfl rfl rfl rfl (Nat.le_of_ble_eq_true rfl) (by decide) (by decide)) (zlen2 14 rfl rfl) ?_
  refine Z.heap (WL_q S X R T P TU q G TN fo).symm ?_
  refine z_i2l dL_leafOf_7 ?_
  refine z_lastW dL_leafOf_8 ?_
  refine z_goto (tgt := 15) dL_leafOf_9 (by decide) ?_
  refine z_iconst (v := 0) dL_leafOf_15 rfl ?_
  exact z_iret dL_leafOf_16 rfl rfl rfl rfl
theorem k_L_leafOf_x1 (x : Int32) (S : ZS) (X : ZS) (R : ZS) (T : TS) (hx : ¬ tIx T x) (P : ZS) (TU : TS) (q : Nat) (G : Nat → TS) (TN : TS) (fo : Nat → Int64) : zMW sc yL_leafOf cL_leafOf 4 (some .int) 10 1 6 [.ref 0, .int (x), .ref 115] (WL S X R T P TU q G TN fo) (some (.int 1)) (WL S X R T P TU q G TN fo) := by
  refine zMW.at (ls := [some (.ref 0), some (.int (x)), some (.ref 115), none]) (by decide +kernel) (Nat.le_of_ble_eq_true rfl) rfl ?_
  refine z_aload_2 dL_leafOf_0 ?_
  refine z_iconst (v := 0) dL_leafOf_1 rfl ?_
  refine z_aload_0 dL_leafOf_2 ?_
  refine z_iload_1 dL_leafOf_3 ?_
  refine WL_catch [] ⟨0, 9, 12, 19⟩ [] (zRun.V (ρ := fun i => i) (k_c_6_leafOf_x1 x S X R T hx) dL_leafOf_4 zy_X6_leafOf zm_L_104 rfl rfl rfl rfl (Nat.le_of_ble_eq_true rfl) (by decide) (by decide)) (T9 := [(0, 9, 12, 19)]) (by decide +kernel) rfl ?_ (by decide) (by decide) zcl_L_19 zca_B (zbl_of rfl) ?_
  · exact fun z hz => absurd hz (List.not_mem_nil)
  show Z sc _ _ _ _ _ 0 0 12 _ _ _ _ _
  refine z_astore_3 dL_leafOf_12 rfl (by decide) ?_
  refine z_iconst (v := 1) dL_leafOf_13 rfl ?_
  exact z_iret dL_leafOf_14 rfl rfl rfl rfl
theorem k_L_isLeaf (k : Nat) (S : ZS) (X : ZS) (R : ZS) (T : TS) (h1 : 1 ≤ k) (h2 : k < 128) (h3 : ¬ tF T k = -1) (P : ZS) (TU : TS) (q : Nat) (G : Nat → TS) (TN : TS) (fo : Nat → Int64) : zMW sc yL_isLeaf cL_isLeaf 4 (some .int) 3 0 0 [.ref 0, .int (nI (k)), .ref 115] (WL S X R T P TU q G TN fo) (some (.int 0)) (WL S X R T P TU q G TN (vp_updL fo 0 (if (g_c_6_isLeaf k S X R T) = true then 1 else 0))) := by
  refine zMW.at (ls := [some (.ref 0), some (.int (nI (k))), some (.ref 115), none]) (by decide +kernel) (Nat.le_of_ble_eq_true rfl) rfl ?_
  refine z_aload_2 dL_isLeaf_0 ?_
  refine z_iconst (v := 0) dL_isLeaf_1 rfl ?_
  refine z_aload_0 dL_isLeaf_2 ?_
  refine z_iload_1 dL_isLeaf_3 ?_
  refine Z.heap (WL_q S X R T P TU q G TN fo) ?_
  refine Z.callPs (zRun.V (ρ := fun i => i) (k_c_6_isLeaf k S X R T h1 h2 h3) dL_isLeaf_4 zy_X6_isLeaf zm_L_107 rfl rfl rfl rfl (Nat.le_of_ble_eq_true rfl) (by decide) (by decide)) (zlen2 14 rfl rfl) ?_
  refine Z.heap (WL_q S X R T P TU q G TN fo).symm ?_
  refine z_ifB_eq (tgt := 14) dL_isLeaf_7 (by decide) (fun c9 => ?_) (fun c9 => ?_)
  · rw [if_neg c9]
    refine z_lconst (v := 0) dL_isLeaf_14 rfl ?_
    refine z_lastW dL_isLeaf_15 ?_
    refine z_goto (tgt := 22) dL_isLeaf_16 (by decide) ?_
    refine z_iconst (v := 0) dL_isLeaf_22 rfl ?_
    exact z_iret dL_isLeaf_23 rfl rfl rfl rfl
  · rw [if_pos c9]
    refine z_lconst (v := 1) dL_isLeaf_10 rfl ?_
    refine z_goto (tgt := 15) dL_isLeaf_11 (by decide) ?_
    refine z_lastW dL_isLeaf_15 ?_
    refine z_goto (tgt := 22) dL_isLeaf_16 (by decide) ?_
    refine z_iconst (v := 0) dL_isLeaf_22 rfl ?_
    exact z_iret dL_isLeaf_23 rfl rfl rfl rfl
theorem k_L_isLeaf_x1 (x : Int32) (S : ZS) (X : ZS) (R : ZS) (T : TS) (hx : ¬ tHas T x) (P : ZS) (TU : TS) (q : Nat) (G : Nat → TS) (TN : TS) (fo : Nat → Int64) : zMW sc yL_isLeaf cL_isLeaf 4 (some .int) 10 1 6 [.ref 0, .int (x), .ref 115] (WL S X R T P TU q G TN fo) (some (.int 1)) (WL S X R T P TU q G TN fo) := by
  refine zMW.at (ls := [some (.ref 0), some (.int (x)), some (.ref 115), none]) (by decide +kernel) (Nat.le_of_ble_eq_true rfl) rfl ?_
  refine z_aload_2 dL_isLeaf_0 ?_
  refine z_iconst (v := 0) dL_isLeaf_1 rfl ?_
  refine z_aload_0 dL_isLeaf_2 ?_
  refine z_iload_1 dL_isLeaf_3 ?_
  refine WL_catch [] ⟨0, 16, 19, 19⟩ [] (zRun.V (ρ := fun i => i) (k_c_6_isLeaf_x1 x S X R T hx) dL_isLeaf_4 zy_X6_isLeaf zm_L_107 rfl rfl rfl rfl (Nat.le_of_ble_eq_true rfl) (by decide) (by decide)) (T9 := [(0, 16, 19, 19)]) (by decide +kernel) rfl ?_ (by decide) (by decide) zcl_L_19 zca_B (zbl_of rfl) ?_
  · exact fun z hz => absurd hz (List.not_mem_nil)
  show Z sc _ _ _ _ _ 0 0 19 _ _ _ _ _
  refine z_astore_3 dL_isLeaf_19 rfl (by decide) ?_
  refine z_iconst (v := 1) dL_isLeaf_20 rfl ?_
  exact z_iret dL_isLeaf_21 rfl rfl rfl rfl
theorem k_L_firstIndex (k : Nat) (S : ZS) (X : ZS) (R : ZS) (T : TS) (h1 : 1 ≤ k) (h2 : k < 128) (h3 : ¬ tF T k = -1) (P : ZS) (TU : TS) (q : Nat) (G : Nat → TS) (TN : TS) (fo : Nat → Int64) : zMW sc yL_firstIndex cL_firstIndex 4 (some .int) 3 0 0 [.ref 0, .int (nI (k)), .ref 115] (WL S X R T P TU q G TN fo) (some (.int 0)) (WL S X R T P TU q G TN (vp_updL fo 0 ((g_c_6_firstIndex k S X R T).toInt64))) := by
  refine zMW.at (ls := [some (.ref 0), some (.int (nI (k))), some (.ref 115), none]) (by decide +kernel) (Nat.le_of_ble_eq_true rfl) rfl ?_
  refine z_aload_2 dL_firstIndex_0 ?_
  refine z_iconst (v := 0) dL_firstIndex_1 rfl ?_
  refine z_aload_0 dL_firstIndex_2 ?_
  refine z_iload_1 dL_firstIndex_3 ?_
  refine Z.heap (WL_q S X R T P TU q G TN fo) ?_
  refine Z.callPs (zRun.V (ρ := fun i => i) (k_c_6_firstIndex k S X R T h1 h2 h3) dL_firstIndex_4 zy_X6_firstIndex zm_L_110 rfl rfl rfl rfl (Nat.le_of_ble_eq_true rfl) (by decide) (by decide)) (zlen2 14 rfl rfl) ?_
  refine Z.heap (WL_q S X R T P TU q G TN fo).symm ?_
  refine z_i2l dL_firstIndex_7 ?_
  refine z_lastW dL_firstIndex_8 ?_
  refine z_goto (tgt := 15) dL_firstIndex_9 (by decide) ?_
  refine z_iconst (v := 0) dL_firstIndex_15 rfl ?_
  exact z_iret dL_firstIndex_16 rfl rfl rfl rfl
theorem k_L_firstIndex_x1 (x : Int32) (S : ZS) (X : ZS) (R : ZS) (T : TS) (hx : ¬ tHas T x) (P : ZS) (TU : TS) (q : Nat) (G : Nat → TS) (TN : TS) (fo : Nat → Int64) : zMW sc yL_firstIndex cL_firstIndex 4 (some .int) 10 1 6 [.ref 0, .int (x), .ref 115] (WL S X R T P TU q G TN fo) (some (.int 1)) (WL S X R T P TU q G TN fo) := by
  refine zMW.at (ls := [some (.ref 0), some (.int (x)), some (.ref 115), none]) (by decide +kernel) (Nat.le_of_ble_eq_true rfl) rfl ?_
  refine z_aload_2 dL_firstIndex_0 ?_
  refine z_iconst (v := 0) dL_firstIndex_1 rfl ?_
  refine z_aload_0 dL_firstIndex_2 ?_
  refine z_iload_1 dL_firstIndex_3 ?_
  refine WL_catch [] ⟨0, 9, 12, 19⟩ [] (zRun.V (ρ := fun i => i) (k_c_6_firstIndex_x1 x S X R T hx) dL_firstIndex_4 zy_X6_firstIndex zm_L_110 rfl rfl rfl rfl (Nat.le_of_ble_eq_true rfl) (by decide) (by decide)) (T9 := [(0, 9, 12, 19)]) (by decide +kernel) rfl ?_ (by decide) (by decide) zcl_L_19 zca_B (zbl_of rfl) ?_
  · exact fun z hz => absurd hz (List.not_mem_nil)
  show Z sc _ _ _ _ _ 0 0 12 _ _ _ _ _
  refine z_astore_3 dL_firstIndex_12 rfl (by decide) ?_
  refine z_iconst (v := 1) dL_firstIndex_13 rfl ?_
  exact z_iret dL_firstIndex_14 rfl rfl rfl rfl
theorem k_L_lastIndex (k : Nat) (S : ZS) (X : ZS) (R : ZS) (T : TS) (h1 : 1 ≤ k) (h2 : k < 128) (h3 : ¬ tF T k = -1) (P : ZS) (TU : TS) (q : Nat) (G : Nat → TS) (TN : TS) (fo : Nat → Int64) : zMW sc yL_lastIndex cL_lastIndex 4 (some .int) 3 0 0 [.ref 0, .int (nI (k)), .ref 115] (WL S X R T P TU q G TN fo) (some (.int 0)) (WL S X R T P TU q G TN (vp_updL fo 0 ((g_c_6_lastIndex k S X R T).toInt64))) := by
  refine zMW.at (ls := [some (.ref 0), some (.int (nI (k))), some (.ref 115), none]) (by decide +kernel) (Nat.le_of_ble_eq_true rfl) rfl ?_
  refine z_aload_2 dL_lastIndex_0 ?_
  refine z_iconst (v := 0) dL_lastIndex_1 rfl ?_
  refine z_aload_0 dL_lastIndex_2 ?_
  refine z_iload_1 dL_lastIndex_3 ?_
  refine Z.heap (WL_q S X R T P TU q G TN fo) ?_
  refine Z.callPs (zRun.V (ρ := fun i => i) (k_c_6_lastIndex k S X R T h1 h2 h3) dL_lastIndex_4 zy_X6_lastIndex zm_L_113 rfl rfl rfl rfl (Nat.le_of_ble_eq_true rfl) (by decide) (by decide)) (zlen2 14 rfl rfl) ?_
  refine Z.heap (WL_q S X R T P TU q G TN fo).symm ?_
  refine z_i2l dL_lastIndex_7 ?_
  refine z_lastW dL_lastIndex_8 ?_
  refine z_goto (tgt := 15) dL_lastIndex_9 (by decide) ?_
  refine z_iconst (v := 0) dL_lastIndex_15 rfl ?_
  exact z_iret dL_lastIndex_16 rfl rfl rfl rfl
theorem k_L_lastIndex_x1 (x : Int32) (S : ZS) (X : ZS) (R : ZS) (T : TS) (hx : ¬ tHas T x) (P : ZS) (TU : TS) (q : Nat) (G : Nat → TS) (TN : TS) (fo : Nat → Int64) : zMW sc yL_lastIndex cL_lastIndex 4 (some .int) 10 1 6 [.ref 0, .int (x), .ref 115] (WL S X R T P TU q G TN fo) (some (.int 1)) (WL S X R T P TU q G TN fo) := by
  refine zMW.at (ls := [some (.ref 0), some (.int (x)), some (.ref 115), none]) (by decide +kernel) (Nat.le_of_ble_eq_true rfl) rfl ?_
  refine z_aload_2 dL_lastIndex_0 ?_
  refine z_iconst (v := 0) dL_lastIndex_1 rfl ?_
  refine z_aload_0 dL_lastIndex_2 ?_
  refine z_iload_1 dL_lastIndex_3 ?_
  refine WL_catch [] ⟨0, 9, 12, 19⟩ [] (zRun.V (ρ := fun i => i) (k_c_6_lastIndex_x1 x S X R T hx) dL_lastIndex_4 zy_X6_lastIndex zm_L_113 rfl rfl rfl rfl (Nat.le_of_ble_eq_true rfl) (by decide) (by decide)) (T9 := [(0, 9, 12, 19)]) (by decide +kernel) rfl ?_ (by decide) (by decide) zcl_L_19 zca_B (zbl_of rfl) ?_
  · exact fun z hz => absurd hz (List.not_mem_nil)
  show Z sc _ _ _ _ _ 0 0 12 _ _ _ _ _
  refine z_astore_3 dL_lastIndex_12 rfl (by decide) ?_
  refine z_iconst (v := 1) dL_lastIndex_13 rfl ?_
  exact z_iret dL_lastIndex_14 rfl rfl rfl rfl
theorem k_L_storedSum (k : Nat) (S : ZS) (X : ZS) (R : ZS) (T : TS) (h1 : 1 ≤ k) (h2 : k < 128) (h3 : ¬ tF T k = -1) (P : ZS) (TU : TS) (q : Nat) (G : Nat → TS) (TN : TS) (fo : Nat → Int64) : zMW sc yL_storedSum cL_storedSum 4 (some .int) 3 0 0 [.ref 0, .int (nI (k)), .ref 115] (WL S X R T P TU q G TN fo) (some (.int 0)) (WL S X R T P TU q G TN (vp_updL fo 0 (g_c_6_storedSum k S X R T))) := by
  refine zMW.at (ls := [some (.ref 0), some (.int (nI (k))), some (.ref 115), none]) (by decide +kernel) (Nat.le_of_ble_eq_true rfl) rfl ?_
  refine z_aload_2 dL_storedSum_0 ?_
  refine z_iconst (v := 0) dL_storedSum_1 rfl ?_
  refine z_aload_0 dL_storedSum_2 ?_
  refine z_iload_1 dL_storedSum_3 ?_
  refine Z.heap (WL_q S X R T P TU q G TN fo) ?_
  refine Z.callPs (zRun.V (ρ := fun i => i) (k_c_6_storedSum k S X R T h1 h2 h3) dL_storedSum_4 zy_X6_storedSum zm_L_116 rfl rfl rfl rfl (Nat.le_of_ble_eq_true rfl) (by decide) (by decide)) (zlen2 14 rfl rfl) ?_
  refine Z.heap (WL_q S X R T P TU q G TN fo).symm ?_
  refine z_lastW dL_storedSum_7 ?_
  refine z_goto (tgt := 14) dL_storedSum_8 (by decide) ?_
  refine z_iconst (v := 0) dL_storedSum_14 rfl ?_
  exact z_iret dL_storedSum_15 rfl rfl rfl rfl
theorem k_L_storedSum_x1 (x : Int32) (S : ZS) (X : ZS) (R : ZS) (T : TS) (hx : ¬ tHas T x) (P : ZS) (TU : TS) (q : Nat) (G : Nat → TS) (TN : TS) (fo : Nat → Int64) : zMW sc yL_storedSum cL_storedSum 4 (some .int) 10 1 6 [.ref 0, .int (x), .ref 115] (WL S X R T P TU q G TN fo) (some (.int 1)) (WL S X R T P TU q G TN fo) := by
  refine zMW.at (ls := [some (.ref 0), some (.int (x)), some (.ref 115), none]) (by decide +kernel) (Nat.le_of_ble_eq_true rfl) rfl ?_
  refine z_aload_2 dL_storedSum_0 ?_
  refine z_iconst (v := 0) dL_storedSum_1 rfl ?_
  refine z_aload_0 dL_storedSum_2 ?_
  refine z_iload_1 dL_storedSum_3 ?_
  refine WL_catch [] ⟨0, 8, 11, 19⟩ [] (zRun.V (ρ := fun i => i) (k_c_6_storedSum_x1 x S X R T hx) dL_storedSum_4 zy_X6_storedSum zm_L_116 rfl rfl rfl rfl (Nat.le_of_ble_eq_true rfl) (by decide) (by decide)) (T9 := [(0, 8, 11, 19)]) (by decide +kernel) rfl ?_ (by decide) (by decide) zcl_L_19 zca_B (zbl_of rfl) ?_
  · exact fun z hz => absurd hz (List.not_mem_nil)
  show Z sc _ _ _ _ _ 0 0 11 _ _ _ _ _
  refine z_astore_3 dL_storedSum_11 rfl (by decide) ?_
  refine z_iconst (v := 1) dL_storedSum_12 rfl ?_
  exact z_iret dL_storedSum_13 rfl rfl rfl rfl
theorem k_L_storedLeast (k : Nat) (S : ZS) (X : ZS) (R : ZS) (T : TS) (h1 : 1 ≤ k) (h2 : k < 128) (h3 : ¬ tF T k = -1) (P : ZS) (TU : TS) (q : Nat) (G : Nat → TS) (TN : TS) (fo : Nat → Int64) : zMW sc yL_storedLeast cL_storedLeast 4 (some .int) 3 0 0 [.ref 0, .int (nI (k)), .ref 115] (WL S X R T P TU q G TN fo) (some (.int 0)) (WL S X R T P TU q G TN (vp_updL fo 0 ((g_c_6_storedLeast k S X R T).toInt64))) := by
  refine zMW.at (ls := [some (.ref 0), some (.int (nI (k))), some (.ref 115), none]) (by decide +kernel) (Nat.le_of_ble_eq_true rfl) rfl ?_
  refine z_aload_2 dL_storedLeast_0 ?_
  refine z_iconst (v := 0) dL_storedLeast_1 rfl ?_
  refine z_aload_0 dL_storedLeast_2 ?_
  refine z_iload_1 dL_storedLeast_3 ?_
  refine Z.heap (WL_q S X R T P TU q G TN fo) ?_
  refine Z.callPs (zRun.V (ρ := fun i => i) (k_c_6_storedLeast k S X R T h1 h2 h3) dL_storedLeast_4 zy_X6_storedLeast zm_L_120 rfl rfl rfl rfl (Nat.le_of_ble_eq_true rfl) (by decide) (by decide)) (zlen2 14 rfl rfl) ?_
  refine Z.heap (WL_q S X R T P TU q G TN fo).symm ?_
  refine z_i2l dL_storedLeast_7 ?_
  refine z_lastW dL_storedLeast_8 ?_
  refine z_goto (tgt := 15) dL_storedLeast_9 (by decide) ?_
  refine z_iconst (v := 0) dL_storedLeast_15 rfl ?_
  exact z_iret dL_storedLeast_16 rfl rfl rfl rfl
theorem k_L_storedLeast_x1 (x : Int32) (S : ZS) (X : ZS) (R : ZS) (T : TS) (hx : ¬ tHas T x) (P : ZS) (TU : TS) (q : Nat) (G : Nat → TS) (TN : TS) (fo : Nat → Int64) : zMW sc yL_storedLeast cL_storedLeast 4 (some .int) 10 1 6 [.ref 0, .int (x), .ref 115] (WL S X R T P TU q G TN fo) (some (.int 1)) (WL S X R T P TU q G TN fo) := by
  refine zMW.at (ls := [some (.ref 0), some (.int (x)), some (.ref 115), none]) (by decide +kernel) (Nat.le_of_ble_eq_true rfl) rfl ?_
  refine z_aload_2 dL_storedLeast_0 ?_
  refine z_iconst (v := 0) dL_storedLeast_1 rfl ?_
  refine z_aload_0 dL_storedLeast_2 ?_
  refine z_iload_1 dL_storedLeast_3 ?_
  refine WL_catch [] ⟨0, 9, 12, 19⟩ [] (zRun.V (ρ := fun i => i) (k_c_6_storedLeast_x1 x S X R T hx) dL_storedLeast_4 zy_X6_storedLeast zm_L_120 rfl rfl rfl rfl (Nat.le_of_ble_eq_true rfl) (by decide) (by decide)) (T9 := [(0, 9, 12, 19)]) (by decide +kernel) rfl ?_ (by decide) (by decide) zcl_L_19 zca_B (zbl_of rfl) ?_
  · exact fun z hz => absurd hz (List.not_mem_nil)
  show Z sc _ _ _ _ _ 0 0 12 _ _ _ _ _
  refine z_astore_3 dL_storedLeast_12 rfl (by decide) ?_
  refine z_iconst (v := 1) dL_storedLeast_13 rfl ?_
  exact z_iret dL_storedLeast_14 rfl rfl rfl rfl
theorem k_L_storedGreatest (k : Nat) (S : ZS) (X : ZS) (R : ZS) (T : TS) (h1 : 1 ≤ k) (h2 : k < 128) (h3 : ¬ tF T k = -1) (P : ZS) (TU : TS) (q : Nat) (G : Nat → TS) (TN : TS) (fo : Nat → Int64) : zMW sc yL_storedGreatest cL_storedGreatest 4 (some .int) 3 0 0 [.ref 0, .int (nI (k)), .ref 115] (WL S X R T P TU q G TN fo) (some (.int 0)) (WL S X R T P TU q G TN (vp_updL fo 0 ((g_c_6_storedGreatest k S X R T).toInt64))) := by
  refine zMW.at (ls := [some (.ref 0), some (.int (nI (k))), some (.ref 115), none]) (by decide +kernel) (Nat.le_of_ble_eq_true rfl) rfl ?_
  refine z_aload_2 dL_storedGreatest_0 ?_
  refine z_iconst (v := 0) dL_storedGreatest_1 rfl ?_
  refine z_aload_0 dL_storedGreatest_2 ?_
  refine z_iload_1 dL_storedGreatest_3 ?_
  refine Z.heap (WL_q S X R T P TU q G TN fo) ?_
  refine Z.callPs (zRun.V (ρ := fun i => i) (k_c_6_storedGreatest k S X R T h1 h2 h3) dL_storedGreatest_4 zy_X6_storedGreatest zm_L_123 rfl rfl rfl rfl (Nat.le_of_ble_eq_true rfl) (by decide) (by decide)) (zlen2 14 rfl rfl) ?_
  refine Z.heap (WL_q S X R T P TU q G TN fo).symm ?_
  refine z_i2l dL_storedGreatest_7 ?_
  refine z_lastW dL_storedGreatest_8 ?_
  refine z_goto (tgt := 15) dL_storedGreatest_9 (by decide) ?_
  refine z_iconst (v := 0) dL_storedGreatest_15 rfl ?_
  exact z_iret dL_storedGreatest_16 rfl rfl rfl rfl
theorem k_L_storedGreatest_x1 (x : Int32) (S : ZS) (X : ZS) (R : ZS) (T : TS) (hx : ¬ tHas T x) (P : ZS) (TU : TS) (q : Nat) (G : Nat → TS) (TN : TS) (fo : Nat → Int64) : zMW sc yL_storedGreatest cL_storedGreatest 4 (some .int) 10 1 6 [.ref 0, .int (x), .ref 115] (WL S X R T P TU q G TN fo) (some (.int 1)) (WL S X R T P TU q G TN fo) := by
  refine zMW.at (ls := [some (.ref 0), some (.int (x)), some (.ref 115), none]) (by decide +kernel) (Nat.le_of_ble_eq_true rfl) rfl ?_
  refine z_aload_2 dL_storedGreatest_0 ?_
  refine z_iconst (v := 0) dL_storedGreatest_1 rfl ?_
  refine z_aload_0 dL_storedGreatest_2 ?_
  refine z_iload_1 dL_storedGreatest_3 ?_
  refine WL_catch [] ⟨0, 9, 12, 19⟩ [] (zRun.V (ρ := fun i => i) (k_c_6_storedGreatest_x1 x S X R T hx) dL_storedGreatest_4 zy_X6_storedGreatest zm_L_123 rfl rfl rfl rfl (Nat.le_of_ble_eq_true rfl) (by decide) (by decide)) (T9 := [(0, 9, 12, 19)]) (by decide +kernel) rfl ?_ (by decide) (by decide) zcl_L_19 zca_B (zbl_of rfl) ?_
  · exact fun z hz => absurd hz (List.not_mem_nil)
  show Z sc _ _ _ _ _ 0 0 12 _ _ _ _ _
  refine z_astore_3 dL_storedGreatest_12 rfl (by decide) ?_
  refine z_iconst (v := 1) dL_storedGreatest_13 rfl ?_
  exact z_iret dL_storedGreatest_14 rfl rfl rfl rfl
theorem k_L_markFactor (k : Nat) (S : ZS) (X : ZS) (R : ZS) (T : TS) (h1 : 1 ≤ k) (h2 : k < 128) (h3 : ¬ tF T k = -1) (P : ZS) (TU : TS) (q : Nat) (G : Nat → TS) (TN : TS) (fo : Nat → Int64) : zMW sc yL_markFactor cL_markFactor 4 (some .int) 3 0 0 [.ref 0, .int (nI (k)), .ref 115] (WL S X R T P TU q G TN fo) (some (.int 0)) (WL S X R T P TU q G TN (vp_updL fo 0 ((g_c_6_markFactor k S X R T).toInt64))) := by
  refine zMW.at (ls := [some (.ref 0), some (.int (nI (k))), some (.ref 115), none]) (by decide +kernel) (Nat.le_of_ble_eq_true rfl) rfl ?_
  refine z_aload_2 dL_markFactor_0 ?_
  refine z_iconst (v := 0) dL_markFactor_1 rfl ?_
  refine z_aload_0 dL_markFactor_2 ?_
  refine z_iload_1 dL_markFactor_3 ?_
  refine Z.heap (WL_q S X R T P TU q G TN fo) ?_
  refine Z.callPs (zRun.V (ρ := fun i => i) (k_c_6_markFactor k S X R T h1 h2 h3) dL_markFactor_4 zy_X6_markFactor zm_L_126 rfl rfl rfl rfl (Nat.le_of_ble_eq_true rfl) (by decide) (by decide)) (zlen2 14 rfl rfl) ?_
  refine Z.heap (WL_q S X R T P TU q G TN fo).symm ?_
  refine z_i2l dL_markFactor_7 ?_
  refine z_lastW dL_markFactor_8 ?_
  refine z_goto (tgt := 15) dL_markFactor_9 (by decide) ?_
  refine z_iconst (v := 0) dL_markFactor_15 rfl ?_
  exact z_iret dL_markFactor_16 rfl rfl rfl rfl
theorem k_L_markFactor_x1 (x : Int32) (S : ZS) (X : ZS) (R : ZS) (T : TS) (hx : ¬ tHas T x) (P : ZS) (TU : TS) (q : Nat) (G : Nat → TS) (TN : TS) (fo : Nat → Int64) : zMW sc yL_markFactor cL_markFactor 4 (some .int) 10 1 6 [.ref 0, .int (x), .ref 115] (WL S X R T P TU q G TN fo) (some (.int 1)) (WL S X R T P TU q G TN fo) := by
  refine zMW.at (ls := [some (.ref 0), some (.int (x)), some (.ref 115), none]) (by decide +kernel) (Nat.le_of_ble_eq_true rfl) rfl ?_
  refine z_aload_2 dL_markFactor_0 ?_
  refine z_iconst (v := 0) dL_markFactor_1 rfl ?_
  refine z_aload_0 dL_markFactor_2 ?_
  refine z_iload_1 dL_markFactor_3 ?_
  refine WL_catch [] ⟨0, 9, 12, 19⟩ [] (zRun.V (ρ := fun i => i) (k_c_6_markFactor_x1 x S X R T hx) dL_markFactor_4 zy_X6_markFactor zm_L_126 rfl rfl rfl rfl (Nat.le_of_ble_eq_true rfl) (by decide) (by decide)) (T9 := [(0, 9, 12, 19)]) (by decide +kernel) rfl ?_ (by decide) (by decide) zcl_L_19 zca_B (zbl_of rfl) ?_
  · exact fun z hz => absurd hz (List.not_mem_nil)
  show Z sc _ _ _ _ _ 0 0 12 _ _ _ _ _
  refine z_astore_3 dL_markFactor_12 rfl (by decide) ?_
  refine z_iconst (v := 1) dL_markFactor_13 rfl ?_
  exact z_iret dL_markFactor_14 rfl rfl rfl rfl
theorem k_L_markOffset (k : Nat) (S : ZS) (X : ZS) (R : ZS) (T : TS) (h1 : 1 ≤ k) (h2 : k < 128) (h3 : ¬ tF T k = -1) (P : ZS) (TU : TS) (q : Nat) (G : Nat → TS) (TN : TS) (fo : Nat → Int64) : zMW sc yL_markOffset cL_markOffset 4 (some .int) 3 0 0 [.ref 0, .int (nI (k)), .ref 115] (WL S X R T P TU q G TN fo) (some (.int 0)) (WL S X R T P TU q G TN (vp_updL fo 0 ((g_c_6_markOffset k S X R T).toInt64))) := by
  refine zMW.at (ls := [some (.ref 0), some (.int (nI (k))), some (.ref 115), none]) (by decide +kernel) (Nat.le_of_ble_eq_true rfl) rfl ?_
  refine z_aload_2 dL_markOffset_0 ?_
  refine z_iconst (v := 0) dL_markOffset_1 rfl ?_
  refine z_aload_0 dL_markOffset_2 ?_
  refine z_iload_1 dL_markOffset_3 ?_
  refine Z.heap (WL_q S X R T P TU q G TN fo) ?_
  refine Z.callPs (zRun.V (ρ := fun i => i) (k_c_6_markOffset k S X R T h1 h2 h3) dL_markOffset_4 zy_X6_markOffset zm_L_129 rfl rfl rfl rfl (Nat.le_of_ble_eq_true rfl) (by decide) (by decide)) (zlen2 14 rfl rfl) ?_
  refine Z.heap (WL_q S X R T P TU q G TN fo).symm ?_
  refine z_i2l dL_markOffset_7 ?_
  refine z_lastW dL_markOffset_8 ?_
  refine z_goto (tgt := 15) dL_markOffset_9 (by decide) ?_
  refine z_iconst (v := 0) dL_markOffset_15 rfl ?_
  exact z_iret dL_markOffset_16 rfl rfl rfl rfl
theorem k_L_markOffset_x1 (x : Int32) (S : ZS) (X : ZS) (R : ZS) (T : TS) (hx : ¬ tHas T x) (P : ZS) (TU : TS) (q : Nat) (G : Nat → TS) (TN : TS) (fo : Nat → Int64) : zMW sc yL_markOffset cL_markOffset 4 (some .int) 10 1 6 [.ref 0, .int (x), .ref 115] (WL S X R T P TU q G TN fo) (some (.int 1)) (WL S X R T P TU q G TN fo) := by
  refine zMW.at (ls := [some (.ref 0), some (.int (x)), some (.ref 115), none]) (by decide +kernel) (Nat.le_of_ble_eq_true rfl) rfl ?_
  refine z_aload_2 dL_markOffset_0 ?_
  refine z_iconst (v := 0) dL_markOffset_1 rfl ?_
  refine z_aload_0 dL_markOffset_2 ?_
  refine z_iload_1 dL_markOffset_3 ?_
  refine WL_catch [] ⟨0, 9, 12, 19⟩ [] (zRun.V (ρ := fun i => i) (k_c_6_markOffset_x1 x S X R T hx) dL_markOffset_4 zy_X6_markOffset zm_L_129 rfl rfl rfl rfl (Nat.le_of_ble_eq_true rfl) (by decide) (by decide)) (T9 := [(0, 9, 12, 19)]) (by decide +kernel) rfl ?_ (by decide) (by decide) zcl_L_19 zca_B (zbl_of rfl) ?_
  · exact fun z hz => absurd hz (List.not_mem_nil)
  show Z sc _ _ _ _ _ 0 0 12 _ _ _ _ _
  refine z_astore_3 dL_markOffset_12 rfl (by decide) ?_
  refine z_iconst (v := 1) dL_markOffset_13 rfl ?_
  exact z_iret dL_markOffset_14 rfl rfl rfl rfl
theorem k_L_marksAbove (n : Nat) (f : Nat) (S : ZS) (X : ZS) (R : ZS) (T : TS) (hn : tn T = nI n) (h40 : n ≤ 40) (hf : f < n) (P : ZS) (TU : TS) (q : Nat) (G : Nat → TS) (TN : TS) (fo : Nat → Int64) : zMW sc yL_marksAbove cL_marksAbove 4 (some .int) 3 0 0 [.ref 0, .int (nI (f)), .ref 115] (WL S X R T P TU q G TN fo) (some (.int 0)) (WL S X R T P TU q G TN (vp_updL fo 0 ((g_c_6_marksAbove n f S X R T).toInt64))) := by
  refine zMW.at (ls := [some (.ref 0), some (.int (nI (f))), some (.ref 115), none]) (by decide +kernel) (Nat.le_of_ble_eq_true rfl) rfl ?_
  refine z_aload_2 dL_marksAbove_0 ?_
  refine z_iconst (v := 0) dL_marksAbove_1 rfl ?_
  refine z_aload_0 dL_marksAbove_2 ?_
  refine z_iload_1 dL_marksAbove_3 ?_
  refine Z.heap (WL_q S X R T P TU q G TN fo) ?_
  refine Z.callPs (zRun.V (ρ := fun i => i) (k_c_6_marksAbove n f S X R T hn h40 hf) dL_marksAbove_4 zy_X6_marksAbove zm_L_132 rfl rfl rfl rfl (Nat.le_of_ble_eq_true rfl) (by decide) (by decide)) (zlen2 14 rfl rfl) ?_
  refine Z.heap (WL_q S X R T P TU q G TN fo).symm ?_
  refine z_i2l dL_marksAbove_7 ?_
  refine z_lastW dL_marksAbove_8 ?_
  refine z_goto (tgt := 15) dL_marksAbove_9 (by decide) ?_
  refine z_iconst (v := 0) dL_marksAbove_15 rfl ?_
  exact z_iret dL_marksAbove_16 rfl rfl rfl rfl
theorem k_L_marksAbove_x1 (x : Int32) (S : ZS) (X : ZS) (R : ZS) (T : TS) (hx : ¬ tIx T x) (P : ZS) (TU : TS) (q : Nat) (G : Nat → TS) (TN : TS) (fo : Nat → Int64) : zMW sc yL_marksAbove cL_marksAbove 4 (some .int) 10 1 6 [.ref 0, .int (x), .ref 115] (WL S X R T P TU q G TN fo) (some (.int 1)) (WL S X R T P TU q G TN fo) := by
  refine zMW.at (ls := [some (.ref 0), some (.int (x)), some (.ref 115), none]) (by decide +kernel) (Nat.le_of_ble_eq_true rfl) rfl ?_
  refine z_aload_2 dL_marksAbove_0 ?_
  refine z_iconst (v := 0) dL_marksAbove_1 rfl ?_
  refine z_aload_0 dL_marksAbove_2 ?_
  refine z_iload_1 dL_marksAbove_3 ?_
  refine WL_catch [] ⟨0, 9, 12, 19⟩ [] (zRun.V (ρ := fun i => i) (k_c_6_marksAbove_x1 x S X R T hx) dL_marksAbove_4 zy_X6_marksAbove zm_L_132 rfl rfl rfl rfl (Nat.le_of_ble_eq_true rfl) (by decide) (by decide)) (T9 := [(0, 9, 12, 19)]) (by decide +kernel) rfl ?_ (by decide) (by decide) zcl_L_19 zca_B (zbl_of rfl) ?_
  · exact fun z hz => absurd hz (List.not_mem_nil)
  show Z sc _ _ _ _ _ 0 0 12 _ _ _ _ _
  refine z_astore_3 dL_marksAbove_12 rfl (by decide) ?_
  refine z_iconst (v := 1) dL_marksAbove_13 rfl ?_
  exact z_iret dL_marksAbove_14 rfl rfl rfl rfl
theorem k_L_appliedFor (n : Nat) (a : Nat) (b : Nat) (S : ZS) (X : ZS) (R : ZS) (T : TS) (hn : tn T = nI n) (h40 : n ≤ 40) (hab : a ≤ b) (hbn : b < n) (P : ZS) (TU : TS) (q : Nat) (G : Nat → TS) (TN : TS) (fo : Nat → Int64) : zMW sc yL_appliedFor cL_appliedFor 5 (some .int) 4 0 0 [.ref 0, .int (nI (a)), .int (nI (b)), .ref 115] (WL S X R T P TU q G TN fo) (some (.int 0)) (WL S X R T P TU q G TN (vp_updL fo 0 ((g_c_6_appliedFor n a b S X R T).toInt64))) := by
  refine zMW.at (ls := [some (.ref 0), some (.int (nI (a))), some (.int (nI (b))), some (.ref 115), none]) (by decide +kernel) (Nat.le_of_ble_eq_true rfl) rfl ?_
  refine z_aload_3 dL_appliedFor_0 ?_
  refine z_iconst (v := 0) dL_appliedFor_1 rfl ?_
  refine z_aload_0 dL_appliedFor_2 ?_
  refine z_iload_1 dL_appliedFor_3 ?_
  refine z_iload_2 dL_appliedFor_4 ?_
  refine Z.heap (WL_q S X R T P TU q G TN fo) ?_
  refine Z.callPs (zRun.V (ρ := fun i => i) (k_c_6_appliedFor n a b S X R T hn h40 hab hbn) dL_appliedFor_5 zy_X6_appliedFor zm_L_135 rfl rfl rfl rfl (Nat.le_of_ble_eq_true rfl) (by decide) (by decide)) (zlen2 14 rfl rfl) ?_
  refine Z.heap (WL_q S X R T P TU q G TN fo).symm ?_
  refine z_i2l dL_appliedFor_8 ?_
  refine z_lastW dL_appliedFor_9 ?_
  refine z_goto (tgt := 21) dL_appliedFor_10 (by decide) ?_
  refine z_iconst (v := 0) dL_appliedFor_21 rfl ?_
  exact z_iret dL_appliedFor_22 rfl rfl rfl rfl
theorem k_L_appliedFor_x1 (n : Nat) (x : Int32) (z : Int32) (S : ZS) (X : ZS) (R : ZS) (T : TS) (hn : tn T = nI n) (h40 : n ≤ 40) (hx : ¬ (tIx T x ∧ tIx T z)) (P : ZS) (TU : TS) (q : Nat) (G : Nat → TS) (TN : TS) (fo : Nat → Int64) : zMW sc yL_appliedFor cL_appliedFor 5 (some .int) 11 1 6 [.ref 0, .int (x), .int (z), .ref 115] (WL S X R T P TU q G TN fo) (some (.int 1)) (WL S X R T P TU q G TN fo) := by
  refine zMW.at (ls := [some (.ref 0), some (.int (x)), some (.int (z)), some (.ref 115), none]) (by decide +kernel) (Nat.le_of_ble_eq_true rfl) rfl ?_
  refine z_aload_3 dL_appliedFor_0 ?_
  refine z_iconst (v := 0) dL_appliedFor_1 rfl ?_
  refine z_aload_0 dL_appliedFor_2 ?_
  refine z_iload_1 dL_appliedFor_3 ?_
  refine z_iload_2 dL_appliedFor_4 ?_
  refine WL_catch [] ⟨0, 10, 13, 19⟩ [⟨0, 10, 17, 13⟩] (zRun.V (ρ := fun i => i) (k_c_6_appliedFor_x1 n x z S X R T hn h40 hx) dL_appliedFor_5 zy_X6_appliedFor zm_L_135 rfl rfl rfl rfl (Nat.le_of_ble_eq_true rfl) (by decide) (by decide)) (T9 := [(0, 10, 13, 19), (0, 10, 17, 13)]) (by decide +kernel) rfl ?_ (by decide) (by decide) zcl_L_19 zca_B (zbl_of rfl) ?_
  · exact fun z hz => absurd hz (List.not_mem_nil)
  show Z sc _ _ _ _ _ 0 0 13 _ _ _ _ _
  refine z_astore_4 dL_appliedFor_13 rfl (by decide) ?_
  refine z_iconst (v := 1) dL_appliedFor_15 rfl ?_
  exact z_iret dL_appliedFor_16 rfl rfl rfl rfl
theorem k_L_appliedFor_x2 (n : Nat) (x : Int32) (z : Int32) (S : ZS) (X : ZS) (R : ZS) (T : TS) (hn : tn T = nI n) (h40 : n ≤ 40) (hx : tIx T x) (hz : tIx T z) (hzx : z < x) (P : ZS) (TU : TS) (q : Nat) (G : Nat → TS) (TN : TS) (fo : Nat → Int64) : zMW sc yL_appliedFor cL_appliedFor 5 (some .int) 11 1 6 [.ref 0, .int (x), .int (z), .ref 115] (WL S X R T P TU q G TN fo) (some (.int 2)) (WL S X R T P TU q G TN fo) := by
  refine zMW.at (ls := [some (.ref 0), some (.int (x)), some (.int (z)), some (.ref 115), none]) (by decide +kernel) (Nat.le_of_ble_eq_true rfl) rfl ?_
  refine z_aload_3 dL_appliedFor_0 ?_
  refine z_iconst (v := 0) dL_appliedFor_1 rfl ?_
  refine z_aload_0 dL_appliedFor_2 ?_
  refine z_iload_1 dL_appliedFor_3 ?_
  refine z_iload_2 dL_appliedFor_4 ?_
  refine WL_catch [⟨0, 10, 13, 19⟩] ⟨0, 10, 17, 13⟩ [] (zRun.V (ρ := fun i => i) (k_c_6_appliedFor_x2 n x z S X R T hn h40 hx hz hzx) dL_appliedFor_5 zy_X6_appliedFor zm_L_135 rfl rfl rfl rfl (Nat.le_of_ble_eq_true rfl) (by decide) (by decide)) (T9 := [(0, 10, 13, 19), (0, 10, 17, 13)]) (by decide +kernel) rfl ?_ (by decide) (by decide) zcl_L_13 zca_A (zbl_of rfl) ?_
  · intro z hz
    cases List.mem_singleton.mp hz
    exact zcat_b (y := yL_appliedFor) (by decide) zcl_L_19 (fun _ _ _ h => h.2.2.2.2.2.2.1)
  show Z sc _ _ _ _ _ 0 0 17 _ _ _ _ _
  refine z_astore_4 dL_appliedFor_17 rfl (by decide) ?_
  refine z_iconst (v := 2) dL_appliedFor_19 rfl ?_
  exact z_iret dL_appliedFor_20 rfl rfl rfl rfl
theorem k_L_appliedNode (n : Nat) (a : Nat) (b : Nat) (p : Int32) (S : ZS) (X : ZS) (R : ZS) (T : TS) (hn : tn T = nI n) (h40 : n ≤ 40) (hab : a ≤ b) (hbn : b < n) (P : ZS) (TU : TS) (q : Nat) (G : Nat → TS) (TN : TS) (fo : Nat → Int64) : zMW sc yL_appliedNode cL_appliedNode 6 (some .int) 4 0 0 [.ref 0, .int (nI (a)), .int (nI (b)), .int (p), .ref 115] (WL S X R T P TU q G TN fo) (some (.int 0)) (WL S X R T P TU q G TN (vp_updL fo 0 ((g_c_6_appliedNode n a b p S X R T).toInt64))) := by
  refine zMW.at (ls := [some (.ref 0), some (.int (nI (a))), some (.int (nI (b))), some (.int (p)), some (.ref 115), none]) (by decide +kernel) (Nat.le_of_ble_eq_true rfl) rfl ?_
  refine z_aload_4 dL_appliedNode_0 ?_
  refine z_iconst (v := 0) dL_appliedNode_2 rfl ?_
  refine z_aload_0 dL_appliedNode_3 ?_
  refine z_iload_1 dL_appliedNode_4 ?_
  refine z_iload_2 dL_appliedNode_5 ?_
  refine z_iload_3 dL_appliedNode_6 ?_
  refine Z.heap (WL_q S X R T P TU q G TN fo) ?_
  refine Z.callPs (zRun.V (ρ := fun i => i) (k_c_6_appliedNode n a b p S X R T hn h40 hab hbn) dL_appliedNode_7 zy_X6_appliedNode zm_L_138 rfl rfl rfl rfl (Nat.le_of_ble_eq_true rfl) (by decide) (by decide)) (zlen2 14 rfl rfl) ?_
  refine Z.heap (WL_q S X R T P TU q G TN fo).symm ?_
  refine z_i2l dL_appliedNode_10 ?_
  refine z_lastW dL_appliedNode_11 ?_
  refine z_goto (tgt := 23) dL_appliedNode_12 (by decide) ?_
  refine z_iconst (v := 0) dL_appliedNode_23 rfl ?_
  exact z_iret dL_appliedNode_24 rfl rfl rfl rfl
theorem k_L_appliedNode_x1 (n : Nat) (x : Int32) (z : Int32) (p : Int32) (S : ZS) (X : ZS) (R : ZS) (T : TS) (hn : tn T = nI n) (h40 : n ≤ 40) (hx : ¬ (tIx T x ∧ tIx T z)) (P : ZS) (TU : TS) (q : Nat) (G : Nat → TS) (TN : TS) (fo : Nat → Int64) : zMW sc yL_appliedNode cL_appliedNode 6 (some .int) 11 1 6 [.ref 0, .int (x), .int (z), .int (p), .ref 115] (WL S X R T P TU q G TN fo) (some (.int 1)) (WL S X R T P TU q G TN fo) := by
  refine zMW.at (ls := [some (.ref 0), some (.int (x)), some (.int (z)), some (.int (p)), some (.ref 115), none]) (by decide +kernel) (Nat.le_of_ble_eq_true rfl) rfl ?_
  refine z_aload_4 dL_appliedNode_0 ?_
  refine z_iconst (v := 0) dL_appliedNode_2 rfl ?_
  refine z_aload_0 dL_appliedNode_3 ?_
  refine z_iload_1 dL_appliedNode_4 ?_
  refine z_iload_2 dL_appliedNode_5 ?_
  refine z_iload_3 dL_appliedNode_6 ?_
  refine WL_catch [] ⟨0, 12, 15, 19⟩ [⟨0, 12, 19, 13⟩] (zRun.V (ρ := fun i => i) (k_c_6_appliedNode_x1 n x z p S X R T hn h40 hx) dL_appliedNode_7 zy_X6_appliedNode zm_L_138 rfl rfl rfl rfl (Nat.le_of_ble_eq_true rfl) (by decide) (by decide)) (T9 := [(0, 12, 15, 19), (0, 12, 19, 13)]) (by decide +kernel) rfl ?_ (by decide) (by decide) zcl_L_19 zca_B (zbl_of rfl) ?_
  · exact fun z hz => absurd hz (List.not_mem_nil)
  show Z sc _ _ _ _ _ 0 0 15 _ _ _ _ _
  refine z_astore_5 dL_appliedNode_15 rfl (by decide) ?_
  refine z_iconst (v := 1) dL_appliedNode_17 rfl ?_
  exact z_iret dL_appliedNode_18 rfl rfl rfl rfl
theorem k_L_appliedNode_x2 (n : Nat) (x : Int32) (z : Int32) (p : Int32) (S : ZS) (X : ZS) (R : ZS) (T : TS) (hn : tn T = nI n) (h40 : n ≤ 40) (hx : tIx T x) (hz : tIx T z) (hzx : z < x) (P : ZS) (TU : TS) (q : Nat) (G : Nat → TS) (TN : TS) (fo : Nat → Int64) : zMW sc yL_appliedNode cL_appliedNode 6 (some .int) 11 1 6 [.ref 0, .int (x), .int (z), .int (p), .ref 115] (WL S X R T P TU q G TN fo) (some (.int 2)) (WL S X R T P TU q G TN fo) := by
  refine zMW.at (ls := [some (.ref 0), some (.int (x)), some (.int (z)), some (.int (p)), some (.ref 115), none]) (by decide +kernel) (Nat.le_of_ble_eq_true rfl) rfl ?_
  refine z_aload_4 dL_appliedNode_0 ?_
  refine z_iconst (v := 0) dL_appliedNode_2 rfl ?_
  refine z_aload_0 dL_appliedNode_3 ?_
  refine z_iload_1 dL_appliedNode_4 ?_
  refine z_iload_2 dL_appliedNode_5 ?_
  refine z_iload_3 dL_appliedNode_6 ?_
  refine WL_catch [⟨0, 12, 15, 19⟩] ⟨0, 12, 19, 13⟩ [] (zRun.V (ρ := fun i => i) (k_c_6_appliedNode_x2 n x z p S X R T hn h40 hx hz hzx) dL_appliedNode_7 zy_X6_appliedNode zm_L_138 rfl rfl rfl rfl (Nat.le_of_ble_eq_true rfl) (by decide) (by decide)) (T9 := [(0, 12, 15, 19), (0, 12, 19, 13)]) (by decide +kernel) rfl ?_ (by decide) (by decide) zcl_L_13 zca_A (zbl_of rfl) ?_
  · intro z hz
    cases List.mem_singleton.mp hz
    exact zcat_b (y := yL_appliedNode) (by decide) zcl_L_19 (fun _ _ _ h => h.2.2.2.2.2.2.1)
  show Z sc _ _ _ _ _ 0 0 19 _ _ _ _ _
  refine z_astore_5 dL_appliedNode_19 rfl (by decide) ?_
  refine z_iconst (v := 2) dL_appliedNode_21 rfl ?_
  exact z_iret dL_appliedNode_22 rfl rfl rfl rfl
theorem k_L_visitedFor (n : Nat) (a : Nat) (b : Nat) (S : ZS) (X : ZS) (R : ZS) (T : TS) (hn : tn T = nI n) (h40 : n ≤ 40) (hab : a ≤ b) (hbn : b < n) (P : ZS) (TU : TS) (q : Nat) (G : Nat → TS) (TN : TS) (fo : Nat → Int64) : zMW sc yL_visitedFor cL_visitedFor 5 (some .int) 4 0 0 [.ref 0, .int (nI (a)), .int (nI (b)), .ref 115] (WL S X R T P TU q G TN fo) (some (.int 0)) (WL S X R T P TU q G TN (vp_updL fo 0 ((g_c_6_visitedFor n a b S X R T).toInt64))) := by
  refine zMW.at (ls := [some (.ref 0), some (.int (nI (a))), some (.int (nI (b))), some (.ref 115), none]) (by decide +kernel) (Nat.le_of_ble_eq_true rfl) rfl ?_
  refine z_aload_3 dL_visitedFor_0 ?_
  refine z_iconst (v := 0) dL_visitedFor_1 rfl ?_
  refine z_aload_0 dL_visitedFor_2 ?_
  refine z_iload_1 dL_visitedFor_3 ?_
  refine z_iload_2 dL_visitedFor_4 ?_
  refine Z.heap (WL_q S X R T P TU q G TN fo) ?_
  refine Z.callPs (zRun.V (ρ := fun i => i) (k_c_6_visitedFor n a b S X R T hn h40 hab hbn) dL_visitedFor_5 zy_X6_visitedFor zm_L_141 rfl rfl rfl rfl (Nat.le_of_ble_eq_true rfl) (by decide) (by decide)) (zlen2 14 rfl rfl) ?_
  refine Z.heap (WL_q S X R T P TU q G TN fo).symm ?_
  refine z_i2l dL_visitedFor_8 ?_
  refine z_lastW dL_visitedFor_9 ?_
  refine z_goto (tgt := 21) dL_visitedFor_10 (by decide) ?_
  refine z_iconst (v := 0) dL_visitedFor_21 rfl ?_
  exact z_iret dL_visitedFor_22 rfl rfl rfl rfl
theorem k_L_visitedFor_x1 (n : Nat) (x : Int32) (z : Int32) (S : ZS) (X : ZS) (R : ZS) (T : TS) (hn : tn T = nI n) (h40 : n ≤ 40) (hx : ¬ (tIx T x ∧ tIx T z)) (P : ZS) (TU : TS) (q : Nat) (G : Nat → TS) (TN : TS) (fo : Nat → Int64) : zMW sc yL_visitedFor cL_visitedFor 5 (some .int) 11 1 6 [.ref 0, .int (x), .int (z), .ref 115] (WL S X R T P TU q G TN fo) (some (.int 1)) (WL S X R T P TU q G TN fo) := by
  refine zMW.at (ls := [some (.ref 0), some (.int (x)), some (.int (z)), some (.ref 115), none]) (by decide +kernel) (Nat.le_of_ble_eq_true rfl) rfl ?_
  refine z_aload_3 dL_visitedFor_0 ?_
  refine z_iconst (v := 0) dL_visitedFor_1 rfl ?_
  refine z_aload_0 dL_visitedFor_2 ?_
  refine z_iload_1 dL_visitedFor_3 ?_
  refine z_iload_2 dL_visitedFor_4 ?_
  refine WL_catch [] ⟨0, 10, 13, 19⟩ [⟨0, 10, 17, 13⟩] (zRun.V (ρ := fun i => i) (k_c_6_visitedFor_x1 n x z S X R T hn h40 hx) dL_visitedFor_5 zy_X6_visitedFor zm_L_141 rfl rfl rfl rfl (Nat.le_of_ble_eq_true rfl) (by decide) (by decide)) (T9 := [(0, 10, 13, 19), (0, 10, 17, 13)]) (by decide +kernel) rfl ?_ (by decide) (by decide) zcl_L_19 zca_B (zbl_of rfl) ?_
  · exact fun z hz => absurd hz (List.not_mem_nil)
  show Z sc _ _ _ _ _ 0 0 13 _ _ _ _ _
  refine z_astore_4 dL_visitedFor_13 rfl (by decide) ?_
  refine z_iconst (v := 1) dL_visitedFor_15 rfl ?_
  exact z_iret dL_visitedFor_16 rfl rfl rfl rfl
theorem k_L_visitedFor_x2 (n : Nat) (x : Int32) (z : Int32) (S : ZS) (X : ZS) (R : ZS) (T : TS) (hn : tn T = nI n) (h40 : n ≤ 40) (hx : tIx T x) (hz : tIx T z) (hzx : z < x) (P : ZS) (TU : TS) (q : Nat) (G : Nat → TS) (TN : TS) (fo : Nat → Int64) : zMW sc yL_visitedFor cL_visitedFor 5 (some .int) 11 1 6 [.ref 0, .int (x), .int (z), .ref 115] (WL S X R T P TU q G TN fo) (some (.int 2)) (WL S X R T P TU q G TN fo) := by
  refine zMW.at (ls := [some (.ref 0), some (.int (x)), some (.int (z)), some (.ref 115), none]) (by decide +kernel) (Nat.le_of_ble_eq_true rfl) rfl ?_
  refine z_aload_3 dL_visitedFor_0 ?_
  refine z_iconst (v := 0) dL_visitedFor_1 rfl ?_
  refine z_aload_0 dL_visitedFor_2 ?_
  refine z_iload_1 dL_visitedFor_3 ?_
  refine z_iload_2 dL_visitedFor_4 ?_
  refine WL_catch [⟨0, 10, 13, 19⟩] ⟨0, 10, 17, 13⟩ [] (zRun.V (ρ := fun i => i) (k_c_6_visitedFor_x2 n x z S X R T hn h40 hx hz hzx) dL_visitedFor_5 zy_X6_visitedFor zm_L_141 rfl rfl rfl rfl (Nat.le_of_ble_eq_true rfl) (by decide) (by decide)) (T9 := [(0, 10, 13, 19), (0, 10, 17, 13)]) (by decide +kernel) rfl ?_ (by decide) (by decide) zcl_L_13 zca_A (zbl_of rfl) ?_
  · intro z hz
    cases List.mem_singleton.mp hz
    exact zcat_b (y := yL_visitedFor) (by decide) zcl_L_19 (fun _ _ _ h => h.2.2.2.2.2.2.1)
  show Z sc _ _ _ _ _ 0 0 17 _ _ _ _ _
  refine z_astore_4 dL_visitedFor_17 rfl (by decide) ?_
  refine z_iconst (v := 2) dL_visitedFor_19 rfl ?_
  exact z_iret dL_visitedFor_20 rfl rfl rfl rfl
theorem k_L_pushesFor (n : Nat) (a : Nat) (b : Nat) (S : ZS) (X : ZS) (R : ZS) (T : TS) (hn : tn T = nI n) (h40 : n ≤ 40) (hab : a ≤ b) (hbn : b < n) (P : ZS) (TU : TS) (q : Nat) (G : Nat → TS) (TN : TS) (fo : Nat → Int64) : zMW sc yL_pushesFor cL_pushesFor 5 (some .int) 4 0 0 [.ref 0, .int (nI (a)), .int (nI (b)), .ref 115] (WL S X R T P TU q G TN fo) (some (.int 0)) (WL S X R T P TU q G TN (vp_updL fo 0 ((g_c_6_pushesFor n a b S X R T).toInt64))) := by
  refine zMW.at (ls := [some (.ref 0), some (.int (nI (a))), some (.int (nI (b))), some (.ref 115), none]) (by decide +kernel) (Nat.le_of_ble_eq_true rfl) rfl ?_
  refine z_aload_3 dL_pushesFor_0 ?_
  refine z_iconst (v := 0) dL_pushesFor_1 rfl ?_
  refine z_aload_0 dL_pushesFor_2 ?_
  refine z_iload_1 dL_pushesFor_3 ?_
  refine z_iload_2 dL_pushesFor_4 ?_
  refine Z.heap (WL_q S X R T P TU q G TN fo) ?_
  refine Z.callPs (zRun.V (ρ := fun i => i) (k_c_6_pushesFor n a b S X R T hn h40 hab hbn) dL_pushesFor_5 zy_X6_pushesFor zm_L_144 rfl rfl rfl rfl (Nat.le_of_ble_eq_true rfl) (by decide) (by decide)) (zlen2 14 rfl rfl) ?_
  refine Z.heap (WL_q S X R T P TU q G TN fo).symm ?_
  refine z_i2l dL_pushesFor_8 ?_
  refine z_lastW dL_pushesFor_9 ?_
  refine z_goto (tgt := 21) dL_pushesFor_10 (by decide) ?_
  refine z_iconst (v := 0) dL_pushesFor_21 rfl ?_
  exact z_iret dL_pushesFor_22 rfl rfl rfl rfl
theorem k_L_pushesFor_x1 (n : Nat) (x : Int32) (z : Int32) (S : ZS) (X : ZS) (R : ZS) (T : TS) (hn : tn T = nI n) (h40 : n ≤ 40) (hx : ¬ (tIx T x ∧ tIx T z)) (P : ZS) (TU : TS) (q : Nat) (G : Nat → TS) (TN : TS) (fo : Nat → Int64) : zMW sc yL_pushesFor cL_pushesFor 5 (some .int) 11 1 6 [.ref 0, .int (x), .int (z), .ref 115] (WL S X R T P TU q G TN fo) (some (.int 1)) (WL S X R T P TU q G TN fo) := by
  refine zMW.at (ls := [some (.ref 0), some (.int (x)), some (.int (z)), some (.ref 115), none]) (by decide +kernel) (Nat.le_of_ble_eq_true rfl) rfl ?_
  refine z_aload_3 dL_pushesFor_0 ?_
  refine z_iconst (v := 0) dL_pushesFor_1 rfl ?_
  refine z_aload_0 dL_pushesFor_2 ?_
  refine z_iload_1 dL_pushesFor_3 ?_
  refine z_iload_2 dL_pushesFor_4 ?_
  refine WL_catch [] ⟨0, 10, 13, 19⟩ [⟨0, 10, 17, 13⟩] (zRun.V (ρ := fun i => i) (k_c_6_pushesFor_x1 n x z S X R T hn h40 hx) dL_pushesFor_5 zy_X6_pushesFor zm_L_144 rfl rfl rfl rfl (Nat.le_of_ble_eq_true rfl) (by decide) (by decide)) (T9 := [(0, 10, 13, 19), (0, 10, 17, 13)]) (by decide +kernel) rfl ?_ (by decide) (by decide) zcl_L_19 zca_B (zbl_of rfl) ?_
  · exact fun z hz => absurd hz (List.not_mem_nil)
  show Z sc _ _ _ _ _ 0 0 13 _ _ _ _ _
  refine z_astore_4 dL_pushesFor_13 rfl (by decide) ?_
  refine z_iconst (v := 1) dL_pushesFor_15 rfl ?_
  exact z_iret dL_pushesFor_16 rfl rfl rfl rfl
theorem k_L_pushesFor_x2 (n : Nat) (x : Int32) (z : Int32) (S : ZS) (X : ZS) (R : ZS) (T : TS) (hn : tn T = nI n) (h40 : n ≤ 40) (hx : tIx T x) (hz : tIx T z) (hzx : z < x) (P : ZS) (TU : TS) (q : Nat) (G : Nat → TS) (TN : TS) (fo : Nat → Int64) : zMW sc yL_pushesFor cL_pushesFor 5 (some .int) 11 1 6 [.ref 0, .int (x), .int (z), .ref 115] (WL S X R T P TU q G TN fo) (some (.int 2)) (WL S X R T P TU q G TN fo) := by
  refine zMW.at (ls := [some (.ref 0), some (.int (x)), some (.int (z)), some (.ref 115), none]) (by decide +kernel) (Nat.le_of_ble_eq_true rfl) rfl ?_
  refine z_aload_3 dL_pushesFor_0 ?_
  refine z_iconst (v := 0) dL_pushesFor_1 rfl ?_
  refine z_aload_0 dL_pushesFor_2 ?_
  refine z_iload_1 dL_pushesFor_3 ?_
  refine z_iload_2 dL_pushesFor_4 ?_
  refine WL_catch [⟨0, 10, 13, 19⟩] ⟨0, 10, 17, 13⟩ [] (zRun.V (ρ := fun i => i) (k_c_6_pushesFor_x2 n x z S X R T hn h40 hx hz hzx) dL_pushesFor_5 zy_X6_pushesFor zm_L_144 rfl rfl rfl rfl (Nat.le_of_ble_eq_true rfl) (by decide) (by decide)) (T9 := [(0, 10, 13, 19), (0, 10, 17, 13)]) (by decide +kernel) rfl ?_ (by decide) (by decide) zcl_L_13 zca_A (zbl_of rfl) ?_
  · intro z hz
    cases List.mem_singleton.mp hz
    exact zcat_b (y := yL_pushesFor) (by decide) zcl_L_19 (fun _ _ _ h => h.2.2.2.2.2.2.1)
  show Z sc _ _ _ _ _ 0 0 17 _ _ _ _ _
  refine z_astore_4 dL_pushesFor_17 rfl (by decide) ?_
  refine z_iconst (v := 2) dL_pushesFor_19 rfl ?_
  exact z_iret dL_pushesFor_20 rfl rfl rfl rfl
theorem k_L_canAdd (n : Nat) (a : Nat) (b : Nat) (v : Int32) (S : ZS) (X : ZS) (R : ZS) (T : TS) (hn : tn T = nI n) (h40 : n ≤ 40) (hab : a ≤ b) (hbn : b < n) (hv : -9999 ≤ v ∧ v ≤ 9999) (P : ZS) (TU : TS) (q : Nat) (G : Nat → TS) (TN : TS) (fo : Nat → Int64) : zMW sc yL_canAdd cL_canAdd 6 (some .int) 4 0 0 [.ref 0, .int (nI (a)), .int (nI (b)), .int (v), .ref 115] (WL S X R T P TU q G TN fo) (some (.int 0)) (WL S X R T P TU q G TN (vp_updL fo 0 (if (g_c_6_canAdd n a b v S X R T) = true then 1 else 0))) := by
  refine zMW.at (ls := [some (.ref 0), some (.int (nI (a))), some (.int (nI (b))), some (.int (v)), some (.ref 115), none]) (by decide +kernel) (Nat.le_of_ble_eq_true rfl) rfl ?_
  refine z_aload_4 dL_canAdd_0 ?_
  refine z_iconst (v := 0) dL_canAdd_2 rfl ?_
  refine z_aload_0 dL_canAdd_3 ?_
  refine z_iload_1 dL_canAdd_4 ?_
  refine z_iload_2 dL_canAdd_5 ?_
  refine z_iload_3 dL_canAdd_6 ?_
  refine Z.heap (WL_q S X R T P TU q G TN fo) ?_
  refine Z.callPs (zRun.V (ρ := fun i => i) (k_c_6_canAdd n a b v S X R T hn h40 hab hbn hv) dL_canAdd_7 zy_X6_canAdd zm_L_147 rfl rfl rfl rfl (Nat.le_of_ble_eq_true rfl) (by decide) (by decide)) (zlen2 14 rfl rfl) ?_
  refine Z.heap (WL_q S X R T P TU q G TN fo).symm ?_
  refine z_ifB_eq (tgt := 17) dL_canAdd_10 (by decide) (fun c9 => ?_) (fun c9 => ?_)
  · rw [if_neg c9]
    refine z_lconst (v := 0) dL_canAdd_17 rfl ?_
    refine z_lastW dL_canAdd_18 ?_
    refine z_goto (tgt := 30) dL_canAdd_19 (by decide) ?_
    refine z_iconst (v := 0) dL_canAdd_30 rfl ?_
    exact z_iret dL_canAdd_31 rfl rfl rfl rfl
  · rw [if_pos c9]
    refine z_lconst (v := 1) dL_canAdd_13 rfl ?_
    refine z_goto (tgt := 18) dL_canAdd_14 (by decide) ?_
    refine z_lastW dL_canAdd_18 ?_
    refine z_goto (tgt := 30) dL_canAdd_19 (by decide) ?_
    refine z_iconst (v := 0) dL_canAdd_30 rfl ?_
    exact z_iret dL_canAdd_31 rfl rfl rfl rfl
theorem k_L_canAdd_x1 (n : Nat) (x : Int32) (z : Int32) (v : Int32) (S : ZS) (X : ZS) (R : ZS) (T : TS) (hn : tn T = nI n) (h40 : n ≤ 40) (hx : ¬ (tIx T x ∧ tIx T z)) (P : ZS) (TU : TS) (q : Nat) (G : Nat → TS) (TN : TS) (fo : Nat → Int64) : zMW sc yL_canAdd cL_canAdd 6 (some .int) 11 1 6 [.ref 0, .int (x), .int (z), .int (v), .ref 115] (WL S X R T P TU q G TN fo) (some (.int 1)) (WL S X R T P TU q G TN fo) := by
  refine zMW.at (ls := [some (.ref 0), some (.int (x)), some (.int (z)), some (.int (v)), some (.ref 115), none]) (by decide +kernel) (Nat.le_of_ble_eq_true rfl) rfl ?_
  refine z_aload_4 dL_canAdd_0 ?_
  refine z_iconst (v := 0) dL_canAdd_2 rfl ?_
  refine z_aload_0 dL_canAdd_3 ?_
  refine z_iload_1 dL_canAdd_4 ?_
  refine z_iload_2 dL_canAdd_5 ?_
  refine z_iload_3 dL_canAdd_6 ?_
  refine WL_catch [] ⟨0, 19, 22, 19⟩ [⟨0, 19, 26, 13⟩] (zRun.V (ρ := fun i => i) (k_c_6_canAdd_x1 n x z v S X R T hn h40 hx) dL_canAdd_7 zy_X6_canAdd zm_L_147 rfl rfl rfl rfl (Nat.le_of_ble_eq_true rfl) (by decide) (by decide)) (T9 := [(0, 19, 22, 19), (0, 19, 26, 13)]) (by decide +kernel) rfl ?_ (by decide) (by decide) zcl_L_19 zca_B (zbl_of rfl) ?_
  · exact fun z hz => absurd hz (List.not_mem_nil)
  show Z sc _ _ _ _ _ 0 0 22 _ _ _ _ _
  refine z_astore_5 dL_canAdd_22 rfl (by decide) ?_
  refine z_iconst (v := 1) dL_canAdd_24 rfl ?_
  exact z_iret dL_canAdd_25 rfl rfl rfl rfl
theorem k_L_canAdd_x2 (n : Nat) (x : Int32) (z : Int32) (v : Int32) (S : ZS) (X : ZS) (R : ZS) (T : TS) (hn : tn T = nI n) (h40 : n ≤ 40) (hx : tIx T x) (hz : tIx T z) (hzx : z < x) (P : ZS) (TU : TS) (q : Nat) (G : Nat → TS) (TN : TS) (fo : Nat → Int64) : zMW sc yL_canAdd cL_canAdd 6 (some .int) 11 1 6 [.ref 0, .int (x), .int (z), .int (v), .ref 115] (WL S X R T P TU q G TN fo) (some (.int 2)) (WL S X R T P TU q G TN fo) := by
  refine zMW.at (ls := [some (.ref 0), some (.int (x)), some (.int (z)), some (.int (v)), some (.ref 115), none]) (by decide +kernel) (Nat.le_of_ble_eq_true rfl) rfl ?_
  refine z_aload_4 dL_canAdd_0 ?_
  refine z_iconst (v := 0) dL_canAdd_2 rfl ?_
  refine z_aload_0 dL_canAdd_3 ?_
  refine z_iload_1 dL_canAdd_4 ?_
  refine z_iload_2 dL_canAdd_5 ?_
  refine z_iload_3 dL_canAdd_6 ?_
  refine WL_catch [⟨0, 19, 22, 19⟩] ⟨0, 19, 26, 13⟩ [] (zRun.V (ρ := fun i => i) (k_c_6_canAdd_x2 n x z v S X R T hn h40 hx hz hzx) dL_canAdd_7 zy_X6_canAdd zm_L_147 rfl rfl rfl rfl (Nat.le_of_ble_eq_true rfl) (by decide) (by decide)) (T9 := [(0, 19, 22, 19), (0, 19, 26, 13)]) (by decide +kernel) rfl ?_ (by decide) (by decide) zcl_L_13 zca_A (zbl_of rfl) ?_
  · intro z hz
    cases List.mem_singleton.mp hz
    exact zcat_b (y := yL_canAdd) (by decide) zcl_L_19 (fun _ _ _ h => h.2.2.2.2.2.2.1)
  show Z sc _ _ _ _ _ 0 0 26 _ _ _ _ _
  refine z_astore_5 dL_canAdd_26 rfl (by decide) ?_
  refine z_iconst (v := 2) dL_canAdd_28 rfl ?_
  exact z_iret dL_canAdd_29 rfl rfl rfl rfl
theorem k_L_canAdd_x3 (n : Nat) (a : Nat) (b : Nat) (v : Int32) (S : ZS) (X : ZS) (R : ZS) (T : TS) (hn : tn T = nI n) (h40 : n ≤ 40) (hab : a ≤ b) (hbn : b < n) (hv : ¬ (-9999 ≤ v ∧ v ≤ 9999)) (P : ZS) (TU : TS) (q : Nat) (G : Nat → TS) (TN : TS) (fo : Nat → Int64) : zMW sc yL_canAdd cL_canAdd 6 (some .int) 10 1 6 [.ref 0, .int (nI (a)), .int (nI (b)), .int (v), .ref 115] (WL S X R T P TU q G TN fo) (some (.int 2)) (WL S X R T P TU q G TN fo) := by
  refine zMW.at (ls := [some (.ref 0), some (.int (nI (a))), some (.int (nI (b))), some (.int (v)), some (.ref 115), none]) (by decide +kernel) (Nat.le_of_ble_eq_true rfl) rfl ?_
  refine z_aload_4 dL_canAdd_0 ?_
  refine z_iconst (v := 0) dL_canAdd_2 rfl ?_
  refine z_aload_0 dL_canAdd_3 ?_
  refine z_iload_1 dL_canAdd_4 ?_
  refine z_iload_2 dL_canAdd_5 ?_
  refine z_iload_3 dL_canAdd_6 ?_
  refine WL_catch [⟨0, 19, 22, 19⟩] ⟨0, 19, 26, 13⟩ [] (zRun.V (ρ := fun i => i) (k_c_6_canAdd_x3 n a b v S X R T hn h40 hab hbn hv) dL_canAdd_7 zy_X6_canAdd zm_L_147 rfl rfl rfl rfl (Nat.le_of_ble_eq_true rfl) (by decide) (by decide)) (T9 := [(0, 19, 22, 19), (0, 19, 26, 13)]) (by decide +kernel) rfl ?_ (by decide) (by decide) zcl_L_13 zca_A (zbl_of rfl) ?_
  · intro z hz
    cases List.mem_singleton.mp hz
    exact zcat_b (y := yL_canAdd) (by decide) zcl_L_19 (fun _ _ _ h => h.2.2.2.2.2.2.1)
  show Z sc _ _ _ _ _ 0 0 26 _ _ _ _ _
  refine z_astore_5 dL_canAdd_26 rfl (by decide) ?_
  refine z_iconst (v := 2) dL_canAdd_28 rfl ?_
  exact z_iret dL_canAdd_29 rfl rfl rfl rfl
theorem k_L_greatestAddition (n : Nat) (a : Nat) (b : Nat) (S : ZS) (X : ZS) (R : ZS) (T : TS) (hn : tn T = nI n) (h40 : n ≤ 40) (hab : a ≤ b) (hbn : b < n) (P : ZS) (TU : TS) (q : Nat) (G : Nat → TS) (TN : TS) (fo : Nat → Int64) : zMW sc yL_greatestAddition cL_greatestAddition 5 (some .int) 4 0 0 [.ref 0, .int (nI (a)), .int (nI (b)), .ref 115] (WL S X R T P TU q G TN fo) (some (.int 0)) (WL S X R T P TU q G TN (vp_updL fo 0 ((g_c_6_greatestAddition n a b S X R T).toInt64))) := by
  refine zMW.at (ls := [some (.ref 0), some (.int (nI (a))), some (.int (nI (b))), some (.ref 115), none]) (by decide +kernel) (Nat.le_of_ble_eq_true rfl) rfl ?_
  refine z_aload_3 dL_greatestAddition_0 ?_
  refine z_iconst (v := 0) dL_greatestAddition_1 rfl ?_
  refine z_aload_0 dL_greatestAddition_2 ?_
  refine z_iload_1 dL_greatestAddition_3 ?_
  refine z_iload_2 dL_greatestAddition_4 ?_
  refine Z.heap (WL_q S X R T P TU q G TN fo) ?_
  refine Z.callPs (zRun.V (ρ := fun i => i) (k_c_6_greatestAddition n a b S X R T hn h40 hab hbn) dL_greatestAddition_5 zy_X6_greatestAddition zm_L_151 rfl rfl rfl rfl (Nat.le_of_ble_eq_true rfl) (by decide) (by decide)) (zlen2 14 rfl rfl) ?_
  refine Z.heap (WL_q S X R T P TU q G TN fo).symm ?_
  refine z_i2l dL_greatestAddition_8 ?_
  refine z_lastW dL_greatestAddition_9 ?_
  refine z_goto (tgt := 21) dL_greatestAddition_10 (by decide) ?_
  refine z_iconst (v := 0) dL_greatestAddition_21 rfl ?_
  exact z_iret dL_greatestAddition_22 rfl rfl rfl rfl
theorem k_L_greatestAddition_x1 (n : Nat) (x : Int32) (z : Int32) (S : ZS) (X : ZS) (R : ZS) (T : TS) (hn : tn T = nI n) (h40 : n ≤ 40) (hx : ¬ (tIx T x ∧ tIx T z)) (P : ZS) (TU : TS) (q : Nat) (G : Nat → TS) (TN : TS) (fo : Nat → Int64) : zMW sc yL_greatestAddition cL_greatestAddition 5 (some .int) 11 1 6 [.ref 0, .int (x), .int (z), .ref 115] (WL S X R T P TU q G TN fo) (some (.int 1)) (WL S X R T P TU q G TN fo) := by
  refine zMW.at (ls := [some (.ref 0), some (.int (x)), some (.int (z)), some (.ref 115), none]) (by decide +kernel) (Nat.le_of_ble_eq_true rfl) rfl ?_
  refine z_aload_3 dL_greatestAddition_0 ?_
  refine z_iconst (v := 0) dL_greatestAddition_1 rfl ?_
  refine z_aload_0 dL_greatestAddition_2 ?_
  refine z_iload_1 dL_greatestAddition_3 ?_
  refine z_iload_2 dL_greatestAddition_4 ?_
  refine WL_catch [] ⟨0, 10, 13, 19⟩ [⟨0, 10, 17, 13⟩] (zRun.V (ρ := fun i => i) (k_c_6_greatestAddition_x1 n x z S X R T hn h40 hx) dL_greatestAddition_5 zy_X6_greatestAddition zm_L_151 rfl rfl rfl rfl (Nat.le_of_ble_eq_true rfl) (by decide) (by decide)) (T9 := [(0, 10, 13, 19), (0, 10, 17, 13)]) (by decide +kernel) rfl ?_ (by decide) (by decide) zcl_L_19 zca_B (zbl_of rfl) ?_
  · exact fun z hz => absurd hz (List.not_mem_nil)
  show Z sc _ _ _ _ _ 0 0 13 _ _ _ _ _
  refine z_astore_4 dL_greatestAddition_13 rfl (by decide) ?_
  refine z_iconst (v := 1) dL_greatestAddition_15 rfl ?_
  exact z_iret dL_greatestAddition_16 rfl rfl rfl rfl
theorem k_L_greatestAddition_x2 (n : Nat) (x : Int32) (z : Int32) (S : ZS) (X : ZS) (R : ZS) (T : TS) (hn : tn T = nI n) (h40 : n ≤ 40) (hx : tIx T x) (hz : tIx T z) (hzx : z < x) (P : ZS) (TU : TS) (q : Nat) (G : Nat → TS) (TN : TS) (fo : Nat → Int64) : zMW sc yL_greatestAddition cL_greatestAddition 5 (some .int) 11 1 6 [.ref 0, .int (x), .int (z), .ref 115] (WL S X R T P TU q G TN fo) (some (.int 2)) (WL S X R T P TU q G TN fo) := by
  refine zMW.at (ls := [some (.ref 0), some (.int (x)), some (.int (z)), some (.ref 115), none]) (by decide +kernel) (Nat.le_of_ble_eq_true rfl) rfl ?_
  refine z_aload_3 dL_greatestAddition_0 ?_
  refine z_iconst (v := 0) dL_greatestAddition_1 rfl ?_
  refine z_aload_0 dL_greatestAddition_2 ?_
  refine z_iload_1 dL_greatestAddition_3 ?_
  refine z_iload_2 dL_greatestAddition_4 ?_
  refine WL_catch [⟨0, 10, 13, 19⟩] ⟨0, 10, 17, 13⟩ [] (zRun.V (ρ := fun i => i) (k_c_6_greatestAddition_x2 n x z S X R T hn h40 hx hz hzx) dL_greatestAddition_5 zy_X6_greatestAddition zm_L_151 rfl rfl rfl rfl (Nat.le_of_ble_eq_true rfl) (by decide) (by decide)) (T9 := [(0, 10, 13, 19), (0, 10, 17, 13)]) (by decide +kernel) rfl ?_ (by decide) (by decide) zcl_L_13 zca_A (zbl_of rfl) ?_
  · intro z hz
    cases List.mem_singleton.mp hz
    exact zcat_b (y := yL_greatestAddition) (by decide) zcl_L_19 (fun _ _ _ h => h.2.2.2.2.2.2.1)
  show Z sc _ _ _ _ _ 0 0 17 _ _ _ _ _
  refine z_astore_4 dL_greatestAddition_17 rfl (by decide) ?_
  refine z_iconst (v := 2) dL_greatestAddition_19 rfl ?_
  exact z_iret dL_greatestAddition_20 rfl rfl rfl rfl
theorem k_L_totalIfAssigned (n : Nat) (a : Nat) (b : Nat) (v : Int32) (S : ZS) (X : ZS) (R : ZS) (T : TS) (hn : tn T = nI n) (h40 : n ≤ 40) (hab : a ≤ b) (hbn : b < n) (hv : -9999 ≤ v ∧ v ≤ 9999) (P : ZS) (TU : TS) (q : Nat) (G : Nat → TS) (TN : TS) (fo : Nat → Int64) : zMW sc yL_totalIfAssigned cL_totalIfAssigned 6 (some .int) 4 0 0 [.ref 0, .int (nI (a)), .int (nI (b)), .int (v), .ref 115] (WL S X R T P TU q G TN fo) (some (.int 0)) (WL S X R T P TU q G TN (vp_updL fo 0 (g_c_6_totalIfAssigned n a b v S X R T))) := by
  refine zMW.at (ls := [some (.ref 0), some (.int (nI (a))), some (.int (nI (b))), some (.int (v)), some (.ref 115), none]) (by decide +kernel) (Nat.le_of_ble_eq_true rfl) rfl ?_
  refine z_aload_4 dL_totalIfAssigned_0 ?_
  refine z_iconst (v := 0) dL_totalIfAssigned_2 rfl ?_
  refine z_aload_0 dL_totalIfAssigned_3 ?_
  refine z_iload_1 dL_totalIfAssigned_4 ?_
  refine z_iload_2 dL_totalIfAssigned_5 ?_
  refine z_iload_3 dL_totalIfAssigned_6 ?_
  refine Z.heap (WL_q S X R T P TU q G TN fo) ?_
  refine Z.callPs (zRun.V (ρ := fun i => i) (k_c_6_totalIfAssigned n a b v S X R T hn h40 hab hbn hv) dL_totalIfAssigned_7 zy_X6_totalIfAssigned zm_L_154 rfl rfl rfl rfl (Nat.le_of_ble_eq_true rfl) (by decide) (by decide)) (zlen2 14 rfl rfl) ?_
  refine Z.heap (WL_q S X R T P TU q G TN fo).symm ?_
  refine z_lastW dL_totalIfAssigned_10 ?_
  refine z_goto (tgt := 22) dL_totalIfAssigned_11 (by decide) ?_
  refine z_iconst (v := 0) dL_totalIfAssigned_22 rfl ?_
  exact z_iret dL_totalIfAssigned_23 rfl rfl rfl rfl
theorem k_L_totalIfAssigned_x1 (n : Nat) (x : Int32) (z : Int32) (v : Int32) (S : ZS) (X : ZS) (R : ZS) (T : TS) (hn : tn T = nI n) (h40 : n ≤ 40) (hx : ¬ (tIx T x ∧ tIx T z)) (P : ZS) (TU : TS) (q : Nat) (G : Nat → TS) (TN : TS) (fo : Nat → Int64) : zMW sc yL_totalIfAssigned cL_totalIfAssigned 6 (some .int) 11 1 6 [.ref 0, .int (x), .int (z), .int (v), .ref 115] (WL S X R T P TU q G TN fo) (some (.int 1)) (WL S X R T P TU q G TN fo) := by
  refine zMW.at (ls := [some (.ref 0), some (.int (x)), some (.int (z)), some (.int (v)), some (.ref 115), none]) (by decide +kernel) (Nat.le_of_ble_eq_true rfl) rfl ?_
  refine z_aload_4 dL_totalIfAssigned_0 ?_
  refine z_iconst (v := 0) dL_totalIfAssigned_2 rfl ?_
  refine z_aload_0 dL_totalIfAssigned_3 ?_
  refine z_iload_1 dL_totalIfAssigned_4 ?_
  refine z_iload_2 dL_totalIfAssigned_5 ?_
  refine z_iload_3 dL_totalIfAssigned_6 ?_
  refine WL_catch [] ⟨0, 11, 14, 19⟩ [⟨0, 11, 18, 13⟩] (zRun.V (ρ := fun i => i) (k_c_6_totalIfAssigned_x1 n x z v S X R T hn h40 hx) dL_totalIfAssigned_7 zy_X6_totalIfAssigned zm_L_154 rfl rfl rfl rfl (Nat.le_of_ble_eq_true rfl) (by decide) (by decide)) (T9 := [(0, 11, 14, 19), (0, 11, 18, 13)]) (by decide +kernel) rfl ?_ (by decide) (by decide) zcl_L_19 zca_B (zbl_of rfl) ?_
  · exact fun z hz => absurd hz (List.not_mem_nil)
  show Z sc _ _ _ _ _ 0 0 14 _ _ _ _ _
  refine z_astore_5 dL_totalIfAssigned_14 rfl (by decide) ?_
  refine z_iconst (v := 1) dL_totalIfAssigned_16 rfl ?_
  exact z_iret dL_totalIfAssigned_17 rfl rfl rfl rfl
theorem k_L_totalIfAssigned_x2 (n : Nat) (x : Int32) (z : Int32) (v : Int32) (S : ZS) (X : ZS) (R : ZS) (T : TS) (hn : tn T = nI n) (h40 : n ≤ 40) (hx : tIx T x) (hz : tIx T z) (hzx : z < x) (P : ZS) (TU : TS) (q : Nat) (G : Nat → TS) (TN : TS) (fo : Nat → Int64) : zMW sc yL_totalIfAssigned cL_totalIfAssigned 6 (some .int) 11 1 6 [.ref 0, .int (x), .int (z), .int (v), .ref 115] (WL S X R T P TU q G TN fo) (some (.int 2)) (WL S X R T P TU q G TN fo) := by
  refine zMW.at (ls := [some (.ref 0), some (.int (x)), some (.int (z)), some (.int (v)), some (.ref 115), none]) (by decide +kernel) (Nat.le_of_ble_eq_true rfl) rfl ?_
  refine z_aload_4 dL_totalIfAssigned_0 ?_
  refine z_iconst (v := 0) dL_totalIfAssigned_2 rfl ?_
  refine z_aload_0 dL_totalIfAssigned_3 ?_
  refine z_iload_1 dL_totalIfAssigned_4 ?_
  refine z_iload_2 dL_totalIfAssigned_5 ?_
  refine z_iload_3 dL_totalIfAssigned_6 ?_
  refine WL_catch [⟨0, 11, 14, 19⟩] ⟨0, 11, 18, 13⟩ [] (zRun.V (ρ := fun i => i) (k_c_6_totalIfAssigned_x2 n x z v S X R T hn h40 hx hz hzx) dL_totalIfAssigned_7 zy_X6_totalIfAssigned zm_L_154 rfl rfl rfl rfl (Nat.le_of_ble_eq_true rfl) (by decide) (by decide)) (T9 := [(0, 11, 14, 19), (0, 11, 18, 13)]) (by decide +kernel) rfl ?_ (by decide) (by decide) zcl_L_13 zca_A (zbl_of rfl) ?_
  · intro z hz
    cases List.mem_singleton.mp hz
    exact zcat_b (y := yL_totalIfAssigned) (by decide) zcl_L_19 (fun _ _ _ h => h.2.2.2.2.2.2.1)
  show Z sc _ _ _ _ _ 0 0 18 _ _ _ _ _
  refine z_astore_5 dL_totalIfAssigned_18 rfl (by decide) ?_
  refine z_iconst (v := 2) dL_totalIfAssigned_20 rfl ?_
  exact z_iret dL_totalIfAssigned_21 rfl rfl rfl rfl
theorem k_L_totalIfAssigned_x3 (n : Nat) (a : Nat) (b : Nat) (v : Int32) (S : ZS) (X : ZS) (R : ZS) (T : TS) (hn : tn T = nI n) (h40 : n ≤ 40) (hab : a ≤ b) (hbn : b < n) (hv : ¬ (-9999 ≤ v ∧ v ≤ 9999)) (P : ZS) (TU : TS) (q : Nat) (G : Nat → TS) (TN : TS) (fo : Nat → Int64) : zMW sc yL_totalIfAssigned cL_totalIfAssigned 6 (some .int) 10 1 6 [.ref 0, .int (nI (a)), .int (nI (b)), .int (v), .ref 115] (WL S X R T P TU q G TN fo) (some (.int 2)) (WL S X R T P TU q G TN fo) := by
  refine zMW.at (ls := [some (.ref 0), some (.int (nI (a))), some (.int (nI (b))), some (.int (v)), some (.ref 115), none]) (by decide +kernel) (Nat.le_of_ble_eq_true rfl) rfl ?_
  refine z_aload_4 dL_totalIfAssigned_0 ?_
  refine z_iconst (v := 0) dL_totalIfAssigned_2 rfl ?_
  refine z_aload_0 dL_totalIfAssigned_3 ?_
  refine z_iload_1 dL_totalIfAssigned_4 ?_
  refine z_iload_2 dL_totalIfAssigned_5 ?_
  refine z_iload_3 dL_totalIfAssigned_6 ?_
  refine WL_catch [⟨0, 11, 14, 19⟩] ⟨0, 11, 18, 13⟩ [] (zRun.V (ρ := fun i => i) (k_c_6_totalIfAssigned_x3 n a b v S X R T hn h40 hab hbn hv) dL_totalIfAssigned_7 zy_X6_totalIfAssigned zm_L_154 rfl rfl rfl rfl (Nat.le_of_ble_eq_true rfl) (by decide) (by decide)) (T9 := [(0, 11, 14, 19), (0, 11, 18, 13)]) (by decide +kernel) rfl ?_ (by decide) (by decide) zcl_L_13 zca_A (zbl_of rfl) ?_
  · intro z hz
    cases List.mem_singleton.mp hz
    exact zcat_b (y := yL_totalIfAssigned) (by decide) zcl_L_19 (fun _ _ _ h => h.2.2.2.2.2.2.1)
  show Z sc _ _ _ _ _ 0 0 18 _ _ _ _ _
  refine z_astore_5 dL_totalIfAssigned_18 rfl (by decide) ?_
  refine z_iconst (v := 2) dL_totalIfAssigned_20 rfl ?_
  exact z_iret dL_totalIfAssigned_21 rfl rfl rfl rfl
theorem k_L_writeRange (n : Nat) (a : Nat) (b : Nat) (S : ZS) (X : ZS) (R : ZS) (T : TS) (hn : tn T = nI n) (h40 : n ≤ 40) (hab : a ≤ b) (hbn : b < n) (he : ∀ i, i < n → tEl (tva T i)) (P : ZS) (TU : TS) (q : Nat) (G : Nat → TS) (TN : TS) (fo : Nat → Int64) : zMW sc yL_writeRange cL_writeRange 5 (some .int) 4 0 0 [.ref 0, .int (nI (a)), .int (nI (b)), .ref 115] (WL S X R T P TU q G TN fo) (some (.int 0)) (WL S X (g_c_6_writeRange n a b S X R T).2 T P TU q G TN (vp_updL fo 0 (((g_c_6_writeRange n a b S X R T).1).toInt64))) := by
  refine zMW.at (ls := [some (.ref 0), some (.int (nI (a))), some (.int (nI (b))), some (.ref 115), none]) (by decide +kernel) (Nat.le_of_ble_eq_true rfl) rfl ?_
  refine z_aload_3 dL_writeRange_0 ?_
  refine z_iconst (v := 0) dL_writeRange_1 rfl ?_
  refine z_aload_0 dL_writeRange_2 ?_
  refine z_iload_1 dL_writeRange_3 ?_
  refine z_iload_2 dL_writeRange_4 ?_
  refine Z.heap (WL_q S X R T P TU q G TN fo) ?_
  refine Z.callPs (zRun.V (ρ := fun i => i) (k_c_6_writeRange n a b S X R T hn h40 hab hbn he) dL_writeRange_5 zy_X6_writeRange zm_L_158 rfl rfl rfl rfl (Nat.le_of_ble_eq_true rfl) (by decide) (by decide)) (zlen2 14 rfl rfl) ?_
  refine Z.heap (WL_q S X ((g_c_6_writeRange n a b S X R T).2) T P TU q G TN fo).symm ?_
  refine z_i2l dL_writeRange_8 ?_
  refine z_lastW dL_writeRange_9 ?_
  refine z_goto (tgt := 21) dL_writeRange_10 (by decide) ?_
  refine z_iconst (v := 0) dL_writeRange_21 rfl ?_
  exact z_iret dL_writeRange_22 rfl rfl rfl rfl
theorem k_L_writeRange_x1 (n : Nat) (x : Int32) (z : Int32) (S : ZS) (X : ZS) (R : ZS) (T : TS) (hn : tn T = nI n) (h40 : n ≤ 40) (hx : ¬ (tIx T x ∧ tIx T z)) (P : ZS) (TU : TS) (q : Nat) (G : Nat → TS) (TN : TS) (fo : Nat → Int64) : zMW sc yL_writeRange cL_writeRange 5 (some .int) 11 1 6 [.ref 0, .int (x), .int (z), .ref 115] (WL S X R T P TU q G TN fo) (some (.int 1)) (WL S X R T P TU q G TN fo) := by
  refine zMW.at (ls := [some (.ref 0), some (.int (x)), some (.int (z)), some (.ref 115), none]) (by decide +kernel) (Nat.le_of_ble_eq_true rfl) rfl ?_
  refine z_aload_3 dL_writeRange_0 ?_
  refine z_iconst (v := 0) dL_writeRange_1 rfl ?_
  refine z_aload_0 dL_writeRange_2 ?_
  refine z_iload_1 dL_writeRange_3 ?_
  refine z_iload_2 dL_writeRange_4 ?_
  refine WL_catch [] ⟨0, 10, 13, 19⟩ [⟨0, 10, 17, 13⟩] (zRun.V (ρ := fun i => i) (k_c_6_writeRange_x1 n x z S X R T hn h40 hx) dL_writeRange_5 zy_X6_writeRange zm_L_158 rfl rfl rfl rfl (Nat.le_of_ble_eq_true rfl) (by decide) (by decide)) (T9 := [(0, 10, 13, 19), (0, 10, 17, 13)]) (by decide +kernel) rfl ?_ (by decide) (by decide) zcl_L_19 zca_B (zbl_of rfl) ?_
  · exact fun z hz => absurd hz (List.not_mem_nil)
  show Z sc _ _ _ _ _ 0 0 13 _ _ _ _ _
  refine z_astore_4 dL_writeRange_13 rfl (by decide) ?_
  refine z_iconst (v := 1) dL_writeRange_15 rfl ?_
  exact z_iret dL_writeRange_16 rfl rfl rfl rfl
theorem k_L_writeRange_x2 (n : Nat) (x : Int32) (z : Int32) (S : ZS) (X : ZS) (R : ZS) (T : TS) (hn : tn T = nI n) (h40 : n ≤ 40) (hx : tIx T x) (hz : tIx T z) (hzx : z < x) (P : ZS) (TU : TS) (q : Nat) (G : Nat → TS) (TN : TS) (fo : Nat → Int64) : zMW sc yL_writeRange cL_writeRange 5 (some .int) 11 1 6 [.ref 0, .int (x), .int (z), .ref 115] (WL S X R T P TU q G TN fo) (some (.int 2)) (WL S X R T P TU q G TN fo) := by
  refine zMW.at (ls := [some (.ref 0), some (.int (x)), some (.int (z)), some (.ref 115), none]) (by decide +kernel) (Nat.le_of_ble_eq_true rfl) rfl ?_
  refine z_aload_3 dL_writeRange_0 ?_
  refine z_iconst (v := 0) dL_writeRange_1 rfl ?_
  refine z_aload_0 dL_writeRange_2 ?_
  refine z_iload_1 dL_writeRange_3 ?_
  refine z_iload_2 dL_writeRange_4 ?_
  refine WL_catch [⟨0, 10, 13, 19⟩] ⟨0, 10, 17, 13⟩ [] (zRun.V (ρ := fun i => i) (k_c_6_writeRange_x2 n x z S X R T hn h40 hx hz hzx) dL_writeRange_5 zy_X6_writeRange zm_L_158 rfl rfl rfl rfl (Nat.le_of_ble_eq_true rfl) (by decide) (by decide)) (T9 := [(0, 10, 13, 19), (0, 10, 17, 13)]) (by decide +kernel) rfl ?_ (by decide) (by decide) zcl_L_13 zca_A (zbl_of rfl) ?_
  · intro z hz
    cases List.mem_singleton.mp hz
    exact zcat_b (y := yL_writeRange) (by decide) zcl_L_19 (fun _ _ _ h => h.2.2.2.2.2.2.1)
  show Z sc _ _ _ _ _ 0 0 17 _ _ _ _ _
  refine z_astore_4 dL_writeRange_17 rfl (by decide) ?_
  refine z_iconst (v := 2) dL_writeRange_19 rfl ?_
  exact z_iret dL_writeRange_20 rfl rfl rfl rfl
