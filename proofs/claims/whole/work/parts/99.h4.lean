variable {sc : SC}

theorem k_L_truncateInput (t : Nat) (k : Nat) (S : ZS) (X : ZS) (R : ZS) (T : TS) (ht : X.1 2 = nI t) (h6 : t ≤ 600) (hk : k ≤ t) (P : ZS) (TU : TS) (q : Nat) (G : Nat → TS) (TN : TS) (fo : Nat → Int64) : zMW sc yL_truncateInput cL_truncateInput 4 (some .int) 2 0 0 [.ref 0, .int (nI (k)), .ref 115] (WL S X R T P TU q G TN fo) (some (.int 0)) (WL S (g_c_6_truncateInput t k S X R T).2 R T P TU q G TN (vp_updL fo 0 (((g_c_6_truncateInput t k S X R T).1).toInt64))) := by
  refine zMW.at (ls := [some (.ref 0), some (.int (nI (k))), some (.ref 115), none]) (by decide +kernel) (Nat.le_of_ble_eq_true rfl) rfl ?_
  refine z_aload_2 dL_truncateInput_0 ?_
  refine z_iconst (v := 0) dL_truncateInput_1 rfl ?_
  refine z_aload_0 dL_truncateInput_2 ?_
  refine z_iload_1 dL_truncateInput_3 ?_
  refine Z.heap (WL_q S X R T P TU q G TN fo) ?_
  refine Z.callPs (zRun.V (ρ := fun i => i) (k_c_6_truncateInput t k S X R T ht h6 hk) dL_truncateInput_4 zy_X6_truncateInput zm_L_7 rfl rfl rfl rfl (Nat.le_of_ble_eq_true rfl) (by decide) (by decide)) (zlen2 14 rfl rfl) ?_
  refine Z.heap (WL_q S ((g_c_6_truncateInput t k S X R T).2) R T P TU q G TN fo).symm ?_
  refine z_i2l dL_truncateInput_7 ?_
  refine z_lastW dL_truncateInput_8 ?_
  refine z_goto (tgt := 15) dL_truncateInput_9 (by decide) ?_
  refine z_iconst (v := 0) dL_truncateInput_15 rfl ?_
  exact z_iret dL_truncateInput_16 rfl rfl rfl rfl
theorem k_L_truncateInput_x1 (x : Int32) (S : ZS) (X : ZS) (R : ZS) (T : TS) (hx : ¬ (0 ≤ x ∧ x ≤ X.1 2)) (P : ZS) (TU : TS) (q : Nat) (G : Nat → TS) (TN : TS) (fo : Nat → Int64) : zMW sc yL_truncateInput cL_truncateInput 4 (some .int) 9 1 6 [.ref 0, .int (x), .ref 115] (WL S X R T P TU q G TN fo) (some (.int 1)) (WL S X R T P TU q G TN fo) := by
  refine zMW.at (ls := [some (.ref 0), some (.int (x)), some (.ref 115), none]) (by decide +kernel) (Nat.le_of_ble_eq_true rfl) rfl ?_
  refine z_aload_2 dL_truncateInput_0 ?_
  refine z_iconst (v := 0) dL_truncateInput_1 rfl ?_
  refine z_aload_0 dL_truncateInput_2 ?_
  refine z_iload_1 dL_truncateInput_3 ?_
  refine WL_catch [] ⟨0, 9, 12, 13⟩ [] (zRun.V (ρ := fun i => i) (k_c_6_truncateInput_x1 x S X R T hx) dL_truncateInput_4 zy_X6_truncateInput zm_L_7 rfl rfl rfl rfl (Nat.le_of_ble_eq_true rfl) (by decide) (by decide)) (T9 := [(0, 9, 12, 13)]) (by decide +kernel) rfl ?_ (by decide) (by decide) zcl_L_13 zca_A (zbl_of rfl) ?_
  · exact fun z hz => absurd hz (List.not_mem_nil)
  show Z sc _ _ _ _ _ 0 0 12 _ _ _ _ _
  refine z_astore_3 dL_truncateInput_12 rfl (by decide) ?_
  refine z_iconst (v := 1) dL_truncateInput_13 rfl ?_
  exact z_iret dL_truncateInput_14 rfl rfl rfl rfl
theorem k_L_assign_x1 (n : Nat) (x : Int32) (z : Int32) (v : Int32) (S : ZS) (X : ZS) (R : ZS) (T : TS) (hn : tn T = nI n) (h40 : n ≤ 40) (hx : ¬ (tIx T x ∧ tIx T z)) (P : ZS) (TU : TS) (q : Nat) (G : Nat → TS) (TN : TS) (fo : Nat → Int64) : zMW sc yL_assign cL_assign 6 (some .int) 11 1 6 [.ref 0, .int (x), .int (z), .int (v), .ref 115] (WL S X R T P TU q G TN fo) (some (.int 1)) (WL S X R T P TU q G TN fo) := by
  refine zMW.at (ls := [some (.ref 0), some (.int (x)), some (.int (z)), some (.int (v)), some (.ref 115), none]) (by decide +kernel) (Nat.le_of_ble_eq_true rfl) rfl ?_
  refine z_aload_4 dL_assign_0 ?_
  refine z_iconst (v := 0) dL_assign_2 rfl ?_
  refine z_aload_0 dL_assign_3 ?_
  refine z_iload_1 dL_assign_4 ?_
  refine z_iload_2 dL_assign_5 ?_
  refine z_iload_3 dL_assign_6 ?_
  refine WL_catch [] ⟨0, 12, 15, 19⟩ [⟨0, 12, 19, 13⟩] (zRun.V (ρ := fun i => i) (k_c_6_assign_x1 n x z v S X R T hn h40 hx) dL_assign_7 zy_X6_assign zm_L_15 rfl rfl rfl rfl (Nat.le_of_ble_eq_true rfl) (by decide) (by decide)) (T9 := [(0, 12, 15, 19), (0, 12, 19, 13)]) (by decide +kernel) rfl ?_ (by decide) (by decide) zcl_L_19 zca_B (zbl_of rfl) ?_
  · exact fun z hz => absurd hz (List.not_mem_nil)
  show Z sc _ _ _ _ _ 0 0 15 _ _ _ _ _
  refine z_astore_5 dL_assign_15 rfl (by decide) ?_
  refine z_iconst (v := 1) dL_assign_17 rfl ?_
  exact z_iret dL_assign_18 rfl rfl rfl rfl
theorem k_L_assign_x2 (n : Nat) (x : Int32) (z : Int32) (v : Int32) (S : ZS) (X : ZS) (R : ZS) (T : TS) (hn : tn T = nI n) (h40 : n ≤ 40) (hx : tIx T x) (hz : tIx T z) (hzx : z < x) (P : ZS) (TU : TS) (q : Nat) (G : Nat → TS) (TN : TS) (fo : Nat → Int64) : zMW sc yL_assign cL_assign 6 (some .int) 11 1 6 [.ref 0, .int (x), .int (z), .int (v), .ref 115] (WL S X R T P TU q G TN fo) (some (.int 2)) (WL S X R T P TU q G TN fo) := by
  refine zMW.at (ls := [some (.ref 0), some (.int (x)), some (.int (z)), some (.int (v)), some (.ref 115), none]) (by decide +kernel) (Nat.le_of_ble_eq_true rfl) rfl ?_
  refine z_aload_4 dL_assign_0 ?_
  refine z_iconst (v := 0) dL_assign_2 rfl ?_
  refine z_aload_0 dL_assign_3 ?_
  refine z_iload_1 dL_assign_4 ?_
  refine z_iload_2 dL_assign_5 ?_
  refine z_iload_3 dL_assign_6 ?_
  refine WL_catch [⟨0, 12, 15, 19⟩] ⟨0, 12, 19, 13⟩ [] (zRun.V (ρ := fun i => i) (k_c_6_assign_x2 n x z v S X R T hn h40 hx hz hzx) dL_assign_7 zy_X6_assign zm_L_15 rfl rfl rfl rfl (Nat.le_of_ble_eq_true rfl) (by decide) (by decide)) (T9 := [(0, 12, 15, 19), (0, 12, 19, 13)]) (by decide +kernel) rfl ?_ (by decide) (by decide) zcl_L_13 zca_A (zbl_of rfl) ?_
  · intro z hz
    cases List.mem_singleton.mp hz
    exact zcat_b (y := yL_assign) (by decide) zcl_L_19 (fun _ _ _ h => h.2.2.2.2.2.2.1)
  show Z sc _ _ _ _ _ 0 0 19 _ _ _ _ _
  refine z_astore_5 dL_assign_19 rfl (by decide) ?_
  refine z_iconst (v := 2) dL_assign_21 rfl ?_
  exact z_iret dL_assign_22 rfl rfl rfl rfl
theorem k_L_assign_x3 (n : Nat) (a : Nat) (b : Nat) (v : Int32) (S : ZS) (X : ZS) (R : ZS) (T : TS) (hn : tn T = nI n) (h40 : n ≤ 40) (hab : a ≤ b) (hbn : b < n) (hv : ¬ (-9999 ≤ v ∧ v ≤ 9999)) (P : ZS) (TU : TS) (q : Nat) (G : Nat → TS) (TN : TS) (fo : Nat → Int64) : zMW sc yL_assign cL_assign 6 (some .int) 10 1 6 [.ref 0, .int (nI (a)), .int (nI (b)), .int (v), .ref 115] (WL S X R T P TU q G TN fo) (some (.int 2)) (WL S X R T P TU q G TN fo) := by
  refine zMW.at (ls := [some (.ref 0), some (.int (nI (a))), some (.int (nI (b))), some (.int (v)), some (.ref 115), none]) (by decide +kernel) (Nat.le_of_ble_eq_true rfl) rfl ?_
  refine z_aload_4 dL_assign_0 ?_
  refine z_iconst (v := 0) dL_assign_2 rfl ?_
  refine z_aload_0 dL_assign_3 ?_
  refine z_iload_1 dL_assign_4 ?_
  refine z_iload_2 dL_assign_5 ?_
  refine z_iload_3 dL_assign_6 ?_
  refine WL_catch [⟨0, 12, 15, 19⟩] ⟨0, 12, 19, 13⟩ [] (zRun.V (ρ := fun i => i) (k_c_6_assign_x3 n a b v S X R T hn h40 hab hbn hv) dL_assign_7 zy_X6_assign zm_L_15 rfl rfl rfl rfl (Nat.le_of_ble_eq_true rfl) (by decide) (by decide)) (T9 := [(0, 12, 15, 19), (0, 12, 19, 13)]) (by decide +kernel) rfl ?_ (by decide) (by decide) zcl_L_13 zca_A (zbl_of rfl) ?_
  · intro z hz
    cases List.mem_singleton.mp hz
    exact zcat_b (y := yL_assign) (by decide) zcl_L_19 (fun _ _ _ h => h.2.2.2.2.2.2.1)
  show Z sc _ _ _ _ _ 0 0 19 _ _ _ _ _
  refine z_astore_5 dL_assign_19 rfl (by decide) ?_
  refine z_iconst (v := 2) dL_assign_21 rfl ?_
  exact z_iret dL_assign_22 rfl rfl rfl rfl
theorem k_L_assign (S X R : ZS) (T : TS) (P : ZS) (TU : TS) (q : Nat) (G : Nat → TS) (TN : TS) (c : Nat) (hc : S.1 1 = nI c) (h8 : c ≤ 8) (n a b : Nat) (hn : tn T = nI n) (h40 : n ≤ 40) (hab : a ≤ b) (hbn : b < n) (v : Int32) (hv : -9999 ≤ v ∧ v ≤ 9999)  (fo : Nat → Int64) : zMW sc yL_assign cL_assign 6 (some .int) 4 0 0 [.ref 0, .int (nI a), .int (nI b), .int v, .ref 115] (WL S X R T P TU q G TN fo) (some (.int 0)) (WL (remS c S) X R ((tUpdate T (nI a) (nI b) (0) (v)).1) P TU (remR c q) (remG c q G T) TN (vp_updL fo 0 ((nI (tUpdate T (nI a) (nI b) (0) (v)).2).toInt64))) := by
  refine zMW.at (ls := [some (.ref 0), some (.int (nI a)), some (.int (nI b)), some (.int v), some (.ref 115), none]) (by decide +kernel) (Nat.le_of_ble_eq_true rfl) rfl ?_
  refine z_aload_4 dL_assign_0 ?_
  refine z_iconst (v := 0) dL_assign_2 rfl ?_
  refine z_aload_0 dL_assign_3 ?_
  refine z_iload_1 dL_assign_4 ?_
  refine z_iload_2 dL_assign_5 ?_
  refine z_iload_3 dL_assign_6 ?_
  refine Z.heap (h2 := FH S X R T P TU q G TN ++ [.inl (1, 1, .inr (.inl fo))]) rfl ?_
  refine Z.callPs (zRun.V (ρ := fun i => i) (k_f_assign S X R T P TU q G TN c hc h8 n a b hn h40 hab hbn v hv) dL_assign_7 zy_X6_assign zm_L_15 rfl rfl rfl rfl (Nat.le_of_ble_eq_true rfl) (by decide) (by decide)) (zlen2 115 rfl rfl) ?_
  refine Z.heap (h2 := WL (remS c S) X R ((tUpdate T (nI a) (nI b) (0) (v)).1) P TU (remR c q) (remG c q G T) TN fo) rfl ?_
  refine z_i2l dL_assign_10 ?_
  refine z_lastW dL_assign_11 ?_
  refine z_goto (tgt := 23) dL_assign_12 (by decide) ?_
  refine z_iconst (v := 0) dL_assign_23 rfl ?_
  exact z_iret dL_assign_24 rfl rfl rfl rfl
theorem k_L_add_x1 (n : Nat) (x : Int32) (z : Int32) (v : Int32) (S : ZS) (X : ZS) (R : ZS) (T : TS) (hn : tn T = nI n) (h40 : n ≤ 40) (hx : ¬ (tIx T x ∧ tIx T z)) (P : ZS) (TU : TS) (q : Nat) (G : Nat → TS) (TN : TS) (fo : Nat → Int64) : zMW sc yL_add cL_add 6 (some .int) 11 1 6 [.ref 0, .int (x), .int (z), .int (v), .ref 115] (WL S X R T P TU q G TN fo) (some (.int 1)) (WL S X R T P TU q G TN fo) := by
  refine zMW.at (ls := [some (.ref 0), some (.int (x)), some (.int (z)), some (.int (v)), some (.ref 115), none]) (by decide +kernel) (Nat.le_of_ble_eq_true rfl) rfl ?_
  refine z_aload_4 dL_add_0 ?_
  refine z_iconst (v := 0) dL_add_2 rfl ?_
  refine z_aload_0 dL_add_3 ?_
  refine z_iload_1 dL_add_4 ?_
  refine z_iload_2 dL_add_5 ?_
  refine z_iload_3 dL_add_6 ?_
  refine WL_catch [] ⟨0, 12, 15, 19⟩ [⟨0, 12, 19, 13⟩, ⟨0, 12, 23, 24⟩] (zRun.V (ρ := fun i => i) (k_c_6_add_x1 n x z v S X R T hn h40 hx) dL_add_7 zy_X6_add zm_L_21 rfl rfl rfl rfl (Nat.le_of_ble_eq_true rfl) (by decide) (by decide)) (T9 := [(0, 12, 15, 19), (0, 12, 19, 13), (0, 12, 23, 24)]) (by decide +kernel) rfl ?_ (by decide) (by decide) zcl_L_19 zca_B (zbl_of rfl) ?_
  · exact fun z hz => absurd hz (List.not_mem_nil)
  show Z sc _ _ _ _ _ 0 0 15 _ _ _ _ _
  refine z_astore_5 dL_add_15 rfl (by decide) ?_
  refine z_iconst (v := 1) dL_add_17 rfl ?_
  exact z_iret dL_add_18 rfl rfl rfl rfl
theorem k_L_add_x2 (n : Nat) (x : Int32) (z : Int32) (v : Int32) (S : ZS) (X : ZS) (R : ZS) (T : TS) (hn : tn T = nI n) (h40 : n ≤ 40) (hx : tIx T x) (hz : tIx T z) (hzx : z < x) (P : ZS) (TU : TS) (q : Nat) (G : Nat → TS) (TN : TS) (fo : Nat → Int64) : zMW sc yL_add cL_add 6 (some .int) 11 1 6 [.ref 0, .int (x), .int (z), .int (v), .ref 115] (WL S X R T P TU q G TN fo) (some (.int 2)) (WL S X R T P TU q G TN fo) := by
  refine zMW.at (ls := [some (.ref 0), some (.int (x)), some (.int (z)), some (.int (v)), some (.ref 115), none]) (by decide +kernel) (Nat.le_of_ble_eq_true rfl) rfl ?_
  refine z_aload_4 dL_add_0 ?_
  refine z_iconst (v := 0) dL_add_2 rfl ?_
  refine z_aload_0 dL_add_3 ?_
  refine z_iload_1 dL_add_4 ?_
  refine z_iload_2 dL_add_5 ?_
  refine z_iload_3 dL_add_6 ?_
  refine WL_catch [⟨0, 12, 15, 19⟩] ⟨0, 12, 19, 13⟩ [⟨0, 12, 23, 24⟩] (zRun.V (ρ := fun i => i) (k_c_6_add_x2 n x z v S X R T hn h40 hx hz hzx) dL_add_7 zy_X6_add zm_L_21 rfl rfl rfl rfl (Nat.le_of_ble_eq_true rfl) (by decide) (by decide)) (T9 := [(0, 12, 15, 19), (0, 12, 19, 13), (0, 12, 23, 24)]) (by decide +kernel) rfl ?_ (by decide) (by decide) zcl_L_13 zca_A (zbl_of rfl) ?_
  · intro z hz
    cases List.mem_singleton.mp hz
    exact zcat_b (y := yL_add) (by decide) zcl_L_19 (fun _ _ _ h => h.2.2.2.2.2.2.1)
  show Z sc _ _ _ _ _ 0 0 19 _ _ _ _ _
  refine z_astore_5 dL_add_19 rfl (by decide) ?_
  refine z_iconst (v := 2) dL_add_21 rfl ?_
  exact z_iret dL_add_22 rfl rfl rfl rfl
theorem k_L_add_x3 (n : Nat) (a : Nat) (b : Nat) (v : Int32) (S : ZS) (X : ZS) (R : ZS) (T : TS) (hn : tn T = nI n) (h40 : n ≤ 40) (hab : a ≤ b) (hbn : b < n) (hv : ¬ (-9999 ≤ v ∧ v ≤ 9999)) (P : ZS) (TU : TS) (q : Nat) (G : Nat → TS) (TN : TS) (fo : Nat → Int64) : zMW sc yL_add cL_add 6 (some .int) 10 1 6 [.ref 0, .int (nI (a)), .int (nI (b)), .int (v), .ref 115] (WL S X R T P TU q G TN fo) (some (.int 2)) (WL S X R T P TU q G TN fo) := by
  refine zMW.at (ls := [some (.ref 0), some (.int (nI (a))), some (.int (nI (b))), some (.int (v)), some (.ref 115), none]) (by decide +kernel) (Nat.le_of_ble_eq_true rfl) rfl ?_
  refine z_aload_4 dL_add_0 ?_
  refine z_iconst (v := 0) dL_add_2 rfl ?_
  refine z_aload_0 dL_add_3 ?_
  refine z_iload_1 dL_add_4 ?_
  refine z_iload_2 dL_add_5 ?_
  refine z_iload_3 dL_add_6 ?_
  refine WL_catch [⟨0, 12, 15, 19⟩] ⟨0, 12, 19, 13⟩ [⟨0, 12, 23, 24⟩] (zRun.V (ρ := fun i => i) (k_c_6_add_x3 n a b v S X R T hn h40 hab hbn hv) dL_add_7 zy_X6_add zm_L_21 rfl rfl rfl rfl (Nat.le_of_ble_eq_true rfl) (by decide) (by decide)) (T9 := [(0, 12, 15, 19), (0, 12, 19, 13), (0, 12, 23, 24)]) (by decide +kernel) rfl ?_ (by decide) (by decide) zcl_L_13 zca_A (zbl_of rfl) ?_
  · intro z hz
    cases List.mem_singleton.mp hz
    exact zcat_b (y := yL_add) (by decide) zcl_L_19 (fun _ _ _ h => h.2.2.2.2.2.2.1)
  show Z sc _ _ _ _ _ 0 0 19 _ _ _ _ _
  refine z_astore_5 dL_add_19 rfl (by decide) ?_
  refine z_iconst (v := 2) dL_add_21 rfl ?_
  exact z_iret dL_add_22 rfl rfl rfl rfl
theorem k_L_add_x4 (n : Nat) (a : Nat) (b : Nat) (v : Int32) (S : ZS) (X : ZS) (R : ZS) (T : TS) (hn : tn T = nI n) (h40 : n ≤ 40) (hab : a ≤ b) (hbn : b < n) (hv : -9999 ≤ v ∧ v ≤ 9999) (hx : ¬ tCan T a b v) (P : ZS) (TU : TS) (q : Nat) (G : Nat → TS) (TN : TS) (fo : Nat → Int64) : zMW sc yL_add cL_add 6 (some .int) 9 1 6 [.ref 0, .int (nI (a)), .int (nI (b)), .int (v), .ref 115] (WL S X R T P TU q G TN fo) (some (.int 3)) (WL S X R T P TU q G TN fo) := by
  refine zMW.at (ls := [some (.ref 0), some (.int (nI (a))), some (.int (nI (b))), some (.int (v)), some (.ref 115), none]) (by decide +kernel) (Nat.le_of_ble_eq_true rfl) rfl ?_
  refine z_aload_4 dL_add_0 ?_
  refine z_iconst (v := 0) dL_add_2 rfl ?_
  refine z_aload_0 dL_add_3 ?_
  refine z_iload_1 dL_add_4 ?_
  refine z_iload_2 dL_add_5 ?_
  refine z_iload_3 dL_add_6 ?_
  refine WL_catch [⟨0, 12, 15, 19⟩, ⟨0, 12, 19, 13⟩] ⟨0, 12, 23, 24⟩ [] (zRun.V (ρ := fun i => i) (k_c_6_add_x4 n a b v S X R T hn h40 hab hbn hv hx) dL_add_7 zy_X6_add zm_L_21 rfl rfl rfl rfl (Nat.le_of_ble_eq_true rfl) (by decide) (by decide)) (T9 := [(0, 12, 15, 19), (0, 12, 19, 13), (0, 12, 23, 24)]) (by decide +kernel) rfl ?_ (by decide) (by decide) zcl_L_24 zca_S (zbl_of rfl) ?_
  · intro z hz
    rcases List.mem_cons.mp hz with rfl | hz
    · exact zcat_b (y := yL_add) (by decide) zcl_L_19 (fun _ _ _ h => h.2.2.2.2.2.2.2.1)
    · cases List.mem_singleton.mp hz
      exact zcat_b (y := yL_add) (by decide) zcl_L_13 (fun _ _ _ h => h.2.2.2.2.2.2.2.2)
  show Z sc _ _ _ _ _ 0 0 23 _ _ _ _ _
  refine z_astore_5 dL_add_23 rfl (by decide) ?_
  refine z_iconst (v := 3) dL_add_25 rfl ?_
  exact z_iret dL_add_26 rfl rfl rfl rfl
theorem k_L_add (S X R : ZS) (T : TS) (P : ZS) (TU : TS) (q : Nat) (G : Nat → TS) (TN : TS) (c : Nat) (hc : S.1 1 = nI c) (h8 : c ≤ 8) (n a b : Nat) (hn : tn T = nI n) (h40 : n ≤ 40) (hab : a ≤ b) (hbn : b < n) (v : Int32) (hv : -9999 ≤ v ∧ v ≤ 9999) (hcan : tCan T a b v)  (fo : Nat → Int64) : zMW sc yL_add cL_add 6 (some .int) 4 0 0 [.ref 0, .int (nI a), .int (nI b), .int v, .ref 115] (WL S X R T P TU q G TN fo) (some (.int 0)) (WL (remS c S) X R ((tUpdate T (nI a) (nI b) (1) (v)).1) P TU (remR c q) (remG c q G T) TN (vp_updL fo 0 ((nI (tUpdate T (nI a) (nI b) (1) (v)).2).toInt64))) := by
  refine zMW.at (ls := [some (.ref 0), some (.int (nI a)), some (.int (nI b)), some (.int v), some (.ref 115), none]) (by decide +kernel) (Nat.le_of_ble_eq_true rfl) rfl ?_
  refine z_aload_4 dL_add_0 ?_
  refine z_iconst (v := 0) dL_add_2 rfl ?_
  refine z_aload_0 dL_add_3 ?_
  refine z_iload_1 dL_add_4 ?_
  refine z_iload_2 dL_add_5 ?_
  refine z_iload_3 dL_add_6 ?_
  refine Z.heap (h2 := FH S X R T P TU q G TN ++ [.inl (1, 1, .inr (.inl fo))]) rfl ?_
  refine Z.callPs (zRun.V (ρ := fun i => i) (k_f_add S X R T P TU q G TN c hc h8 n a b hn h40 hab hbn v hv hcan) dL_add_7 zy_X6_add zm_L_21 rfl rfl rfl rfl (Nat.le_of_ble_eq_true rfl) (by decide) (by decide)) (zlen2 115 rfl rfl) ?_
  refine Z.heap (h2 := WL (remS c S) X R ((tUpdate T (nI a) (nI b) (1) (v)).1) P TU (remR c q) (remG c q G T) TN fo) rfl ?_
  refine z_i2l dL_add_10 ?_
  refine z_lastW dL_add_11 ?_
  refine z_goto (tgt := 27) dL_add_12 (by decide) ?_
  refine z_iconst (v := 0) dL_add_27 rfl ?_
  exact z_iret dL_add_28 rfl rfl rfl rfl
theorem k_L_negate_x1 (n : Nat) (x : Int32) (z : Int32) (S : ZS) (X : ZS) (R : ZS) (T : TS) (hn : tn T = nI n) (h40 : n ≤ 40) (hx : ¬ (tIx T x ∧ tIx T z)) (P : ZS) (TU : TS) (q : Nat) (G : Nat → TS) (TN : TS) (fo : Nat → Int64) : zMW sc yL_negate cL_negate 5 (some .int) 11 1 6 [.ref 0, .int (x), .int (z), .ref 115] (WL S X R T P TU q G TN fo) (some (.int 1)) (WL S X R T P TU q G TN fo) := by
  refine zMW.at (ls := [some (.ref 0), some (.int (x)), some (.int (z)), some (.ref 115), none]) (by decide +kernel) (Nat.le_of_ble_eq_true rfl) rfl ?_
  refine z_aload_3 dL_negate_0 ?_
  refine z_iconst (v := 0) dL_negate_1 rfl ?_
  refine z_aload_0 dL_negate_2 ?_
  refine z_iload_1 dL_negate_3 ?_
  refine z_iload_2 dL_negate_4 ?_
  refine WL_catch [] ⟨0, 10, 13, 19⟩ [⟨0, 10, 17, 13⟩] (zRun.V (ρ := fun i => i) (k_c_6_negate_x1 n x z S X R T hn h40 hx) dL_negate_5 zy_X6_negate zm_L_26 rfl rfl rfl rfl (Nat.le_of_ble_eq_true rfl) (by decide) (by decide)) (T9 := [(0, 10, 13, 19), (0, 10, 17, 13)]) (by decide +kernel) rfl ?_ (by decide) (by decide) zcl_L_19 zca_B (zbl_of rfl) ?_
  · exact fun z hz => absurd hz (List.not_mem_nil)
  show Z sc _ _ _ _ _ 0 0 13 _ _ _ _ _
  refine z_astore_4 dL_negate_13 rfl (by decide) ?_
  refine z_iconst (v := 1) dL_negate_15 rfl ?_
  exact z_iret dL_negate_16 rfl rfl rfl rfl
theorem k_L_negate_x2 (n : Nat) (x : Int32) (z : Int32) (S : ZS) (X : ZS) (R : ZS) (T : TS) (hn : tn T = nI n) (h40 : n ≤ 40) (hx : tIx T x) (hz : tIx T z) (hzx : z < x) (P : ZS) (TU : TS) (q : Nat) (G : Nat → TS) (TN : TS) (fo : Nat → Int64) : zMW sc yL_negate cL_negate 5 (some .int) 11 1 6 [.ref 0, .int (x), .int (z), .ref 115] (WL S X R T P TU q G TN fo) (some (.int 2)) (WL S X R T P TU q G TN fo) := by
  refine zMW.at (ls := [some (.ref 0), some (.int (x)), some (.int (z)), some (.ref 115), none]) (by decide +kernel) (Nat.le_of_ble_eq_true rfl) rfl ?_
  refine z_aload_3 dL_negate_0 ?_
  refine z_iconst (v := 0) dL_negate_1 rfl ?_
  refine z_aload_0 dL_negate_2 ?_
  refine z_iload_1 dL_negate_3 ?_
  refine z_iload_2 dL_negate_4 ?_
  refine WL_catch [⟨0, 10, 13, 19⟩] ⟨0, 10, 17, 13⟩ [] (zRun.V (ρ := fun i => i) (k_c_6_negate_x2 n x z S X R T hn h40 hx hz hzx) dL_negate_5 zy_X6_negate zm_L_26 rfl rfl rfl rfl (Nat.le_of_ble_eq_true rfl) (by decide) (by decide)) (T9 := [(0, 10, 13, 19), (0, 10, 17, 13)]) (by decide +kernel) rfl ?_ (by decide) (by decide) zcl_L_13 zca_A (zbl_of rfl) ?_
  · intro z hz
    cases List.mem_singleton.mp hz
    exact zcat_b (y := yL_negate) (by decide) zcl_L_19 (fun _ _ _ h => h.2.2.2.2.2.2.1)
  show Z sc _ _ _ _ _ 0 0 17 _ _ _ _ _
  refine z_astore_4 dL_negate_17 rfl (by decide) ?_
  refine z_iconst (v := 2) dL_negate_19 rfl ?_
  exact z_iret dL_negate_20 rfl rfl rfl rfl
theorem k_L_negate (S X R : ZS) (T : TS) (P : ZS) (TU : TS) (q : Nat) (G : Nat → TS) (TN : TS) (c : Nat) (hc : S.1 1 = nI c) (h8 : c ≤ 8) (n a b : Nat) (hn : tn T = nI n) (h40 : n ≤ 40) (hab : a ≤ b) (hbn : b < n)  (fo : Nat → Int64) : zMW sc yL_negate cL_negate 5 (some .int) 4 0 0 [.ref 0, .int (nI a), .int (nI b), .ref 115] (WL S X R T P TU q G TN fo) (some (.int 0)) (WL (remS c S) X R ((tUpdate T (nI a) (nI b) (-1) (0)).1) P TU (remR c q) (remG c q G T) TN (vp_updL fo 0 ((nI (tUpdate T (nI a) (nI b) (-1) (0)).2).toInt64))) := by
  refine zMW.at (ls := [some (.ref 0), some (.int (nI a)), some (.int (nI b)), some (.ref 115), none]) (by decide +kernel) (Nat.le_of_ble_eq_true rfl) rfl ?_
  refine z_aload_3 dL_negate_0 ?_
  refine z_iconst (v := 0) dL_negate_1 rfl ?_
  refine z_aload_0 dL_negate_2 ?_
  refine z_iload_1 dL_negate_3 ?_
  refine z_iload_2 dL_negate_4 ?_
  refine Z.heap (h2 := FH S X R T P TU q G TN ++ [.inl (1, 1, .inr (.inl fo))]) rfl ?_
  refine Z.callPs (zRun.V (ρ := fun i => i) (k_f_negate S X R T P TU q G TN c hc h8 n a b hn h40 hab hbn) dL_negate_5 zy_X6_negate zm_L_26 rfl rfl rfl rfl (Nat.le_of_ble_eq_true rfl) (by decide) (by decide)) (zlen2 115 rfl rfl) ?_
  refine Z.heap (h2 := WL (remS c S) X R ((tUpdate T (nI a) (nI b) (-1) (0)).1) P TU (remR c q) (remG c q G T) TN fo) rfl ?_
  refine z_i2l dL_negate_8 ?_
  refine z_lastW dL_negate_9 ?_
  refine z_goto (tgt := 21) dL_negate_10 (by decide) ?_
  refine z_iconst (v := 0) dL_negate_21 rfl ?_
  exact z_iret dL_negate_22 rfl rfl rfl rfl
theorem k_L_pushDown_x1 (x : Int32) (S : ZS) (X : ZS) (R : ZS) (T : TS) (hx : ¬ tHas T x) (P : ZS) (TU : TS) (q : Nat) (G : Nat → TS) (TN : TS) (fo : Nat → Int64) : zMW sc yL_pushDown cL_pushDown 4 (some .int) 10 1 6 [.ref 0, .int (x), .ref 115] (WL S X R T P TU q G TN fo) (some (.int 1)) (WL S X R T P TU q G TN fo) := by
  refine zMW.at (ls := [some (.ref 0), some (.int (x)), some (.ref 115), none]) (by decide +kernel) (Nat.le_of_ble_eq_true rfl) rfl ?_
  refine z_aload_2 dL_pushDown_0 ?_
  refine z_iconst (v := 0) dL_pushDown_1 rfl ?_
  refine z_aload_0 dL_pushDown_2 ?_
  refine z_iload_1 dL_pushDown_3 ?_
  refine WL_catch [] ⟨0, 16, 19, 19⟩ [⟨0, 16, 22, 24⟩] (zRun.V (ρ := fun i => i) (k_c_6_pushDown_x1 x S X R T hx) dL_pushDown_4 zy_X6_pushDown zm_L_30 rfl rfl rfl rfl (Nat.le_of_ble_eq_true rfl) (by decide) (by decide)) (T9 := [(0, 16, 19, 19), (0, 16, 22, 24)]) (by decide +kernel) rfl ?_ (by decide) (by decide) zcl_L_19 zca_B (zbl_of rfl) ?_
  · exact fun z hz => absurd hz (List.not_mem_nil)
  show Z sc _ _ _ _ _ 0 0 19 _ _ _ _ _
  refine z_astore_3 dL_pushDown_19 rfl (by decide) ?_
  refine z_iconst (v := 1) dL_pushDown_20 rfl ?_
  exact z_iret dL_pushDown_21 rfl rfl rfl rfl
theorem k_L_pushDown_x2 (k : Nat) (S : ZS) (X : ZS) (R : ZS) (T : TS) (h1 : 1 ≤ k) (h2 : k < 128) (h3 : ¬ tF T k = -1) (hx : ¬ tIn T k) (P : ZS) (TU : TS) (q : Nat) (G : Nat → TS) (TN : TS) (fo : Nat → Int64) : zMW sc yL_pushDown cL_pushDown 4 (some .int) 9 1 6 [.ref 0, .int (nI (k)), .ref 115] (WL S X R T P TU q G TN fo) (some (.int 2)) (WL S X R T P TU q G TN fo) := by
  refine zMW.at (ls := [some (.ref 0), some (.int (nI (k))), some (.ref 115), none]) (by decide +kernel) (Nat.le_of_ble_eq_true rfl) rfl ?_
  refine z_aload_2 dL_pushDown_0 ?_
  refine z_iconst (v := 0) dL_pushDown_1 rfl ?_
  refine z_aload_0 dL_pushDown_2 ?_
  refine z_iload_1 dL_pushDown_3 ?_
  refine WL_catch [⟨0, 16, 19, 19⟩] ⟨0, 16, 22, 24⟩ [] (zRun.V (ρ := fun i => i) (k_c_6_pushDown_x2 k S X R T h1 h2 h3 hx) dL_pushDown_4 zy_X6_pushDown zm_L_30 rfl rfl rfl rfl (Nat.le_of_ble_eq_true rfl) (by decide) (by decide)) (T9 := [(0, 16, 19, 19), (0, 16, 22, 24)]) (by decide +kernel) rfl ?_ (by decide) (by decide) zcl_L_24 zca_S (zbl_of rfl) ?_
  · intro z hz
    cases List.mem_singleton.mp hz
    exact zcat_b (y := yL_pushDown) (by decide) zcl_L_19 (fun _ _ _ h => h.2.2.2.2.2.2.2.1)
  show Z sc _ _ _ _ _ 0 0 22 _ _ _ _ _
  refine z_astore_3 dL_pushDown_22 rfl (by decide) ?_
  refine z_iconst (v := 2) dL_pushDown_23 rfl ?_
  exact z_iret dL_pushDown_24 rfl rfl rfl rfl
theorem k_L_pushDown (S X R : ZS) (T : TS) (P : ZS) (TU : TS) (q : Nat) (G : Nat → TS) (TN : TS) (c : Nat) (hc : S.1 1 = nI c) (h8 : c ≤ 8) (k : Nat) (h1 : 1 ≤ k) (h2 : k < 128) (h3 : ¬ tF T k = -1) (hin : tIn T k)  (fo : Nat → Int64) : zMW sc yL_pushDown cL_pushDown 4 (some .int) 4 0 0 [.ref 0, .int (nI k), .ref 115] (WL S X R T P TU q G TN fo) (some (.int 0)) (WL (remS c S) X R (if tDo T k then tPush T k else T) P TU (remR c q) (remG c q G T) TN (vp_updL fo 0 (if (decide (tDo T k)) = true then 1 else 0))) := by
  refine zMW.at (ls := [some (.ref 0), some (.int (nI k)), some (.ref 115), none]) (by decide +kernel) (Nat.le_of_ble_eq_true rfl) rfl ?_
  refine z_aload_2 dL_pushDown_0 ?_
  refine z_iconst (v := 0) dL_pushDown_1 rfl ?_
  refine z_aload_0 dL_pushDown_2 ?_
  refine z_iload_1 dL_pushDown_3 ?_
  refine Z.heap (h2 := FH S X R T P TU q G TN ++ [.inl (1, 1, .inr (.inl fo))]) rfl ?_
  refine Z.callPs (zRun.V (ρ := fun i => i) (k_f_pushDown S X R T P TU q G TN c hc h8 k h1 h2 h3 hin) dL_pushDown_4 zy_X6_pushDown zm_L_30 rfl rfl rfl rfl (Nat.le_of_ble_eq_true rfl) (by decide) (by decide)) (zlen2 115 rfl rfl) ?_
  refine Z.heap (h2 := WL (remS c S) X R (if tDo T k then tPush T k else T) P TU (remR c q) (remG c q G T) TN fo) rfl ?_
  refine z_ifB_eq (tgt := 14) dL_pushDown_7 (by decide) (fun c9 => ?_) (fun c9 => ?_)
  · rw [if_neg c9]
    refine z_lconst (v := 0) dL_pushDown_14 rfl ?_
    refine z_lastW dL_pushDown_15 ?_
    refine z_goto (tgt := 25) dL_pushDown_16 (by decide) ?_
    refine z_iconst (v := 0) dL_pushDown_25 rfl ?_
    exact z_iret dL_pushDown_26 rfl rfl rfl rfl
  · rw [if_pos c9]
    refine z_lconst (v := 1) dL_pushDown_10 rfl ?_
    refine z_goto (tgt := 15) dL_pushDown_11 (by decide) ?_
    refine z_lastW dL_pushDown_15 ?_
    refine z_goto (tgt := 25) dL_pushDown_16 (by decide) ?_
    refine z_iconst (v := 0) dL_pushDown_25 rfl ?_
    exact z_iret dL_pushDown_26 rfl rfl rfl rfl
theorem k_L_appendElement_x1 (v : Int32) (S : ZS) (X : ZS) (R : ZS) (T : TS) (hv : ¬ (-9999 ≤ v ∧ v ≤ 9999)) (P : ZS) (TU : TS) (q : Nat) (G : Nat → TS) (TN : TS) (fo : Nat → Int64) : zMW sc yL_appendElement cL_appendElement 4 (some .int) 10 1 6 [.ref 0, .int (v), .ref 115] (WL S X R T P TU q G TN fo) (some (.int 1)) (WL S X R T P TU q G TN fo) := by
  refine zMW.at (ls := [some (.ref 0), some (.int (v)), some (.ref 115), none]) (by decide +kernel) (Nat.le_of_ble_eq_true rfl) rfl ?_
  refine z_aload_2 dL_appendElement_0 ?_
  refine z_iconst (v := 0) dL_appendElement_1 rfl ?_
  refine z_aload_0 dL_appendElement_2 ?_
  refine z_iload_1 dL_appendElement_3 ?_
  refine WL_catch [] ⟨0, 9, 12, 13⟩ [⟨0, 9, 15, 24⟩] (zRun.V (ρ := fun i => i) (k_c_6_appendElement_x1 v S X R T hv) dL_appendElement_4 zy_X6_appendElement zm_L_34 rfl rfl rfl rfl (Nat.le_of_ble_eq_true rfl) (by decide) (by decide)) (T9 := [(0, 9, 12, 13), (0, 9, 15, 24)]) (by decide +kernel) rfl ?_ (by decide) (by decide) zcl_L_13 zca_A (zbl_of rfl) ?_
  · exact fun z hz => absurd hz (List.not_mem_nil)
  show Z sc _ _ _ _ _ 0 0 12 _ _ _ _ _
  refine z_astore_3 dL_appendElement_12 rfl (by decide) ?_
  refine z_iconst (v := 1) dL_appendElement_13 rfl ?_
  exact z_iret dL_appendElement_14 rfl rfl rfl rfl
theorem k_L_appendElement_x2 (n : Nat) (v : Int32) (S : ZS) (X : ZS) (R : ZS) (T : TS) (hn : tn T = nI n) (h40 : n ≤ 40) (hv : -9999 ≤ v ∧ v ≤ 9999) (hx : 40 ≤ n) (P : ZS) (TU : TS) (q : Nat) (G : Nat → TS) (TN : TS) (fo : Nat → Int64) : zMW sc yL_appendElement cL_appendElement 4 (some .int) 9 1 6 [.ref 0, .int (v), .ref 115] (WL S X R T P TU q G TN fo) (some (.int 2)) (WL S X R T P TU q G TN fo) := by
  refine zMW.at (ls := [some (.ref 0), some (.int (v)), some (.ref 115), none]) (by decide +kernel) (Nat.le_of_ble_eq_true rfl) rfl ?_
  refine z_aload_2 dL_appendElement_0 ?_
  refine z_iconst (v := 0) dL_appendElement_1 rfl ?_
  refine z_aload_0 dL_appendElement_2 ?_
  refine z_iload_1 dL_appendElement_3 ?_
  refine WL_catch [⟨0, 9, 12, 13⟩] ⟨0, 9, 15, 24⟩ [] (zRun.V (ρ := fun i => i) (k_c_6_appendElement_x2 n v S X R T hn h40 hv hx) dL_appendElement_4 zy_X6_appendElement zm_L_34 rfl rfl rfl rfl (Nat.le_of_ble_eq_true rfl) (by decide) (by decide)) (T9 := [(0, 9, 12, 13), (0, 9, 15, 24)]) (by decide +kernel) rfl ?_ (by decide) (by decide) zcl_L_24 zca_S (zbl_of rfl) ?_
  · intro z hz
    cases List.mem_singleton.mp hz
    exact zcat_b (y := yL_appendElement) (by decide) zcl_L_13 (fun _ _ _ h => h.2.2.2.2.2.2.2.2)
  show Z sc _ _ _ _ _ 0 0 15 _ _ _ _ _
  refine z_astore_3 dL_appendElement_15 rfl (by decide) ?_
  refine z_iconst (v := 2) dL_appendElement_16 rfl ?_
  exact z_iret dL_appendElement_17 rfl rfl rfl rfl
theorem k_L_appendElement (S X R : ZS) (T : TS) (P : ZS) (TU : TS) (q : Nat) (G : Nat → TS) (TN : TS) (c : Nat) (hc : S.1 1 = nI c) (h8 : c ≤ 8) (n : Nat) (hn : tn T = nI n) (h40 : n < 40) (v : Int32) (hv : -9999 ≤ v ∧ v ≤ 9999)  (fo : Nat → Int64) : zMW sc yL_appendElement cL_appendElement 4 (some .int) 5 0 0 [.ref 0, .int v, .ref 115] (WL S X R T P TU q G TN fo) (some (.int 0)) (WL (remS c S) X R (tBuild (tSz T (n + 1) (upd (tva T) n v))) P TU (remR c q) (remG c q G T) TN (vp_updL fo 0 ((nI (n + 1)).toInt64))) := by
  refine zMW.at (ls := [some (.ref 0), some (.int v), some (.ref 115), none]) (by decide +kernel) (Nat.le_of_ble_eq_true rfl) rfl ?_
  refine z_aload_2 dL_appendElement_0 ?_
  refine z_iconst (v := 0) dL_appendElement_1 rfl ?_
  refine z_aload_0 dL_appendElement_2 ?_
  refine z_iload_1 dL_appendElement_3 ?_
  refine Z.heap (h2 := FH S X R T P TU q G TN ++ [.inl (1, 1, .inr (.inl fo))]) rfl ?_
  refine Z.callPs (zRun.V (ρ := fun i => i) (k_f_appendElement S X R T P TU q G TN c hc h8 n hn h40 v hv) dL_appendElement_4 zy_X6_appendElement zm_L_34 rfl rfl rfl rfl (Nat.le_of_ble_eq_true rfl) (by decide) (by decide)) (zlen2 115 rfl rfl) ?_
  refine Z.heap (h2 := WL (remS c S) X R (tBuild (tSz T (n + 1) (upd (tva T) n v))) P TU (remR c q) (remG c q G T) TN fo) rfl ?_
  refine z_i2l dL_appendElement_7 ?_
  refine z_lastW dL_appendElement_8 ?_
  refine z_goto (tgt := 18) dL_appendElement_9 (by decide) ?_
  refine z_iconst (v := 0) dL_appendElement_18 rfl ?_
  exact z_iret dL_appendElement_19 rfl rfl rfl rfl
theorem k_L_removeLast_x1 (n : Nat) (S : ZS) (X : ZS) (R : ZS) (T : TS) (hn : tn T = nI n) (h40 : n ≤ 40) (hx : n ≤ 1) (P : ZS) (TU : TS) (q : Nat) (G : Nat → TS) (TN : TS) (fo : Nat → Int64) : zMW sc yL_removeLast cL_removeLast 3 (some .int) 9 1 6 [.ref 0, .ref 115] (WL S X R T P TU q G TN fo) (some (.int 1)) (WL S X R T P TU q G TN fo) := by
  refine zMW.at (ls := [some (.ref 0), some (.ref 115), none]) (by decide +kernel) (Nat.le_of_ble_eq_true rfl) rfl ?_
  refine z_aload_1 dL_removeLast_0 ?_
  refine z_iconst (v := 0) dL_removeLast_1 rfl ?_
  refine z_aload_0 dL_removeLast_2 ?_
  refine WL_catch [] ⟨0, 8, 11, 24⟩ [] (zRun.V (ρ := fun i => i) (k_c_6_removeLast_x1 n S X R T hn h40 hx) dL_removeLast_3 zy_X6_removeLast zm_L_37 rfl rfl rfl rfl (Nat.le_of_ble_eq_true rfl) (by decide) (by decide)) (T9 := [(0, 8, 11, 24)]) (by decide +kernel) rfl ?_ (by decide) (by decide) zcl_L_24 zca_S (zbl_of rfl) ?_
  · exact fun z hz => absurd hz (List.not_mem_nil)
  show Z sc _ _ _ _ _ 0 0 11 _ _ _ _ _
  refine z_astore_2 dL_removeLast_11 rfl (by decide) ?_
  refine z_iconst (v := 1) dL_removeLast_12 rfl ?_
  exact z_iret dL_removeLast_13 rfl rfl rfl rfl
theorem k_L_removeLast (S X R : ZS) (T : TS) (P : ZS) (TU : TS) (q : Nat) (G : Nat → TS) (TN : TS) (c : Nat) (hc : S.1 1 = nI c) (h8 : c ≤ 8) (n : Nat) (hn : tn T = nI (n + 1)) (h1 : 1 ≤ n) (h40 : n < 40)  (fo : Nat → Int64) : zMW sc yL_removeLast cL_removeLast 3 (some .int) 5 0 0 [.ref 0, .ref 115] (WL S X R T P TU q G TN fo) (some (.int 0)) (WL (remS c S) X R (tBuild (tSz T n (tva T))) P TU (remR c q) (remG c q G T) TN (vp_updL fo 0 ((tva T n).toInt64))) := by
  refine zMW.at (ls := [some (.ref 0), some (.ref 115), none]) (by decide +kernel) (Nat.le_of_ble_eq_true rfl) rfl ?_
  refine z_aload_1 dL_removeLast_0 ?_
  refine z_iconst (v := 0) dL_removeLast_1 rfl ?_
  refine z_aload_0 dL_removeLast_2 ?_
  refine Z.heap (h2 := FH S X R T P TU q G TN ++ [.inl (1, 1, .inr (.inl fo))]) rfl ?_
  refine Z.callPs (zRun.V (ρ := fun i => i) (k_f_removeLast S X R T P TU q G TN c hc h8 n hn h1 h40) dL_removeLast_3 zy_X6_removeLast zm_L_37 rfl rfl rfl rfl (Nat.le_of_ble_eq_true rfl) (by decide) (by decide)) (zlen2 115 rfl rfl) ?_
  refine Z.heap (h2 := WL (remS c S) X R (tBuild (tSz T n (tva T))) P TU (remR c q) (remG c q G T) TN fo) rfl ?_
  refine z_i2l dL_removeLast_6 ?_
  refine z_lastW dL_removeLast_7 ?_
  refine z_goto (tgt := 14) dL_removeLast_8 (by decide) ?_
  refine z_iconst (v := 0) dL_removeLast_14 rfl ?_
  exact z_iret dL_removeLast_15 rfl rfl rfl rfl
theorem k_L_restoreSnapshot (S X R : ZS) (T : TS) (P : ZS) (TU : TS) (q : Nat) (G : Nat → TS) (TN : TS) (hs : S.1 0 = 1)  (fo : Nat → Int64) : zMW sc yL_restoreSnapshot cL_restoreSnapshot 3 (some .int) 3 0 0 [.ref 0, .ref 115] (WL S X R T P TU q G TN fo) (some (.int 0)) (WL (sI 1 0 S) X R (tCopy TN T) P TU q G TN (vp_updL fo 0 ((tn TN).toInt64))) := by
  refine zMW.at (ls := [some (.ref 0), some (.ref 115), none]) (by decide +kernel) (Nat.le_of_ble_eq_true rfl) rfl ?_
  refine z_aload_1 dL_restoreSnapshot_0 ?_
  refine z_iconst (v := 0) dL_restoreSnapshot_1 rfl ?_
  refine z_aload_0 dL_restoreSnapshot_2 ?_
  refine Z.heap (h2 := FH S X R T P TU q G TN ++ [.inl (1, 1, .inr (.inl fo))]) rfl ?_
  refine Z.callPs (zRun.V (ρ := fun i => i) (k_f_restoreSnapshot S X R T P TU q G TN hs) dL_restoreSnapshot_3 zy_X6_restoreSnapshot zm_L_41 rfl rfl rfl rfl (Nat.le_of_ble_eq_true rfl) (by decide) (by decide)) (zlen2 115 rfl rfl) ?_
  refine Z.heap (h2 := WL (sI 1 0 S) X R (tCopy TN T) P TU q G TN fo) rfl ?_
  refine z_i2l dL_restoreSnapshot_6 ?_
  refine z_lastW dL_restoreSnapshot_7 ?_
  refine z_goto (tgt := 14) dL_restoreSnapshot_8 (by decide) ?_
  refine z_iconst (v := 0) dL_restoreSnapshot_14 rfl ?_
  exact z_iret dL_restoreSnapshot_15 rfl rfl rfl rfl
theorem k_L_element (n : Nat) (f : Nat) (S : ZS) (X : ZS) (R : ZS) (T : TS) (hn : tn T = nI n) (h40 : n ≤ 40) (hf : f < n) (P : ZS) (TU : TS) (q : Nat) (G : Nat → TS) (TN : TS) (fo : Nat → Int64) : zMW sc yL_element cL_element 4 (some .int) 3 0 0 [.ref 0, .int (nI (f)), .ref 115] (WL S X R T P TU q G TN fo) (some (.int 0)) (WL S X R T P TU q G TN (vp_updL fo 0 ((g_c_6_element n f S X R T).toInt64))) := by
  refine zMW.at (ls := [some (.ref 0), some (.int (nI (f))), some (.ref 115), none]) (by decide +kernel) (Nat.le_of_ble_eq_true rfl) rfl ?_
  refine z_aload_2 dL_element_0 ?_
  refine z_iconst (v := 0) dL_element_1 rfl ?_
  refine z_aload_0 dL_element_2 ?_
  refine z_iload_1 dL_element_3 ?_
  refine Z.heap (WL_q S X R T P TU q G TN fo) ?_
  refine Z.callPs (zRun.V (ρ := fun i => i) (k_c_6_element n f S X R T hn h40 hf) dL_element_4 zy_X6_element zm_L_46 rfl rfl rfl rfl (Nat.le_of_ble_eq_true rfl) (by decide) (by decide)) (zlen2 14 rfl rfl) ?_
  refine Z.heap (WL_q S X R T P TU q G TN fo).symm ?_
  refine z_i2l dL_element_7 ?_
  refine z_lastW dL_element_8 ?_
  refine z_goto (tgt := 15) dL_element_9 (by decide) ?_
  refine z_iconst (v := 0) dL_element_15 rfl ?_
  exact z_iret dL_element_16 rfl rfl rfl rfl
theorem k_L_element_x1 (x : Int32) (S : ZS) (X : ZS) (R : ZS) (T : TS) (hx : ¬ tIx T x) (P : ZS) (TU : TS) (q : Nat) (G : Nat → TS) (TN : TS) (fo : Nat → Int64) : zMW sc yL_element cL_element 4 (some .int) 10 1 6 [.ref 0, .int (x), .ref 115] (WL S X R T P TU q G TN fo) (some (.int 1)) (WL S X R T P TU q G TN fo) := by
  refine zMW.at (ls := [some (.ref 0), some (.int (x)), some (.ref 115), none]) (by decide +kernel) (Nat.le_of_ble_eq_true rfl) rfl ?_
  refine z_aload_2 dL_element_0 ?_
  refine z_iconst (v := 0) dL_element_1 rfl ?_
  refine z_aload_0 dL_element_2 ?_
  refine z_iload_1 dL_element_3 ?_
  refine WL_catch [] ⟨0, 9, 12, 19⟩ [] (zRun.V (ρ := fun i => i) (k_c_6_element_x1 x S X R T hx) dL_element_4 zy_X6_element zm_L_46 rfl rfl rfl rfl (Nat.le_of_ble_eq_true rfl) (by decide) (by decide)) (T9 := [(0, 9, 12, 19)]) (by decide +kernel) rfl ?_ (by decide) (by decide) zcl_L_19 zca_B (zbl_of rfl) ?_
  · exact fun z hz => absurd hz (List.not_mem_nil)
  show Z sc _ _ _ _ _ 0 0 12 _ _ _ _ _
  refine z_astore_3 dL_element_12 rfl (by decide) ?_
  refine z_iconst (v := 1) dL_element_13 rfl ?_
  exact z_iret dL_element_14 rfl rfl rfl rfl
theorem k_L_sum (n : Nat) (a : Nat) (b : Nat) (S : ZS) (X : ZS) (R : ZS) (T : TS) (hn : tn T = nI n) (h40 : n ≤ 40) (hab : a ≤ b) (hbn : b < n) (P : ZS) (TU : TS) (q : Nat) (G : Nat → TS) (TN : TS) (fo : Nat → Int64) : zMW sc yL_sum cL_sum 5 (some .int) 4 0 0 [.ref 0, .int (nI (a)), .int (nI (b)), .ref 115] (WL S X R T P TU q G TN fo) (some (.int 0)) (WL S X R T P TU q G TN (vp_updL fo 0 (g_c_6_sum n a b S X R T))) := by
  refine zMW.at (ls := [some (.ref 0), some (.int (nI (a))), some (.int (nI (b))), some (.ref 115), none]) (by decide +kernel) (Nat.le_of_ble_eq_true rfl) rfl ?_
  refine z_aload_3 dL_sum_0 ?_
  refine z_iconst (v := 0) dL_sum_1 rfl ?_
  refine z_aload_0 dL_sum_2 ?_
  refine z_iload_1 dL_sum_3 ?_
  refine z_iload_2 dL_sum_4 ?_
  refine Z.heap (WL_q S X R T P TU q G TN fo) ?_
  refine Z.callPs (zRun.V (ρ := fun i => i) (k_c_6_sum n a b S X R T hn h40 hab hbn) dL_sum_5 zy_X6_sum zm_L_49 rfl rfl rfl rfl (Nat.le_of_ble_eq_true rfl) (by decide) (by decide)) (zlen2 14 rfl rfl) ?_
  refine Z.heap (WL_q S X R T P TU q G TN fo).symm ?_
  refine z_lastW dL_sum_8 ?_
  refine z_goto (tgt := 20) dL_sum_9 (by decide) ?_
  refine z_iconst (v := 0) dL_sum_20 rfl ?_
  exact z_iret dL_sum_21 rfl rfl rfl rfl
theorem k_L_sum_x1 (n : Nat) (x : Int32) (z : Int32) (S : ZS) (X : ZS) (R : ZS) (T : TS) (hn : tn T = nI n) (h40 : n ≤ 40) (hx : ¬ (tIx T x ∧ tIx T z)) (P : ZS) (TU : TS) (q : Nat) (G : Nat → TS) (TN : TS) (fo : Nat → Int64) : zMW sc yL_sum cL_sum 5 (some .int) 11 1 6 [.ref 0, .int (x), .int (z), .ref 115] (WL S X R T P TU q G TN fo) (some (.int 1)) (WL S X R T P TU q G TN fo) := by
  refine zMW.at (ls := [some (.ref 0), some (.int (x)), some (.int (z)), some (.ref 115), none]) (by decide +kernel) (Nat.le_of_ble_eq_true rfl) rfl ?_
  refine z_aload_3 dL_sum_0 ?_
  refine z_iconst (v := 0) dL_sum_1 rfl ?_
  refine z_aload_0 dL_sum_2 ?_
  refine z_iload_1 dL_sum_3 ?_
  refine z_iload_2 dL_sum_4 ?_
  refine WL_catch [] ⟨0, 9, 12, 19⟩ [⟨0, 9, 16, 13⟩] (zRun.V (ρ := fun i => i) (k_c_6_sum_x1 n x z S X R T hn h40 hx) dL_sum_5 zy_X6_sum zm_L_49 rfl rfl rfl rfl (Nat.le_of_ble_eq_true rfl) (by decide) (by decide)) (T9 := [(0, 9, 12, 19), (0, 9, 16, 13)]) (by decide +kernel) rfl ?_ (by decide) (by decide) zcl_L_19 zca_B (zbl_of rfl) ?_
  · exact fun z hz => absurd hz (List.not_mem_nil)
  show Z sc _ _ _ _ _ 0 0 12 _ _ _ _ _
  refine z_astore_4 dL_sum_12 rfl (by decide) ?_
  refine z_iconst (v := 1) dL_sum_14 rfl ?_
  exact z_iret dL_sum_15 rfl rfl rfl rfl
theorem k_L_sum_x2 (n : Nat) (x : Int32) (z : Int32) (S : ZS) (X : ZS) (R : ZS) (T : TS) (hn : tn T = nI n) (h40 : n ≤ 40) (hx : tIx T x) (hz : tIx T z) (hzx : z < x) (P : ZS) (TU : TS) (q : Nat) (G : Nat → TS) (TN : TS) (fo : Nat → Int64) : zMW sc yL_sum cL_sum 5 (some .int) 11 1 6 [.ref 0, .int (x), .int (z), .ref 115] (WL S X R T P TU q G TN fo) (some (.int 2)) (WL S X R T P TU q G TN fo) := by
  refine zMW.at (ls := [some (.ref 0), some (.int (x)), some (.int (z)), some (.ref 115), none]) (by decide +kernel) (Nat.le_of_ble_eq_true rfl) rfl ?_
  refine z_aload_3 dL_sum_0 ?_
  refine z_iconst (v := 0) dL_sum_1 rfl ?_
  refine z_aload_0 dL_sum_2 ?_
  refine z_iload_1 dL_sum_3 ?_
  refine z_iload_2 dL_sum_4 ?_
  refine WL_catch [⟨0, 9, 12, 19⟩] ⟨0, 9, 16, 13⟩ [] (zRun.V (ρ := fun i => i) (k_c_6_sum_x2 n x z S X R T hn h40 hx hz hzx) dL_sum_5 zy_X6_sum zm_L_49 rfl rfl rfl rfl (Nat.le_of_ble_eq_true rfl) (by decide) (by decide)) (T9 := [(0, 9, 12, 19), (0, 9, 16, 13)]) (by decide +kernel) rfl ?_ (by decide) (by decide) zcl_L_13 zca_A (zbl_of rfl) ?_
  · intro z hz
    cases List.mem_singleton.mp hz
    exact zcat_b (y := yL_sum) (by decide) zcl_L_19 (fun _ _ _ h => h.2.2.2.2.2.2.1)
  show Z sc _ _ _ _ _ 0 0 16 _ _ _ _ _
  refine z_astore_4 dL_sum_16 rfl (by decide) ?_
  refine z_iconst (v := 2) dL_sum_18 rfl ?_
  exact z_iret dL_sum_19 rfl rfl rfl rfl
theorem k_L_least (n : Nat) (a : Nat) (b : Nat) (S : ZS) (X : ZS) (R : ZS) (T : TS) (hn : tn T = nI n) (h40 : n ≤ 40) (hab : a ≤ b) (hbn : b < n) (P : ZS) (TU : TS) (q : Nat) (G : Nat → TS) (TN : TS) (fo : Nat → Int64) : zMW sc yL_least cL_least 5 (some .int) 4 0 0 [.ref 0, .int (nI (a)), .int (nI (b)), .ref 115] (WL S X R T P TU q G TN fo) (some (.int 0)) (WL S X R T P TU q G TN (vp_updL fo 0 ((g_c_6_least n a b S X R T).toInt64))) := by
  refine zMW.at (ls := [some (.ref 0), some (.int (nI (a))), some (.int (nI (b))), some (.ref 115), none]) (by decide +kernel) (Nat.le_of_ble_eq_true rfl) rfl ?_
  refine z_aload_3 dL_least_0 ?_
  refine z_iconst (v := 0) dL_least_1 rfl ?_
  refine z_aload_0 dL_least_2 ?_
  refine z_iload_1 dL_least_3 ?_
  refine z_iload_2 dL_least_4 ?_
  refine Z.heap (WL_q S X R T P TU q G TN fo) ?_
  refine Z.callPs (zRun.V (ρ := fun i => i) (k_c_6_least n a b S X R T hn h40 hab hbn) dL_least_5 zy_X6_least zm_L_53 rfl rfl rfl rfl (Nat.le_of_ble_eq_true rfl) (by decide) (by decide)) (zlen2 14 rfl rfl) ?_
  refine Z.heap (WL_q S X R T P TU q G TN fo).symm ?_
  refine z_i2l dL_least_8 ?_
  refine z_lastW dL_least_9 ?_
  refine z_goto (tgt := 21) dL_least_10 (by decide) ?_
  refine z_iconst (v := 0) dL_least_21 rfl ?_
  exact z_iret dL_least_22 rfl rfl rfl rfl
theorem k_L_least_x1 (n : Nat) (x : Int32) (z : Int32) (S : ZS) (X : ZS) (R : ZS) (T : TS) (hn : tn T = nI n) (h40 : n ≤ 40) (hx : ¬ (tIx T x ∧ tIx T z)) (P : ZS) (TU : TS) (q : Nat) (G : Nat → TS) (TN : TS) (fo : Nat → Int64) : zMW sc yL_least cL_least 5 (some .int) 11 1 6 [.ref 0, .int (x), .int (z), .ref 115] (WL S X R T P TU q G TN fo) (some (.int 1)) (WL S X R T P TU q G TN fo) := by
  refine zMW.at (ls := [some (.ref 0), some (.int (x)), some (.int (z)), some (.ref 115), none]) (by decide +kernel) (Nat.le_of_ble_eq_true rfl) rfl ?_
  refine z_aload_3 dL_least_0 ?_
  refine z_iconst (v := 0) dL_least_1 rfl ?_
  refine z_aload_0 dL_least_2 ?_
  refine z_iload_1 dL_least_3 ?_
  refine z_iload_2 dL_least_4 ?_
  refine WL_catch [] ⟨0, 10, 13, 19⟩ [⟨0, 10, 17, 13⟩] (zRun.V (ρ := fun i => i) (k_c_6_least_x1 n x z S X R T hn h40 hx) dL_least_5 zy_X6_least zm_L_53 rfl rfl rfl rfl (Nat.le_of_ble_eq_true rfl) (by decide) (by decide)) (T9 := [(0, 10, 13, 19), (0, 10, 17, 13)]) (by decide +kernel) rfl ?_ (by decide) (by decide) zcl_L_19 zca_B (zbl_of rfl) ?_
  · exact fun z hz => absurd hz (List.not_mem_nil)
  show Z sc _ _ _ _ _ 0 0 13 _ _ _ _ _
  refine z_astore_4 dL_least_13 rfl (by decide) ?_
  refine z_iconst (v := 1) dL_least_15 rfl ?_
  exact z_iret dL_least_16 rfl rfl rfl rfl
theorem k_L_least_x2 (n : Nat) (x : Int32) (z : Int32) (S : ZS) (X : ZS) (R : ZS) (T : TS) (hn : tn T = nI n) (h40 : n ≤ 40) (hx : tIx T x) (hz : tIx T z) (hzx : z < x) (P : ZS) (TU : TS) (q : Nat) (G : Nat → TS) (TN : TS) (fo : Nat → Int64) : zMW sc yL_least cL_least 5 (some .int) 11 1 6 [.ref 0, .int (x), .int (z), .ref 115] (WL S X R T P TU q G TN fo) (some (.int 2)) (WL S X R T P TU q G TN fo) := by
  refine zMW.at (ls := [some (.ref 0), some (.int (x)), some (.int (z)), some (.ref 115), none]) (by decide +kernel) (Nat.le_of_ble_eq_true rfl) rfl ?_
  refine z_aload_3 dL_least_0 ?_
  refine z_iconst (v := 0) dL_least_1 rfl ?_
  refine z_aload_0 dL_least_2 ?_
  refine z_iload_1 dL_least_3 ?_
  refine z_iload_2 dL_least_4 ?_
  refine WL_catch [⟨0, 10, 13, 19⟩] ⟨0, 10, 17, 13⟩ [] (zRun.V (ρ := fun i => i) (k_c_6_least_x2 n x z S X R T hn h40 hx hz hzx) dL_least_5 zy_X6_least zm_L_53 rfl rfl rfl rfl (Nat.le_of_ble_eq_true rfl) (by decide) (by decide)) (T9 := [(0, 10, 13, 19), (0, 10, 17, 13)]) (by decide +kernel) rfl ?_ (by decide) (by decide) zcl_L_13 zca_A (zbl_of rfl) ?_
  · intro z hz
    cases List.mem_singleton.mp hz
    exact zcat_b (y := yL_least) (by decide) zcl_L_19 (fun _ _ _ h => h.2.2.2.2.2.2.1)
  show Z sc _ _ _ _ _ 0 0 17 _ _ _ _ _
  refine z_astore_4 dL_least_17 rfl (by decide) ?_
  refine z_iconst (v := 2) dL_least_19 rfl ?_
  exact z_iret dL_least_20 rfl rfl rfl rfl
theorem k_L_greatest (n : Nat) (a : Nat) (b : Nat) (S : ZS) (X : ZS) (R : ZS) (T : TS) (hn : tn T = nI n) (h40 : n ≤ 40) (hab : a ≤ b) (hbn : b < n) (P : ZS) (TU : TS) (q : Nat) (G : Nat → TS) (TN : TS) (fo : Nat → Int64) : zMW sc yL_greatest cL_greatest 5 (some .int) 4 0 0 [.ref 0, .int (nI (a)), .int (nI (b)), .ref 115] (WL S X R T P TU q G TN fo) (some (.int 0)) (WL S X R T P TU q G TN (vp_updL fo 0 ((g_c_6_greatest n a b S X R T).toInt64))) := by
  refine zMW.at (ls := [some (.ref 0), some (.int (nI (a))), some (.int (nI (b))), some (.ref 115), none]) (by decide +kernel) (Nat.le_of_ble_eq_true rfl) rfl ?_
  refine z_aload_3 dL_greatest_0 ?_
  refine z_iconst (v := 0) dL_greatest_1 rfl ?_
  refine z_aload_0 dL_greatest_2 ?_
  refine z_iload_1 dL_greatest_3 ?_
  refine z_iload_2 dL_greatest_4 ?_
  refine Z.heap (WL_q S X R T P TU q G TN fo) ?_
  refine Z.callPs (zRun.V (ρ := fun i => i) (k_c_6_greatest n a b S X R T hn h40 hab hbn) dL_greatest_5 zy_X6_greatest zm_L_56 rfl rfl rfl rfl (Nat.le_of_ble_eq_true rfl) (by decide) (by decide)) (zlen2 14 rfl rfl) ?_
  refine Z.heap (WL_q S X R T P TU q G TN fo).symm ?_
  refine z_i2l dL_greatest_8 ?_
  refine z_lastW dL_greatest_9 ?_
  refine z_goto (tgt := 21) dL_greatest_10 (by decide) ?_
  refine z_iconst (v := 0) dL_greatest_21 rfl ?_
  exact z_iret dL_greatest_22 rfl rfl rfl rfl
theorem k_L_greatest_x1 (n : Nat) (x : Int32) (z : Int32) (S : ZS) (X : ZS) (R : ZS) (T : TS) (hn : tn T = nI n) (h40 : n ≤ 40) (hx : ¬ (tIx T x ∧ tIx T z)) (P : ZS) (TU : TS) (q : Nat) (G : Nat → TS) (TN : TS) (fo : Nat → Int64) : zMW sc yL_greatest cL_greatest 5 (some .int) 11 1 6 [.ref 0, .int (x), .int (z), .ref 115] (WL S X R T P TU q G TN fo) (some (.int 1)) (WL S X R T P TU q G TN fo) := by
  refine zMW.at (ls := [some (.ref 0), some (.int (x)), some (.int (z)), some (.ref 115), none]) (by decide +kernel) (Nat.le_of_ble_eq_true rfl) rfl ?_
  refine z_aload_3 dL_greatest_0 ?_
  refine z_iconst (v := 0) dL_greatest_1 rfl ?_
  refine z_aload_0 dL_greatest_2 ?_
  refine z_iload_1 dL_greatest_3 ?_
  refine z_iload_2 dL_greatest_4 ?_
  refine WL_catch [] ⟨0, 10, 13, 19⟩ [⟨0, 10, 17, 13⟩] (zRun.V (ρ := fun i => i) (k_c_6_greatest_x1 n x z S X R T hn h40 hx) dL_greatest_5 zy_X6_greatest zm_L_56 rfl rfl rfl rfl (Nat.le_of_ble_eq_true rfl) (by decide) (by decide)) (T9 := [(0, 10, 13, 19), (0, 10, 17, 13)]) (by decide +kernel) rfl ?_ (by decide) (by decide) zcl_L_19 zca_B (zbl_of rfl) ?_
  · exact fun z hz => absurd hz (List.not_mem_nil)
  show Z sc _ _ _ _ _ 0 0 13 _ _ _ _ _
  refine z_astore_4 dL_greatest_13 rfl (by decide) ?_
  refine z_iconst (v := 1) dL_greatest_15 rfl ?_
  exact z_iret dL_greatest_16 rfl rfl rfl rfl
theorem k_L_greatest_x2 (n : Nat) (x : Int32) (z : Int32) (S : ZS) (X : ZS) (R : ZS) (T : TS) (hn : tn T = nI n) (h40 : n ≤ 40) (hx : tIx T x) (hz : tIx T z) (hzx : z < x) (P : ZS) (TU : TS) (q : Nat) (G : Nat → TS) (TN : TS) (fo : Nat → Int64) : zMW sc yL_greatest cL_greatest 5 (some .int) 11 1 6 [.ref 0, .int (x), .int (z), .ref 115] (WL S X R T P TU q G TN fo) (some (.int 2)) (WL S X R T P TU q G TN fo) := by
  refine zMW.at (ls := [some (.ref 0), some (.int (x)), some (.int (z)), some (.ref 115), none]) (by decide +kernel) (Nat.le_of_ble_eq_true rfl) rfl ?_
  refine z_aload_3 dL_greatest_0 ?_
  refine z_iconst (v := 0) dL_greatest_1 rfl ?_
  refine z_aload_0 dL_greatest_2 ?_
  refine z_iload_1 dL_greatest_3 ?_
  refine z_iload_2 dL_greatest_4 ?_
  refine WL_catch [⟨0, 10, 13, 19⟩] ⟨0, 10, 17, 13⟩ [] (zRun.V (ρ := fun i => i) (k_c_6_greatest_x2 n x z S X R T hn h40 hx hz hzx) dL_greatest_5 zy_X6_greatest zm_L_56 rfl rfl rfl rfl (Nat.le_of_ble_eq_true rfl) (by decide) (by decide)) (T9 := [(0, 10, 13, 19), (0, 10, 17, 13)]) (by decide +kernel) rfl ?_ (by decide) (by decide) zcl_L_13 zca_A (zbl_of rfl) ?_
  · intro z hz
    cases List.mem_singleton.mp hz
    exact zcat_b (y := yL_greatest) (by decide) zcl_L_19 (fun _ _ _ h => h.2.2.2.2.2.2.1)
  show Z sc _ _ _ _ _ 0 0 17 _ _ _ _ _
  refine z_astore_4 dL_greatest_17 rfl (by decide) ?_
  refine z_iconst (v := 2) dL_greatest_19 rfl ?_
  exact z_iret dL_greatest_20 rfl rfl rfl rfl
