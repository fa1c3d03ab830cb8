variable {sc : SC}

theorem clear_gr {n : Nat} : ∀ fu k S, mGr n S → mGr n (g_m_clearMarks_L fu k S) := by
  intro fu
  induction fu with
  | zero => intro k S h; exact h
  | succ fu ih =>
    intro k S h
    rw [g_m_clearMarks_L]
    exact ih _ _ ((h.sA (by decide) (by decide) (by decide) (fun _ => by omega)).sA (by decide) (by decide) (by decide) (fun _ => by omega))
theorem settles_L2 {n : Nat} : ∀ fu i S, mGr n S → mGr n (g_m_settles_L2 n fu i S) := by
  intro fu
  induction fu with
  | zero => intro i S h; exact clear_gr _ _ _ h
  | succ fu ih =>
    intro i S h
    rw [g_m_settles_L2]
    exact ih _ _ (h.sA (by decide) (by decide) (by decide) (fun _ => by omega))
theorem settles_L1 {n : Nat} : ∀ fu i S, mGr n S → mGr n (g_m_settles_L1 n fu i S) := by
  intro fu
  induction fu with
  | zero => intro i S h; exact settles_L2 _ _ _ h
  | succ fu ih =>
    intro i S h
    rw [g_m_settles_L1]
    exact ih _ _ (h.sA (by decide) (by decide) (by decide) (fun z => absurd z (by decide)))
theorem mGr_settles {n : Nat} {S : ZS} (h1 : 1 ≤ n) (h40 : n ≤ 40) (h : mOK n S) : mGr n (g_m_settles n S) := by
  rw [g_m_settles]
  exact settles_L1 _ _ _ ((mGr_of h1 h40 h).sA (by decide) (by decide) (by decide) (fun z => absurd z (by decide)))
theorem fits_2 (n f t : Nat) (a : Int32) (S : ZS) : (g_m_fits n f t a S).2 = g_m_grows n S := by
  rw [g_m_fits]
  repeat' split
  all_goals rfl
theorem isNode_2 (n k : Nat) (S : ZS) : (g_m_isNode n k S).2 = g_m_grows n S := by
  rw [g_m_isNode]
  split <;> rfl
noncomputable def g_m_appends (n : Nat) (v : Int32) (S : ZS) : Nat × ZS := (n + 1, (sA 0 (0) (nI (n + 1)) (sA 0 (4 + n) (v) (g_m_settles n S))))
theorem k_m_appends (n : Nat) (v : Int32) (S : ZS) (h1 : 1 ≤ n) (h40 : n ≤ 40) (hO : mOK n S) (h39 : n < 40) : zM sc yX7_appends cX7_appends 2 (some .int) 3 0 0 [.ref 0, .int (v)] (mh S) (.inl (some (.int (nI (g_m_appends n v S).1)))) (mh (g_m_appends n v S).2) := by
  refine zM.at (ls := [some (.ref 0), some (.int (v))]) zy_X7_appends.2.2.2.2.2 (Nat.le_of_ble_eq_true rfl) rfl ?_
  refine z_aload_0 dX7_appends_0 ?_
  refine Z.call0n (zRun.V (ρ := fun i => i) (k_m_settles n S h1 h40 hO) dX7_appends_1 zy_X7_settles zm_X7_127 rfl rfl rfl rfl (Nat.le_of_ble_eq_true rfl) (by decide) (by decide)) (zlen2 14 rfl rfl) ?_
  refine z_aload_0 dX7_appends_4 ?_
  refine z_get (k := 0) (v := .ref 1) dX7_appends_5 rfl rfl rfl (by decide) zf_X7_7 zw_in7 ?_
  refine z_iconst (v := 4) dX7_appends_8 rfl ?_
  refine z_aload_0 dX7_appends_9 ?_
  refine z_get (k := 0) (v := .ref 1) dX7_appends_10 rfl rfl rfl (by decide) zf_X7_7 zw_in7 ?_
  refine z_iconst (v := 0) dX7_appends_13 rfl ?_
  refine z_ialdN (k := 0) dX7_appends_14 rfl (by first | omega | assumption) (by decide) ?_
  refine z_topi (w := ((g_m_settles n S)).2 0 (0)) rfl ?_
  refine z_topi (w := nI (n)) (mGr_settles h1 h40 hO).1 ?_
  refine z_iadd dX7_appends_15 ?_
  refine z_topi (w := nI (4 + n)) (nI_add _ _) ?_
  refine z_iload_1 dX7_appends_16 ?_
  refine z_iastN (k := (4 + n)) dX7_appends_17 rfl (by first | omega | assumption) (by decide) ?_
  refine Z.heap (h2 := mh (sA 0 (4 + n) (v) (g_m_settles n S))) rfl ?_
  refine z_aload_0 dX7_appends_18 ?_
  refine z_get (k := 0) (v := .ref 1) dX7_appends_19 rfl rfl rfl (by decide) zf_X7_7 zw_in7 ?_
  refine z_iconst (v := 0) dX7_appends_22 rfl ?_
  refine z_dup2 dX7_appends_23 rfl rfl ?_
  refine z_ialdN (k := 0) dX7_appends_24 rfl (by first | omega | assumption) (by decide) ?_
  refine z_topi (w := ((g_m_settles n S)).2 0 (0)) (by rw [sA_o (by omega)]) ?_
  refine z_topi (w := nI (n)) (mGr_settles h1 h40 hO).1 ?_
  refine z_iconst (v := 1) dX7_appends_25 rfl ?_
  refine z_iadd dX7_appends_26 ?_
  refine z_topi (w := nI (n + 1)) (nI_add _ _) ?_
  refine z_iastN (k := 0) dX7_appends_27 rfl (by first | omega | assumption) (by decide) ?_
  refine Z.heap (h2 := mh (sA 0 (0) (nI (n + 1)) (sA 0 (4 + n) (v) (g_m_settles n S)))) rfl ?_
  refine z_aload_0 dX7_appends_28 ?_
  refine z_get (k := 0) (v := .ref 1) dX7_appends_29 rfl rfl rfl (by decide) zf_X7_7 zw_in7 ?_
  refine z_iconst (v := 0) dX7_appends_32 rfl ?_
  refine z_ialdN (k := 0) dX7_appends_33 rfl (by first | omega | assumption) (by decide) ?_
  refine z_topi (w := nI (n + 1)) (by rw [sA_same]) ?_
  rw [g_m_appends]
  exact z_iret dX7_appends_34 rfl rfl rfl rfl
noncomputable def g_m_removes (n : Nat) (S : ZS) : Int32 × ZS := (((g_m_settles n S)).2 0 (4 + (n - 1)), (sA 0 (4 + (n - 1)) (0) (sA 0 (0) (nI (n - 1)) (g_m_settles n S))))
theorem k_m_removes (n : Nat) (S : ZS) (h1 : 1 ≤ n) (h40 : n ≤ 40) (hO : mOK n S) (h2 : 2 ≤ n) : zM sc yX7_removes cX7_removes 2 (some .int) 3 0 0 [.ref 0] (mh S) (.inl (some (.int (g_m_removes n S).1))) (mh (g_m_removes n S).2) := by
  refine zM.at (ls := [some (.ref 0), none]) zy_X7_removes.2.2.2.2.2 (Nat.le_of_ble_eq_true rfl) rfl ?_
  refine z_aload_0 dX7_removes_0 ?_
  refine Z.call0n (zRun.V (ρ := fun i => i) (k_m_settles n S h1 h40 hO) dX7_removes_1 zy_X7_settles zm_X7_127 rfl rfl rfl rfl (Nat.le_of_ble_eq_true rfl) (by decide) (by decide)) (zlen2 14 rfl rfl) ?_
  refine z_aload_0 dX7_removes_4 ?_
  refine z_get (k := 0) (v := .ref 1) dX7_removes_5 rfl rfl rfl (by decide) zf_X7_7 zw_in7 ?_
  refine z_iconst (v := 0) dX7_removes_8 rfl ?_
  refine z_dup2 dX7_removes_9 rfl rfl ?_
  refine z_ialdN (k := 0) dX7_removes_10 rfl (by first | omega | assumption) (by decide) ?_
  refine z_topi (w := ((g_m_settles n S)).2 0 (0)) rfl ?_
  refine z_topi (w := nI (n)) (mGr_settles h1 h40 hO).1 ?_
  refine z_iconst (v := 1) dX7_removes_11 rfl ?_
  refine z_isub dX7_removes_12 ?_
  refine z_topi (w := nI (n - 1)) (pk_sub (a := n) (b := 1) (by first | omega | assumption)) ?_
  refine z_iastN (k := 0) dX7_removes_13 rfl (by first | omega | assumption) (by decide) ?_
  refine Z.heap (h2 := mh (sA 0 (0) (nI (n - 1)) (g_m_settles n S))) rfl ?_
  refine z_aload_0 dX7_removes_14 ?_
  refine z_get (k := 0) (v := .ref 1) dX7_removes_15 rfl rfl rfl (by decide) zf_X7_7 zw_in7 ?_
  refine z_iconst (v := 4) dX7_removes_18 rfl ?_
  refine z_aload_0 dX7_removes_19 ?_
  refine z_get (k := 0) (v := .ref 1) dX7_removes_20 rfl rfl rfl (by decide) zf_X7_7 zw_in7 ?_
  refine z_iconst (v := 0) dX7_removes_23 rfl ?_
  refine z_ialdN (k := 0) dX7_removes_24 rfl (by first | omega | assumption) (by decide) ?_
  refine z_topi (w := nI (n - 1)) (by rw [sA_same]) ?_
  refine z_iadd dX7_removes_25 ?_
  refine z_topi (w := nI (4 + (n - 1))) (nI_add _ _) ?_
  refine z_ialdN (k := (4 + (n - 1))) dX7_removes_26 rfl (by first | omega | assumption) (by decide) ?_
  refine z_topi (w := ((g_m_settles n S)).2 0 (4 + (n - 1))) (by rw [sA_o (by omega)]) ?_
  refine z_istore_1 dX7_removes_27 rfl (by decide) ?_
  refine z_aload_0 dX7_removes_28 ?_
  refine z_get (k := 0) (v := .ref 1) dX7_removes_29 rfl rfl rfl (by decide) zf_X7_7 zw_in7 ?_
  refine z_iconst (v := 4) dX7_removes_32 rfl ?_
  refine z_aload_0 dX7_removes_33 ?_
  refine z_get (k := 0) (v := .ref 1) dX7_removes_34 rfl rfl rfl (by decide) zf_X7_7 zw_in7 ?_
  refine z_iconst (v := 0) dX7_removes_37 rfl ?_
  refine z_ialdN (k := 0) dX7_removes_38 rfl (by first | omega | assumption) (by decide) ?_
  refine z_topi (w := nI (n - 1)) (by rw [sA_same]) ?_
  refine z_iadd dX7_removes_39 ?_
  refine z_topi (w := nI (4 + (n - 1))) (nI_add _ _) ?_
  refine z_iconst (v := 0) dX7_removes_40 rfl ?_
  refine z_iastN (k := (4 + (n - 1))) dX7_removes_41 rfl (by first | omega | assumption) (by decide) ?_
  refine Z.heap (h2 := mh (sA 0 (4 + (n - 1)) (0) (sA 0 (0) (nI (n - 1)) (g_m_settles n S)))) rfl ?_
  refine z_iload_1 dX7_removes_42 ?_
  rw [g_m_removes]
  exact z_iret dX7_removes_43 rfl rfl rfl rfl
