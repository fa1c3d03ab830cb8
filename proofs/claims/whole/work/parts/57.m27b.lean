variable {sc : SC}

theorem grw_14 {n : Nat} {S : ZS} (h1 : 1 ≤ n) (h40 : n ≤ 40) : (g_m_grows n (sI 14 0 (sI 15 0 S))).1 14 = nI (mr (g_m_grows n (sI 14 0 (sI 15 0 S)))) ∧ mr (g_m_grows n (sI 14 0 (sI 15 0 S))) = 0 := by
  have e : (g_m_grows n (sI 14 0 (sI 15 0 S))).1 14 = nI 0 := (mEq_grows (sI 14 0 (sI 15 0 S)) h1 h40).1 14 (by decide)
  have e2 := mr_nI e (by decide)
  exact ⟨by rw [e2]; exact e, e2⟩
theorem grw_0 {n : Nat} {S : ZS} (h1 : 1 ≤ n) (h40 : n ≤ 40) : (g_m_grows n (sI 14 0 (sI 15 0 S))).2 0 = S.2 0 := (mEq_grows (sI 14 0 (sI 15 0 S)) h1 h40).2 0 (by decide) (by decide) (by decide)
noncomputable def s_m_writeRange_1 (n : Nat) (f : Nat) (S : ZS) : ZS := (g_m_wnum ((g_m_value n f (sI 14 (0) (sI 15 (0) S))).1) (g_m_grows n (sI 14 (0) (sI 15 (0) S))))
noncomputable def g_m_writeRange_L (n : Nat) (f : Nat) (t : Nat) : Nat → Nat → ZS → Int32 × ZS
  | 0, _, S => (S.1 14, S)
  | fu + 1, i, S => g_m_writeRange_L n f t fu (i + 1) (g_m_wnum ((g_m_valueG n i (g_m_write (44) S))) (g_m_write (44) S))
theorem l_g_m_writeRange_L (n : Nat) (f : Nat) (t : Nat) : ∀ (fu : Nat) (i : Nat) (S : ZS) , (1 ≤ n) → (n ≤ 40) → (f ≤ t) → (t < n) → (i + fu = t + 1) → (f < i) → (mGr n S) → (mBd n S) → (S.1 14 = nI (mr S)) → (mr S + 9 * fu ≤ 400) → Z sc yX7_writeRange cX7_writeRange 4 (some .int) 9 0 0 18 [some (.ref 0), some (.int (nI (f))), some (.int (nI (t))), some (.int (nI (i)))] [] (mh S) (.inl (some (.int (g_m_writeRange_L n f t fu i S).1))) (mh (g_m_writeRange_L n f t fu i S).2) := by
  intro fu
  induction fu with
  | zero =>
    intro i S h1 h40 hft ht hi hfi hG hB hr h4
    refine z_iload_3 dX7_writeRange_18 ?_
    refine z_iload_2 dX7_writeRange_19 ?_
    refine z_icmpN_gt_t (tgt := 49) dX7_writeRange_20 (by decide) (x := i) (z := t) (by first | omega | assumption) (by first | omega | assumption) (by omega) ?_
    refine z_aload_0 dX7_writeRange_49 ?_
    refine z_get (k := 14) (v := .int (S.1 14)) dX7_writeRange_50 rfl rfl rfl (by decide) zf_X7_334 zw_in7 ?_
    rw [g_m_writeRange_L]
    try dsimp only
    exact z_iret dX7_writeRange_53 rfl (zint _) rfl rfl
  | succ fu ih =>
    intro i S h1 h40 hft ht hi hfi hG hB hr h4
    refine z_iload_3 dX7_writeRange_18 ?_
    refine z_iload_2 dX7_writeRange_19 ?_
    refine z_icmpN_gt_f (tgt := 49) dX7_writeRange_20 (by decide) (x := i) (z := t) (by first | omega | assumption) (by first | omega | assumption) (by omega) ?_
    refine z_iload_3 dX7_writeRange_23 ?_
    refine z_iload_1 dX7_writeRange_24 ?_
    refine z_icmpN_le_f (tgt := 34) dX7_writeRange_25 (by decide) (x := i) (z := f) (by first | omega | assumption) (by first | omega | assumption) (by omega) ?_
    refine z_aload_0 dX7_writeRange_28 ?_
    refine z_bipush (v := 44) dX7_writeRange_29 rfl ?_
    refine Z.call0n (zRun.V (ρ := fun i => i) (k_m_write (44) S hr (by omega)) dX7_writeRange_31 zy_X7_write zm_X7_337 rfl rfl rfl rfl (Nat.le_of_ble_eq_true rfl) (by decide) (by decide)) (zlen2 14 rfl rfl) ?_
    refine z_aload_0 dX7_writeRange_34 ?_
    refine z_aload_0 dX7_writeRange_35 ?_
    refine z_iload_3 dX7_writeRange_36 ?_
    refine Z.call0s (zRun.V (ρ := fun i => i) (k_m_valueG n i (g_m_write (44) S) h1 h40 (by first | omega | assumption) ((rF_write _ _).gr hG)) dX7_writeRange_37 zy_X7_value zm_X7_120 rfl rfl rfl rfl (Nat.le_of_ble_eq_true rfl) (by decide) (by decide)) (zlen2 14 rfl rfl) ?_
    refine Z.call0n (zRun.V (ρ := fun i => i) (k_m_wnum ((g_m_valueG n i (g_m_write (44) S))) (g_m_write (44) S) (write_14 (by omega)).1 (by have := (write_14 (c := 44) (S := S) (by omega)).2; omega) (by rw [valueG_eq ((rF_write 44 S).2 0 (by decide))]; exact (hB i (by omega)).1) (by rw [valueG_eq ((rF_write 44 S).2 0 (by decide))]; exact (hB i (by omega)).2)) dX7_writeRange_40 zy_X7_writeNumber zm_X7_340 rfl rfl rfl rfl (Nat.le_of_ble_eq_true rfl) (by decide) (by decide)) (zlen2 14 rfl rfl) ?_
    refine z_iinc_3 (v := nI (i + 1)) dX7_writeRange_43 (nI_add _ 1) rfl (by decide) ?_
    refine z_goto (tgt := 18) dX7_writeRange_46 (by decide) ?_
    rw [g_m_writeRange_L]
    exact ih (i + 1) (g_m_wnum ((g_m_valueG n i (g_m_write (44) S))) (g_m_write (44) S)) (by first | omega | assumption) (by first | omega | assumption) (by first | omega | assumption) (by first | omega | assumption) (by first | omega | assumption) (by first | omega | assumption) ((rF_wnum _ _).gr ((rF_write _ _).gr hG)) ((hB.eq ((rF_write _ _).2 0 (by decide))).eq ((rF_wnum _ _).2 0 (by decide))) (wnum_mr (write_14 (by omega)).1 (by have := (write_14 (c := 44) (S := S) (by omega)).2; omega)).1 (by have h8 := write_14 (c := 44) (S := S) (by omega); have := (wnum_mr (v := g_m_valueG n i (g_m_write 44 S)) h8.1 (by omega)).2; omega)
noncomputable def g_m_writeRange (n : Nat) (f : Nat) (t : Nat) (S : ZS) : Int32 × ZS := g_m_writeRange_L n f t (t - f) (f + 1) (s_m_writeRange_1 n f S)
theorem k_m_writeRange (n : Nat) (f : Nat) (t : Nat) (S : ZS) (h1 : 1 ≤ n) (h40 : n ≤ 40) (hft : f ≤ t) (ht : t < n) (hO : mOK n S) (hB : mBd n S) : zM sc yX7_writeRange cX7_writeRange 4 (some .int) 9 0 0 [.ref 0, .int (nI (f)), .int (nI (t))] (mh S) (.inl (some (.int (g_m_writeRange n f t S).1))) (mh (g_m_writeRange n f t S).2) := by
  refine zM.at (ls := [some (.ref 0), some (.int (nI (f))), some (.int (nI (t))), none]) zy_X7_writeRange.2.2.2.2.2 (Nat.le_of_ble_eq_true rfl) rfl ?_
  refine z_aload_0 dX7_writeRange_0 ?_
  refine z_iload_1 dX7_writeRange_1 ?_
  refine z_iload_2 dX7_writeRange_2 ?_
  refine Z.call0s (zRun.V (ρ := fun i => i) (k_m_tr_ok n f t S h1 h40 hft ht hO) dX7_writeRange_3 zy_X7_throwsRange zm_X7_301 rfl rfl rfl rfl (Nat.le_of_ble_eq_true rfl) (by decide) (by decide)) (zlen2 14 rfl rfl) ?_
  refine Z.heap (h2 := mh (sI 15 (0) S)) rfl ?_
  refine z_topi (w := 0) rfl ?_
  refine z_if_eq_t (tgt := 11) dX7_writeRange_6 (by decide) (by decide) ?_
  refine z_aload_0 dX7_writeRange_11 ?_
  refine z_iconst (v := 0) dX7_writeRange_12 rfl ?_
  refine z_put (k := 14) (ty := tyX7) dX7_writeRange_13 rfl rfl (by decide) zf_X7_334 zw_in7 tyX7_ok nmX7 rfl (fun _ => ⟨rfl, rfl⟩) (Nat.le_of_ble_eq_true rfl) ?_
  refine Z.heap (h2 := mh (sI 14 (0) (sI 15 (0) S))) rfl ?_
  refine z_iload_1 dX7_writeRange_16 ?_
  refine z_istore_3 dX7_writeRange_17 rfl (by decide) ?_
  refine z_iload_3 dX7_writeRange_18 ?_
  refine z_iload_2 dX7_writeRange_19 ?_
  refine z_icmpN_gt_f (tgt := 49) dX7_writeRange_20 (by decide) (x := f) (z := t) (by first | omega | assumption) (by first | omega | assumption) (by omega) ?_
  refine z_iload_3 dX7_writeRange_23 ?_
  refine z_iload_1 dX7_writeRange_24 ?_
  refine z_icmpN_le_t (tgt := 34) dX7_writeRange_25 (by decide) (x := f) (z := f) (by first | omega | assumption) (by first | omega | assumption) (by omega) ?_
  refine z_aload_0 dX7_writeRange_34 ?_
  refine z_aload_0 dX7_writeRange_35 ?_
  refine z_iload_3 dX7_writeRange_36 ?_
  refine Z.call0s (zRun.V (ρ := fun i => i) (k_m_value n f (sI 14 (0) (sI 15 (0) S)) h1 h40 (by first | omega | assumption) ((hO.sI (by decide)).sI (by decide))) dX7_writeRange_37 zy_X7_value zm_X7_120 rfl rfl rfl rfl (Nat.le_of_ble_eq_true rfl) (by decide) (by decide)) (zlen2 14 rfl rfl) ?_
  refine Z.heap (h2 := mh (g_m_grows n (sI 14 (0) (sI 15 (0) S)))) (by rw [g_m_value_2]) ?_
  refine Z.call0n (zRun.V (ρ := fun i => i) (k_m_wnum ((g_m_value n f (sI 14 (0) (sI 15 (0) S))).1) (g_m_grows n (sI 14 (0) (sI 15 (0) S))) (grw_14 h1 h40).1 (by have := (grw_14 (S := S) h1 h40).2; omega) (by have h9 := hB f (by omega); rw [← valueG_eq (grw_0 h1 h40)] at h9; exact h9.1) (by have h9 := hB f (by omega); rw [← valueG_eq (grw_0 h1 h40)] at h9; exact h9.2)) dX7_writeRange_40 zy_X7_writeNumber zm_X7_340 rfl rfl rfl rfl (Nat.le_of_ble_eq_true rfl) (by decide) (by decide)) (zlen2 14 rfl rfl) ?_
  refine z_iinc_3 (v := nI (f + 1)) dX7_writeRange_43 (nI_add _ 1) rfl (by decide) ?_
  refine z_goto (tgt := 18) dX7_writeRange_46 (by decide) ?_
  rw [g_m_writeRange]
  exact l_g_m_writeRange_L n f t (t - f) (f + 1) (s_m_writeRange_1 n f S) (by first | omega | assumption) (by first | omega | assumption) (by first | omega | assumption) (by first | omega | assumption) (by first | omega | assumption) (by first | omega | assumption) ((rF_wnum _ _).gr (mGr_of h1 h40 ((hO.sI (by decide)).sI (by decide)))) ((hB.eq (grw_0 h1 h40)).eq ((rF_wnum _ _).2 0 (by decide))) (wnum_mr (grw_14 h1 h40).1 (by have := (grw_14 (S := S) h1 h40).2; omega)).1 (by have h8 := (grw_14 (S := S) h1 h40).2; have h7 : mr (s_m_writeRange_1 n f S) ≤ mr (g_m_grows n (sI 14 0 (sI 15 0 S))) + 8 := (wnum_mr (v := (g_m_value n f (sI 14 0 (sI 15 0 S))).1) (grw_14 (S := S) h1 h40).1 (by omega)).2; omega)
noncomputable def g_m_writeRange_x1 (_x : Int32) (_z : Int32) (S : ZS) : Int32 × ZS := (0, (sI 15 (1) S))
theorem k_m_writeRange_x1 (x : Int32) (z : Int32) (S : ZS) (hx : g_m_isNone x z S = true) : zM sc yX7_writeRange cX7_writeRange 4 (some .int) 4 0 0 [.ref 0, .int (x), .int (z)] (mh S) (.inl (some (.int (g_m_writeRange_x1 x z S).1))) (mh (g_m_writeRange_x1 x z S).2) := by
  refine zM.at (ls := [some (.ref 0), some (.int (x)), some (.int (z)), none]) zy_X7_writeRange.2.2.2.2.2 (Nat.le_of_ble_eq_true rfl) rfl ?_
  refine z_aload_0 dX7_writeRange_0 ?_
  refine z_iload_1 dX7_writeRange_1 ?_
  refine z_iload_2 dX7_writeRange_2 ?_
  refine Z.call0s (zRun.V (ρ := fun i => i) (k_tr_x1 (x) (z) S hx) dX7_writeRange_3 zy_X7_throwsRange zm_X7_301 rfl rfl rfl rfl (Nat.le_of_ble_eq_true rfl) (by decide) (by decide)) (zlen2 14 rfl rfl) ?_
  refine z_if_eq_f (tgt := 11) dX7_writeRange_6 (by decide) (by decide) ?_
  refine z_iconst (v := 0) dX7_writeRange_9 rfl ?_
  rw [g_m_writeRange_x1]
  try dsimp only
  exact z_iret dX7_writeRange_10 rfl (zint _) rfl rfl
noncomputable def g_m_writeRange_x2 (_x : Int32) (_z : Int32) (S : ZS) : Int32 × ZS := (0, (sI 15 (2) S))
theorem k_m_writeRange_x2 (x : Int32) (z : Int32) (S : ZS) (hx : g_m_isNone x z S = false) (hz : z < x) : zM sc yX7_writeRange cX7_writeRange 4 (some .int) 4 0 0 [.ref 0, .int (x), .int (z)] (mh S) (.inl (some (.int (g_m_writeRange_x2 x z S).1))) (mh (g_m_writeRange_x2 x z S).2) := by
  refine zM.at (ls := [some (.ref 0), some (.int (x)), some (.int (z)), none]) zy_X7_writeRange.2.2.2.2.2 (Nat.le_of_ble_eq_true rfl) rfl ?_
  refine z_aload_0 dX7_writeRange_0 ?_
  refine z_iload_1 dX7_writeRange_1 ?_
  refine z_iload_2 dX7_writeRange_2 ?_
  refine Z.call0s (zRun.V (ρ := fun i => i) (k_m_tr_x2 (x) (z) S hx hz) dX7_writeRange_3 zy_X7_throwsRange zm_X7_301 rfl rfl rfl rfl (Nat.le_of_ble_eq_true rfl) (by decide) (by decide)) (zlen2 14 rfl rfl) ?_
  refine Z.heap (h2 := mh (sI 15 (2) S)) rfl ?_
  refine z_topi (w := 1) rfl ?_
  refine z_if_eq_f (tgt := 11) dX7_writeRange_6 (by decide) (by decide) ?_
  refine z_iconst (v := 0) dX7_writeRange_9 rfl ?_
  rw [g_m_writeRange_x2]
  try dsimp only
  exact z_iret dX7_writeRange_10 rfl (zint _) rfl rfl
noncomputable def g_m_reportByte (_x : Int32) (S : ZS) : Int32 × ZS := ((-1), (sI 15 (0) S))
theorem k_m_reportByte (x : Int32) (S : ZS) (hx : g_m_in x 0 (S.1 14 - 1) = false) : zM sc yX7_reportByte cX7_reportByte 2 (some .int) 1 0 0 [.ref 0, .int (x)] (mh S) (.inl (some (.int (g_m_reportByte x S).1))) (mh (g_m_reportByte x S).2) := by
  refine zM.at (ls := [some (.ref 0), some (.int (x))]) zy_X7_reportByte.2.2.2.2.2 (Nat.le_of_ble_eq_true rfl) rfl ?_
  refine z_aload_0 dX7_reportByte_0 ?_
  refine z_iconst (v := 0) dX7_reportByte_1 rfl ?_
  refine z_put (k := 15) (ty := tyX7) dX7_reportByte_2 rfl rfl (by decide) zf_X7_64 zw_in7 tyX7_ok nmX7 rfl (fun _ => ⟨rfl, rfl⟩) (Nat.le_of_ble_eq_true rfl) ?_
  refine Z.heap (h2 := mh (sI 15 (0) S)) rfl ?_
  refine z_iload_1 dX7_reportByte_5 ?_
  refine z_iconst (v := 0) dX7_reportByte_6 rfl ?_
  refine z_aload_0 dX7_reportByte_7 ?_
  refine z_get (k := 14) (v := .int (S.1 14)) dX7_reportByte_8 rfl rfl rfl (by decide) zf_X7_334 zw_in7 ?_
  refine z_iconst (v := 1) dX7_reportByte_11 rfl ?_
  refine z_isub dX7_reportByte_12 ?_
  refine Z.callE (zRun.S (ρ := fun i => i) (k_m_in (x) (0) ((S.1 14) - 1) ) dX7_reportByte_13 zy_X7_in zm_X7_67 rfl rfl (Nat.le_of_ble_eq_true rfl) (by decide) (by decide)) ?_
  refine z_topi (w := 0) (by rw [hx]; rfl) ?_
  refine z_if_eq_t (tgt := 28) dX7_reportByte_16 (by decide) (by decide) ?_
  refine z_iconst (v := (-1)) dX7_reportByte_28 rfl ?_
  rw [g_m_reportByte]
  try dsimp only
  exact z_iret dX7_reportByte_29 rfl (zint _) rfl rfl
noncomputable def g_m_reportByte_v (q : Nat) (S : ZS) : Int32 × ZS := (S.2 7 (q), (sI 15 (0) S))
theorem k_m_reportByte_v (q : Nat) (S : ZS) (hq : q < 400) (hx : g_m_in (nI q) 0 (S.1 14 - 1) = true) : zM sc yX7_reportByte cX7_reportByte 2 (some .int) 1 0 0 [.ref 0, .int (nI (q))] (mh S) (.inl (some (.int (g_m_reportByte_v q S).1))) (mh (g_m_reportByte_v q S).2) := by
  refine zM.at (ls := [some (.ref 0), some (.int (nI (q)))]) zy_X7_reportByte.2.2.2.2.2 (Nat.le_of_ble_eq_true rfl) rfl ?_
  refine z_aload_0 dX7_reportByte_0 ?_
  refine z_iconst (v := 0) dX7_reportByte_1 rfl ?_
  refine z_put (k := 15) (ty := tyX7) dX7_reportByte_2 rfl rfl (by decide) zf_X7_64 zw_in7 tyX7_ok nmX7 rfl (fun _ => ⟨rfl, rfl⟩) (Nat.le_of_ble_eq_true rfl) ?_
  refine Z.heap (h2 := mh (sI 15 (0) S)) rfl ?_
  refine z_iload_1 dX7_reportByte_5 ?_
  refine z_iconst (v := 0) dX7_reportByte_6 rfl ?_
  refine z_aload_0 dX7_reportByte_7 ?_
  refine z_get (k := 14) (v := .int (S.1 14)) dX7_reportByte_8 rfl rfl rfl (by decide) zf_X7_334 zw_in7 ?_
  refine z_iconst (v := 1) dX7_reportByte_11 rfl ?_
  refine z_isub dX7_reportByte_12 ?_
  refine Z.callE (zRun.S (ρ := fun i => i) (k_m_in (nI (q)) (0) ((S.1 14) - 1) ) dX7_reportByte_13 zy_X7_in zm_X7_67 rfl rfl (Nat.le_of_ble_eq_true rfl) (by decide) (by decide)) ?_
  refine z_topi (w := 1) (by rw [hx]; rfl) ?_
  refine z_if_eq_f (tgt := 28) dX7_reportByte_16 (by decide) (by decide) ?_
  refine z_aload_0 dX7_reportByte_19 ?_
  refine z_get (k := 13) (v := .ref 8) dX7_reportByte_20 rfl rfl rfl (by decide) zf_X7_35 zw_in7 ?_
  refine z_iload_1 dX7_reportByte_23 ?_
  refine z_caldN (k := q) dX7_reportByte_24 rfl (by first | omega | assumption) (by decide) ?_
  refine z_topi (w := S.2 7 (q)) (by rw [sI_2]) ?_
  refine z_goto (tgt := 29) dX7_reportByte_25 (by decide) ?_
  rw [g_m_reportByte_v]
  try dsimp only
  exact z_iret dX7_reportByte_29 rfl (zint _) rfl rfl
