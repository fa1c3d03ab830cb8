variable {sc : SC}

noncomputable def g_m_remember_L2 (p : Nat) (x : Int32) : Nat → Nat → Nat → ZS → Int32 × ZS
  | 0, _, r, S => (x, (sI 5 (nI (r + 1)) S))
  | fu + 1, k, r, S => g_m_remember_L2 p x fu (k + 1) r (sA 3 (300 * r + k) (S.2 1 (k)) S)
theorem l_g_m_remember_L2 (p : Nat) (x : Int32) : ∀ (fu : Nat) (k : Nat) (r : Nat) (S : ZS) , (k + fu = 300) → (r < 8) → (S.1 5 = nI r) → Z sc yX7_remember cX7_remember 3 (some .int) 0 0 0 54 [some (.ref 0), some (.int (x)), some (.int (nI (k)))] [] (mh S) (.inl (some (.int (g_m_remember_L2 p x fu k r S).1))) (mh (g_m_remember_L2 p x fu k r S).2) := by
  intro fu
  induction fu with
  | zero =>
    intro k r S hk hr h_r
    refine z_iload_2 dX7_remember_54 ?_
    refine z_sipush (v := 300) dX7_remember_55 rfl ?_
    refine z_icmpN_ge_t (tgt := 88) dX7_remember_58 (by decide) (x := k) (z := 300) (by first | omega | assumption) (by first | omega | assumption) (by omega) ?_
    refine z_aload_0 dX7_remember_88 ?_
    refine z_dup dX7_remember_89 rfl ?_
    refine z_get (k := 5) (v := .int (S.1 5)) dX7_remember_90 rfl rfl rfl (by decide) zf_X7_286 zw_in7 ?_
    refine z_topi (w := nI (r)) h_r ?_
    refine z_iconst (v := 1) dX7_remember_93 rfl ?_
    refine z_iadd dX7_remember_94 ?_
    refine z_topi (w := nI (r + 1)) (nI_add _ _) ?_
    refine z_put (k := 5) (ty := tyX7) dX7_remember_95 rfl rfl (by decide) zf_X7_286 zw_in7 tyX7_ok nmX7 rfl (fun _ => ⟨rfl, rfl⟩) (Nat.le_of_ble_eq_true rfl) ?_
    refine Z.heap (h2 := mh (sI 5 (nI (r + 1)) S)) rfl ?_
    refine z_iload_1 dX7_remember_98 ?_
    rw [g_m_remember_L2]
    exact z_iret dX7_remember_99 rfl rfl rfl rfl
  | succ fu ih =>
    intro k r S hk hr h_r
    refine z_iload_2 dX7_remember_54 ?_
    refine z_sipush (v := 300) dX7_remember_55 rfl ?_
    refine z_icmpN_ge_f (tgt := 88) dX7_remember_58 (by decide) (x := k) (z := 300) (by first | omega | assumption) (by first | omega | assumption) (by omega) ?_
    refine z_aload_0 dX7_remember_61 ?_
    refine z_get (k := 3) (v := .ref 4) dX7_remember_62 rfl rfl rfl (by decide) zf_X7_19 zw_in7 ?_
    refine z_sipush (v := 300) dX7_remember_65 rfl ?_
    refine z_aload_0 dX7_remember_68 ?_
    refine z_get (k := 5) (v := .int (S.1 5)) dX7_remember_69 rfl rfl rfl (by decide) zf_X7_286 zw_in7 ?_
    refine z_topi (w := nI (r)) h_r ?_
    refine z_imul dX7_remember_72 ?_
    refine z_topi (w := nI (300 * r)) (pk_mul _ _) ?_
    refine z_iload_2 dX7_remember_73 ?_
    refine z_iadd dX7_remember_74 ?_
    refine z_topi (w := nI (300 * r + k)) (nI_add _ _) ?_
    refine z_aload_0 dX7_remember_75 ?_
    refine z_get (k := 1) (v := .ref 2) dX7_remember_76 rfl rfl rfl (by decide) zf_X7_13 zw_in7 ?_
    refine z_iload_2 dX7_remember_79 ?_
    refine z_ialdN (k := k) dX7_remember_80 rfl (by first | omega | assumption) (by decide) ?_
    refine z_topi (w := S.2 1 (k)) rfl ?_
    refine z_iastN (k := (300 * r + k)) dX7_remember_81 rfl (by first | omega | assumption) (by decide) ?_
    refine Z.heap (h2 := mh (sA 3 (300 * r + k) (S.2 1 (k)) S)) rfl ?_
    refine z_iinc_2 (v := nI (k + 1)) dX7_remember_82 (nI_add _ 1) rfl (by decide) ?_
    refine z_goto (tgt := 54) dX7_remember_85 (by decide) ?_
    rw [g_m_remember_L2]
    exact ih (k + 1) r (sA 3 (300 * r + k) (S.2 1 (k)) S) (by first | omega | assumption) (by first | omega | assumption) (by first | rfl | exact h_r)
noncomputable def g_m_remember_L1 (p : Nat) (x : Int32) : Nat → Nat → Nat → ZS → Int32 × ZS
  | 0, _, q, S => g_m_remember_L2 p x 300 0 (q - 1) (sI 5 (nI (q - 1)) S)
  | fu + 1, k, q, S => g_m_remember_L1 p x fu (k + 1) q (sA 3 (k - 300) (S.2 3 (k)) S)
theorem l_g_m_remember_L1 (p : Nat) (x : Int32) : ∀ (fu : Nat) (k : Nat) (q : Nat) (S : ZS) , (k + fu = 2400) → (300 ≤ k) → (q = 8) → (S.1 5 = nI q) → Z sc yX7_remember cX7_remember 3 (some .int) 0 0 0 13 [some (.ref 0), some (.int (x)), some (.int (nI (k)))] [] (mh S) (.inl (some (.int (g_m_remember_L1 p x fu k q S).1))) (mh (g_m_remember_L1 p x fu k q S).2) := by
  intro fu
  induction fu with
  | zero =>
    intro k q S hk hk3 hq h_q
    refine z_iload_2 dX7_remember_13 ?_
    refine z_sipush (v := 2400) dX7_remember_14 rfl ?_
    refine z_icmpN_ge_t (tgt := 42) dX7_remember_17 (by decide) (x := k) (z := 2400) (by first | omega | assumption) (by first | omega | assumption) (by omega) ?_
    refine z_aload_0 dX7_remember_42 ?_
    refine z_dup dX7_remember_43 rfl ?_
    refine z_get (k := 5) (v := .int (S.1 5)) dX7_remember_44 rfl rfl rfl (by decide) zf_X7_286 zw_in7 ?_
    refine z_topi (w := nI (q)) h_q ?_
    refine z_iconst (v := 1) dX7_remember_47 rfl ?_
    refine z_isub dX7_remember_48 ?_
    refine z_topi (w := nI (q - 1)) (pk_sub (a := q) (b := 1) (by first | omega | assumption)) ?_
    refine z_put (k := 5) (ty := tyX7) dX7_remember_49 rfl rfl (by decide) zf_X7_286 zw_in7 tyX7_ok nmX7 rfl (fun _ => ⟨rfl, rfl⟩) (Nat.le_of_ble_eq_true rfl) ?_
    refine Z.heap (h2 := mh (sI 5 (nI (q - 1)) S)) rfl ?_
    refine z_iconst (v := 0) dX7_remember_52 rfl ?_
    refine z_istore_2 dX7_remember_53 rfl (by decide) ?_
    rw [g_m_remember_L1]
    exact l_g_m_remember_L2 p x 300 0 (q - 1) (sI 5 (nI (q - 1)) S) (by first | omega | assumption) (by first | omega | assumption) (by first | rfl | exact h_q | exact h_r | exact hp)
  | succ fu ih =>
    intro k q S hk hk3 hq h_q
    refine z_iload_2 dX7_remember_13 ?_
    refine z_sipush (v := 2400) dX7_remember_14 rfl ?_
    refine z_icmpN_ge_f (tgt := 42) dX7_remember_17 (by decide) (x := k) (z := 2400) (by first | omega | assumption) (by first | omega | assumption) (by omega) ?_
    refine z_aload_0 dX7_remember_20 ?_
    refine z_get (k := 3) (v := .ref 4) dX7_remember_21 rfl rfl rfl (by decide) zf_X7_19 zw_in7 ?_
    refine z_iload_2 dX7_remember_24 ?_
    refine z_sipush (v := 300) dX7_remember_25 rfl ?_
    refine z_isub dX7_remember_28 ?_
    refine z_topi (w := nI (k - 300)) (pk_sub (a := k) (b := 300) (by first | omega | assumption)) ?_
    refine z_aload_0 dX7_remember_29 ?_
    refine z_get (k := 3) (v := .ref 4) dX7_remember_30 rfl rfl rfl (by decide) zf_X7_19 zw_in7 ?_
    refine z_iload_2 dX7_remember_33 ?_
    refine z_ialdN (k := k) dX7_remember_34 rfl (by first | omega | assumption) (by decide) ?_
    refine z_topi (w := S.2 3 (k)) rfl ?_
    refine z_iastN (k := (k - 300)) dX7_remember_35 rfl (by first | omega | assumption) (by decide) ?_
    refine Z.heap (h2 := mh (sA 3 (k - 300) (S.2 3 (k)) S)) rfl ?_
    refine z_iinc_2 (v := nI (k + 1)) dX7_remember_36 (nI_add _ 1) rfl (by decide) ?_
    refine z_goto (tgt := 13) dX7_remember_39 (by decide) ?_
    rw [g_m_remember_L1]
    exact ih (k + 1) q (sA 3 (k - 300) (S.2 3 (k)) S) (by first | omega | assumption) (by first | omega | assumption) (by first | omega | assumption) (by first | rfl | exact h_q)
noncomputable def g_m_remember (p : Nat) (x : Int32) (S : ZS) : Int32 × ZS := (if p = 8 then g_m_remember_L1 p x (2400 - 300) 300 p S else g_m_remember_L2 p x 300 0 p S)
theorem k_m_remember (p : Nat) (x : Int32) (S : ZS) (hp : S.1 5 = nI p) (hp8 : p ≤ 8) : zM sc yX7_remember cX7_remember 3 (some .int) 0 0 0 [.ref 0, .int (x)] (mh S) (.inl (some (.int (g_m_remember p x S).1))) (mh (g_m_remember p x S).2) := by
  refine zM.at (ls := [some (.ref 0), some (.int (x)), none]) zy_X7_remember.2.2.2.2.2 (Nat.le_of_ble_eq_true rfl) rfl ?_
  refine z_aload_0 dX7_remember_0 ?_
  refine z_get (k := 5) (v := .int (S.1 5)) dX7_remember_1 rfl rfl rfl (by decide) zf_X7_286 zw_in7 ?_
  refine z_topi (w := nI (p)) hp ?_
  refine z_bipush (v := 8) dX7_remember_4 rfl ?_
  refine z_icmpN_ne (tgt := 52) dX7_remember_6 (by decide) (x := p) (z := 8) (by first | omega | assumption) (by first | omega | assumption) (fun c6 => ?_) (fun c6 => ?_)
  · refine z_iconst (v := 0) dX7_remember_52 rfl ?_
    refine z_istore_2 dX7_remember_53 rfl (by decide) ?_
    rw [g_m_remember, if_neg c6]
    exact l_g_m_remember_L2 p x 300 0 p S (by first | omega | assumption) (by first | omega | assumption) (by first | rfl | exact h_q | exact h_r | exact hp)
  · refine z_sipush (v := 300) dX7_remember_9 rfl ?_
    refine z_istore_2 dX7_remember_12 rfl (by decide) ?_
    rw [g_m_remember, if_pos c6]
    exact l_g_m_remember_L1 p x (2400 - 300) 300 p S (by first | omega | assumption) (by first | omega | assumption) (by first | omega | assumption) (by first | rfl | exact h_q | exact h_r | exact hp)
noncomputable def g_m_undo_L (p : Nat) : Nat → Nat → Nat → ZS → Int32 × ZS
  | 0, _, r, S => (nI (r), S)
  | fu + 1, k, r, S => g_m_undo_L p fu (k + 1) r (sA 0 (k) (S.2 3 (300 * r + k)) S)
theorem l_g_m_undo_L (p : Nat) : ∀ (fu : Nat) (k : Nat) (r : Nat) (S : ZS) , (k + fu = 300) → (r < 8) → (S.1 5 = nI r) → Z sc yX7_undo cX7_undo 2 (some .int) 0 0 0 26 [some (.ref 0), some (.int (nI (k)))] [] (mh S) (.inl (some (.int (g_m_undo_L p fu k r S).1))) (mh (g_m_undo_L p fu k r S).2) := by
  intro fu
  induction fu with
  | zero =>
    intro k r S hk hr h_r
    refine z_iload_1 dX7_undo_26 ?_
    refine z_sipush (v := 300) dX7_undo_27 rfl ?_
    refine z_icmpN_ge_t (tgt := 60) dX7_undo_30 (by decide) (x := k) (z := 300) (by first | omega | assumption) (by first | omega | assumption) (by omega) ?_
    refine z_aload_0 dX7_undo_60 ?_
    refine z_get (k := 5) (v := .int (S.1 5)) dX7_undo_61 rfl rfl rfl (by decide) zf_X7_286 zw_in7 ?_
    refine z_topi (w := nI (r)) h_r ?_
    rw [g_m_undo_L]
    exact z_iret dX7_undo_64 rfl rfl rfl rfl
  | succ fu ih =>
    intro k r S hk hr h_r
    refine z_iload_1 dX7_undo_26 ?_
    refine z_sipush (v := 300) dX7_undo_27 rfl ?_
    refine z_icmpN_ge_f (tgt := 60) dX7_undo_30 (by decide) (x := k) (z := 300) (by first | omega | assumption) (by first | omega | assumption) (by omega) ?_
    refine z_aload_0 dX7_undo_33 ?_
    refine z_get (k := 0) (v := .ref 1) dX7_undo_34 rfl rfl rfl (by decide) zf_X7_7 zw_in7 ?_
    refine z_iload_1 dX7_undo_37 ?_
    refine z_aload_0 dX7_undo_38 ?_
    refine z_get (k := 3) (v := .ref 4) dX7_undo_39 rfl rfl rfl (by decide) zf_X7_19 zw_in7 ?_
    refine z_sipush (v := 300) dX7_undo_42 rfl ?_
    refine z_aload_0 dX7_undo_45 ?_
    refine z_get (k := 5) (v := .int (S.1 5)) dX7_undo_46 rfl rfl rfl (by decide) zf_X7_286 zw_in7 ?_
    refine z_topi (w := nI (r)) h_r ?_
    refine z_imul dX7_undo_49 ?_
    refine z_topi (w := nI (300 * r)) (pk_mul _ _) ?_
    refine z_iload_1 dX7_undo_50 ?_
    refine z_iadd dX7_undo_51 ?_
    refine z_topi (w := nI (300 * r + k)) (nI_add _ _) ?_
    refine z_ialdN (k := (300 * r + k)) dX7_undo_52 rfl (by first | omega | assumption) (by decide) ?_
    refine z_topi (w := S.2 3 (300 * r + k)) rfl ?_
    refine z_iastN (k := k) dX7_undo_53 rfl (by first | omega | assumption) (by decide) ?_
    refine Z.heap (h2 := mh (sA 0 (k) (S.2 3 (300 * r + k)) S)) rfl ?_
    refine z_iinc_1 (v := nI (k + 1)) dX7_undo_54 (nI_add _ 1) rfl (by decide) ?_
    refine z_goto (tgt := 26) dX7_undo_57 (by decide) ?_
    rw [g_m_undo_L]
    exact ih (k + 1) r (sA 0 (k) (S.2 3 (300 * r + k)) S) (by first | omega | assumption) (by first | omega | assumption) (by first | rfl | exact h_r)
noncomputable def g_m_undo (p : Nat) (S : ZS) : Int32 × ZS := (if p = 0 then ((-1), (sI 15 (0) S)) else g_m_undo_L p 300 0 (p - 1) (sI 5 (nI (p - 1)) (sI 15 (0) S)))
theorem k_m_undo (p : Nat) (S : ZS) (hp : S.1 5 = nI p) (hp8 : p ≤ 8) : zM sc yX7_undo cX7_undo 2 (some .int) 0 0 0 [.ref 0] (mh S) (.inl (some (.int (g_m_undo p S).1))) (mh (g_m_undo p S).2) := by
  refine zM.at (ls := [some (.ref 0), none]) zy_X7_undo.2.2.2.2.2 (Nat.le_of_ble_eq_true rfl) rfl ?_
  refine z_aload_0 dX7_undo_0 ?_
  refine z_iconst (v := 0) dX7_undo_1 rfl ?_
  refine z_put (k := 15) (ty := tyX7) dX7_undo_2 rfl rfl (by decide) zf_X7_64 zw_in7 tyX7_ok nmX7 rfl (fun _ => ⟨rfl, rfl⟩) (Nat.le_of_ble_eq_true rfl) ?_
  refine Z.heap (h2 := mh (sI 15 (0) S)) rfl ?_
  refine z_aload_0 dX7_undo_5 ?_
  refine z_get (k := 5) (v := .int (S.1 5)) dX7_undo_6 rfl rfl rfl (by decide) zf_X7_286 zw_in7 ?_
  refine z_topi (w := nI (p)) hp ?_
  refine z_ifN_ne (tgt := 14) dX7_undo_9 (by decide) (x := p) (by first | omega | assumption) (fun c9 => ?_) (fun c9 => ?_)
  · refine z_aload_0 dX7_undo_14 ?_
    refine z_dup dX7_undo_15 rfl ?_
    refine z_get (k := 5) (v := .int (S.1 5)) dX7_undo_16 rfl rfl rfl (by decide) zf_X7_286 zw_in7 ?_
    refine z_topi (w := nI (p)) hp ?_
    refine z_iconst (v := 1) dX7_undo_19 rfl ?_
    refine z_isub dX7_undo_20 ?_
    refine z_topi (w := nI (p - 1)) (pk_sub (a := p) (b := 1) (by first | omega | assumption)) ?_
    refine z_put (k := 5) (ty := tyX7) dX7_undo_21 rfl rfl (by decide) zf_X7_286 zw_in7 tyX7_ok nmX7 rfl (fun _ => ⟨rfl, rfl⟩) (Nat.le_of_ble_eq_true rfl) ?_
    refine Z.heap (h2 := mh (sI 5 (nI (p - 1)) (sI 15 (0) S))) rfl ?_
    refine z_iconst (v := 0) dX7_undo_24 rfl ?_
    refine z_istore_1 dX7_undo_25 rfl (by decide) ?_
    rw [g_m_undo, if_neg c9]
    exact l_g_m_undo_L p 300 0 (p - 1) (sI 5 (nI (p - 1)) (sI 15 (0) S)) (by first | omega | assumption) (by first | omega | assumption) (by first | rfl | exact h_r | exact hp)
  · refine z_iconst (v := (-1)) dX7_undo_12 rfl ?_
    rw [g_m_undo, if_pos c9]
    exact z_iret dX7_undo_13 rfl rfl rfl rfl
noncomputable def g_m_undoCount (S : ZS) : Int32 × ZS := (S.1 5, (sI 15 (0) S))
theorem k_m_undoCount (S : ZS)  : zM sc yX7_undoCount cX7_undoCount 1 (some .int) 0 0 0 [.ref 0] (mh S) (.inl (some (.int (g_m_undoCount S).1))) (mh (g_m_undoCount S).2) := by
  refine zM.at (ls := [some (.ref 0)]) zy_X7_undoCount.2.2.2.2.2 (Nat.le_of_ble_eq_true rfl) rfl ?_
  refine z_aload_0 dX7_undoCount_0 ?_
  refine z_iconst (v := 0) dX7_undoCount_1 rfl ?_
  refine z_put (k := 15) (ty := tyX7) dX7_undoCount_2 rfl rfl (by decide) zf_X7_64 zw_in7 tyX7_ok nmX7 rfl (fun _ => ⟨rfl, rfl⟩) (Nat.le_of_ble_eq_true rfl) ?_
  refine Z.heap (h2 := mh (sI 15 (0) S)) rfl ?_
  refine z_aload_0 dX7_undoCount_5 ?_
  refine z_get (k := 5) (v := .int (S.1 5)) dX7_undoCount_6 rfl rfl rfl (by decide) zf_X7_286 zw_in7 ?_
  rw [g_m_undoCount]
  exact z_iret dX7_undoCount_9 rfl rfl rfl rfl
noncomputable def g_m_saveSnapshot_L  : Nat → Nat → ZS → Int32 × ZS
  | 0, _, S => (S.2 0 (0), S)
  | fu + 1, k, S => g_m_saveSnapshot_L fu (k + 1) (sA 4 (k) (S.2 0 (k)) S)
theorem l_g_m_saveSnapshot_L  : ∀ (fu : Nat) (k : Nat) (S : ZS) , (k + fu = 300) → Z sc yX7_saveSnapshot cX7_saveSnapshot 2 (some .int) 0 0 0 12 [some (.ref 0), some (.int (nI (k)))] [] (mh S) (.inl (some (.int (g_m_saveSnapshot_L fu k S).1))) (mh (g_m_saveSnapshot_L fu k S).2) := by
  intro fu
  induction fu with
  | zero =>
    intro k S hk
    refine z_iload_1 dX7_saveSnapshot_12 ?_
    refine z_sipush (v := 300) dX7_saveSnapshot_13 rfl ?_
    refine z_icmpN_ge_t (tgt := 37) dX7_saveSnapshot_16 (by decide) (x := k) (z := 300) (by first | omega | assumption) (by first | omega | assumption) (by omega) ?_
    refine z_aload_0 dX7_saveSnapshot_37 ?_
    refine z_get (k := 0) (v := .ref 1) dX7_saveSnapshot_38 rfl rfl rfl (by decide) zf_X7_7 zw_in7 ?_
    refine z_iconst (v := 0) dX7_saveSnapshot_41 rfl ?_
    refine z_ialdN (k := 0) dX7_saveSnapshot_42 rfl (by first | omega | assumption) (by decide) ?_
    refine z_topi (w := S.2 0 (0)) rfl ?_
    rw [g_m_saveSnapshot_L]
    exact z_iret dX7_saveSnapshot_43 rfl rfl rfl rfl
  | succ fu ih =>
    intro k S hk
    refine z_iload_1 dX7_saveSnapshot_12 ?_
    refine z_sipush (v := 300) dX7_saveSnapshot_13 rfl ?_
    refine z_icmpN_ge_f (tgt := 37) dX7_saveSnapshot_16 (by decide) (x := k) (z := 300) (by first | omega | assumption) (by first | omega | assumption) (by omega) ?_
    refine z_aload_0 dX7_saveSnapshot_19 ?_
    refine z_get (k := 4) (v := .ref 5) dX7_saveSnapshot_20 rfl rfl rfl (by decide) zf_X7_22 zw_in7 ?_
    refine z_iload_1 dX7_saveSnapshot_23 ?_
    refine z_aload_0 dX7_saveSnapshot_24 ?_
    refine z_get (k := 0) (v := .ref 1) dX7_saveSnapshot_25 rfl rfl rfl (by decide) zf_X7_7 zw_in7 ?_
    refine z_iload_1 dX7_saveSnapshot_28 ?_
    refine z_ialdN (k := k) dX7_saveSnapshot_29 rfl (by first | omega | assumption) (by decide) ?_
    refine z_topi (w := S.2 0 (k)) rfl ?_
    refine z_iastN (k := k) dX7_saveSnapshot_30 rfl (by first | omega | assumption) (by decide) ?_
    refine Z.heap (h2 := mh (sA 4 (k) (S.2 0 (k)) S)) rfl ?_
    refine z_iinc_1 (v := nI (k + 1)) dX7_saveSnapshot_31 (nI_add _ 1) rfl (by decide) ?_
    refine z_goto (tgt := 12) dX7_saveSnapshot_34 (by decide) ?_
    rw [g_m_saveSnapshot_L]
    exact ih (k + 1) (sA 4 (k) (S.2 0 (k)) S) (by first | omega | assumption)
noncomputable def g_m_saveSnapshot (S : ZS) : Int32 × ZS := g_m_saveSnapshot_L 300 0 (sI 6 (1) (sI 15 (0) S))
theorem k_m_saveSnapshot (S : ZS)  : zM sc yX7_saveSnapshot cX7_saveSnapshot 2 (some .int) 0 0 0 [.ref 0] (mh S) (.inl (some (.int (g_m_saveSnapshot S).1))) (mh (g_m_saveSnapshot S).2) := by
  refine zM.at (ls := [some (.ref 0), none]) zy_X7_saveSnapshot.2.2.2.2.2 (Nat.le_of_ble_eq_true rfl) rfl ?_
  refine z_aload_0 dX7_saveSnapshot_0 ?_
  refine z_iconst (v := 0) dX7_saveSnapshot_1 rfl ?_
  refine z_put (k := 15) (ty := tyX7) dX7_saveSnapshot_2 rfl rfl (by decide) zf_X7_64 zw_in7 tyX7_ok nmX7 rfl (fun _ => ⟨rfl, rfl⟩) (Nat.le_of_ble_eq_true rfl) ?_
  refine Z.heap (h2 := mh (sI 15 (0) S)) rfl ?_
  refine z_aload_0 dX7_saveSnapshot_5 ?_
  refine z_iconst (v := 1) dX7_saveSnapshot_6 rfl ?_
  refine z_put (k := 6) (ty := tyX7) dX7_saveSnapshot_7 rfl rfl (by decide) zf_X7_304 zw_in7 tyX7_ok nmX7 rfl (fun _ => ⟨rfl, rfl⟩) (Nat.le_of_ble_eq_true rfl) ?_
  refine Z.heap (h2 := mh (sI 6 (1) (sI 15 (0) S))) rfl ?_
  refine z_iconst (v := 0) dX7_saveSnapshot_10 rfl ?_
  refine z_istore_1 dX7_saveSnapshot_11 rfl (by decide) ?_
  rw [g_m_saveSnapshot]
  exact l_g_m_saveSnapshot_L 300 0 (sI 6 (1) (sI 15 (0) S)) (by first | omega | assumption)
noncomputable def g_m_restoreSnapshot_L  : Nat → Nat → ZS → Int32 × ZS
  | 0, _, S => (S.2 0 (0), (sI 5 (0) S))
  | fu + 1, k, S => g_m_restoreSnapshot_L fu (k + 1) (sA 0 (k) (S.2 4 (k)) S)
theorem l_g_m_restoreSnapshot_L  : ∀ (fu : Nat) (k : Nat) (S : ZS) , (k + fu = 300) → Z sc yX7_restoreSnapshot cX7_restoreSnapshot 2 (some .int) 1 0 0 23 [some (.ref 0), some (.int (nI (k)))] [] (mh S) (.inl (some (.int (g_m_restoreSnapshot_L fu k S).1))) (mh (g_m_restoreSnapshot_L fu k S).2) := by
  intro fu
  induction fu with
  | zero =>
    intro k S hk
    refine z_iload_1 dX7_restoreSnapshot_23 ?_
    refine z_sipush (v := 300) dX7_restoreSnapshot_24 rfl ?_
    refine z_icmpN_ge_t (tgt := 48) dX7_restoreSnapshot_27 (by decide) (x := k) (z := 300) (by first | omega | assumption) (by first | omega | assumption) (by omega) ?_
    refine z_aload_0 dX7_restoreSnapshot_48 ?_
    refine z_iconst (v := 0) dX7_restoreSnapshot_49 rfl ?_
    refine z_put (k := 5) (ty := tyX7) dX7_restoreSnapshot_50 rfl rfl (by decide) zf_X7_286 zw_in7 tyX7_ok nmX7 rfl (fun _ => ⟨rfl, rfl⟩) (Nat.le_of_ble_eq_true rfl) ?_
    refine Z.heap (h2 := mh (sI 5 (0) S)) rfl ?_
    refine z_aload_0 dX7_restoreSnapshot_53 ?_
    refine z_get (k := 0) (v := .ref 1) dX7_restoreSnapshot_54 rfl rfl rfl (by decide) zf_X7_7 zw_in7 ?_
    refine z_iconst (v := 0) dX7_restoreSnapshot_57 rfl ?_
    refine z_ialdN (k := 0) dX7_restoreSnapshot_58 rfl (by first | omega | assumption) (by decide) ?_
    refine z_topi (w := S.2 0 (0)) (by rw [sI_2]) ?_
    rw [g_m_restoreSnapshot_L]
    exact z_iret dX7_restoreSnapshot_59 rfl rfl rfl rfl
  | succ fu ih =>
    intro k S hk
    refine z_iload_1 dX7_restoreSnapshot_23 ?_
    refine z_sipush (v := 300) dX7_restoreSnapshot_24 rfl ?_
    refine z_icmpN_ge_f (tgt := 48) dX7_restoreSnapshot_27 (by decide) (x := k) (z := 300) (by first | omega | assumption) (by first | omega | assumption) (by omega) ?_
    refine z_aload_0 dX7_restoreSnapshot_30 ?_
    refine z_get (k := 0) (v := .ref 1) dX7_restoreSnapshot_31 rfl rfl rfl (by decide) zf_X7_7 zw_in7 ?_
    refine z_iload_1 dX7_restoreSnapshot_34 ?_
    refine z_aload_0 dX7_restoreSnapshot_35 ?_
    refine z_get (k := 4) (v := .ref 5) dX7_restoreSnapshot_36 rfl rfl rfl (by decide) zf_X7_22 zw_in7 ?_
    refine z_iload_1 dX7_restoreSnapshot_39 ?_
    refine z_ialdN (k := k) dX7_restoreSnapshot_40 rfl (by first | omega | assumption) (by decide) ?_
    refine z_topi (w := S.2 4 (k)) rfl ?_
    refine z_iastN (k := k) dX7_restoreSnapshot_41 rfl (by first | omega | assumption) (by decide) ?_
    refine Z.heap (h2 := mh (sA 0 (k) (S.2 4 (k)) S)) rfl ?_
    refine z_iinc_1 (v := nI (k + 1)) dX7_restoreSnapshot_42 (nI_add _ 1) rfl (by decide) ?_
    refine z_goto (tgt := 23) dX7_restoreSnapshot_45 (by decide) ?_
    rw [g_m_restoreSnapshot_L]
    exact ih (k + 1) (sA 0 (k) (S.2 4 (k)) S) (by first | omega | assumption)
noncomputable def g_m_restoreSnapshot (S : ZS) : Int32 × ZS := g_m_restoreSnapshot_L 300 0 (sI 15 (0) S)
theorem k_m_restoreSnapshot (S : ZS) (hs : S.1 6 = 1) : zM sc yX7_restoreSnapshot cX7_restoreSnapshot 2 (some .int) 1 0 0 [.ref 0] (mh S) (.inl (some (.int (g_m_restoreSnapshot S).1))) (mh (g_m_restoreSnapshot S).2) := by
  refine zM.at (ls := [some (.ref 0), none]) zy_X7_restoreSnapshot.2.2.2.2.2 (Nat.le_of_ble_eq_true rfl) rfl ?_
  refine z_aload_0 dX7_restoreSnapshot_0 ?_
  refine z_aload_0 dX7_restoreSnapshot_1 ?_
  refine z_get (k := 6) (v := .int (S.1 6)) dX7_restoreSnapshot_2 rfl rfl rfl (by decide) zf_X7_304 zw_in7 ?_
  refine z_topi (w := 1) hs ?_
  refine z_if_ne_t (tgt := 12) dX7_restoreSnapshot_5 (by decide) (by decide) ?_
  refine z_iconst (v := 0) dX7_restoreSnapshot_12 rfl ?_
  refine Z.call0s (zRun.V (ρ := fun i => i) (k_m_throwsOne (false) S ) dX7_restoreSnapshot_13 zy_X7_throwsOne zm_X7_284 rfl rfl rfl rfl (Nat.le_of_ble_eq_true rfl) (by decide) (by decide)) (zlen2 14 rfl rfl) ?_
  refine Z.heap (h2 := mh (sI 15 (0) S)) rfl ?_
  refine z_topi (w := 0) rfl ?_
  refine z_if_eq_t (tgt := 21) dX7_restoreSnapshot_16 (by decide) (by decide) ?_
  refine z_iconst (v := 0) dX7_restoreSnapshot_21 rfl ?_
  refine z_istore_1 dX7_restoreSnapshot_22 rfl (by decide) ?_
  rw [g_m_restoreSnapshot]
  exact l_g_m_restoreSnapshot_L 300 0 (sI 15 (0) S) (by first | omega | assumption)
noncomputable def g_m_restoreSnapshot_x1_L  : Nat → Nat → ZS → Int32 × ZS
  | 0, _, S => (S.2 0 (0), (sI 5 (0) S))
  | fu + 1, k, S => g_m_restoreSnapshot_x1_L fu (k + 1) (sA 0 (k) (S.2 4 (k)) S)
theorem l_g_m_restoreSnapshot_x1_L  : ∀ (fu : Nat) (k : Nat) (S : ZS) , (k + fu = 300) → Z sc yX7_restoreSnapshot cX7_restoreSnapshot 2 (some .int) 1 0 0 23 [some (.ref 0), some (.int (nI (k)))] [] (mh S) (.inl (some (.int (g_m_restoreSnapshot_x1_L fu k S).1))) (mh (g_m_restoreSnapshot_x1_L fu k S).2) := by
  intro fu
  induction fu with
  | zero =>
    intro k S hk
    refine z_iload_1 dX7_restoreSnapshot_23 ?_
    refine z_sipush (v := 300) dX7_restoreSnapshot_24 rfl ?_
    refine z_icmpN_ge_t (tgt := 48) dX7_restoreSnapshot_27 (by decide) (x := k) (z := 300) (by first | omega | assumption) (by first | omega | assumption) (by omega) ?_
    refine z_aload_0 dX7_restoreSnapshot_48 ?_
    refine z_iconst (v := 0) dX7_restoreSnapshot_49 rfl ?_
    refine z_put (k := 5) (ty := tyX7) dX7_restoreSnapshot_50 rfl rfl (by decide) zf_X7_286 zw_in7 tyX7_ok nmX7 rfl (fun _ => ⟨rfl, rfl⟩) (Nat.le_of_ble_eq_true rfl) ?_
    refine Z.heap (h2 := mh (sI 5 (0) S)) rfl ?_
    refine z_aload_0 dX7_restoreSnapshot_53 ?_
    refine z_get (k := 0) (v := .ref 1) dX7_restoreSnapshot_54 rfl rfl rfl (by decide) zf_X7_7 zw_in7 ?_
    refine z_iconst (v := 0) dX7_restoreSnapshot_57 rfl ?_
    refine z_ialdN (k := 0) dX7_restoreSnapshot_58 rfl (by first | omega | assumption) (by decide) ?_
    refine z_topi (w := S.2 0 (0)) (by rw [sI_2]) ?_
    rw [g_m_restoreSnapshot_x1_L]
    exact z_iret dX7_restoreSnapshot_59 rfl rfl rfl rfl
  | succ fu ih =>
    intro k S hk
    refine z_iload_1 dX7_restoreSnapshot_23 ?_
    refine z_sipush (v := 300) dX7_restoreSnapshot_24 rfl ?_
    refine z_icmpN_ge_f (tgt := 48) dX7_restoreSnapshot_27 (by decide) (x := k) (z := 300) (by first | omega | assumption) (by first | omega | assumption) (by omega) ?_
    refine z_aload_0 dX7_restoreSnapshot_30 ?_
    refine z_get (k := 0) (v := .ref 1) dX7_restoreSnapshot_31 rfl rfl rfl (by decide) zf_X7_7 zw_in7 ?_
    refine z_iload_1 dX7_restoreSnapshot_34 ?_
    refine z_aload_0 dX7_restoreSnapshot_35 ?_
    refine z_get (k := 4) (v := .ref 5) dX7_restoreSnapshot_36 rfl rfl rfl (by decide) zf_X7_22 zw_in7 ?_
    refine z_iload_1 dX7_restoreSnapshot_39 ?_
    refine z_ialdN (k := k) dX7_restoreSnapshot_40 rfl (by first | omega | assumption) (by decide) ?_
    refine z_topi (w := S.2 4 (k)) rfl ?_
    refine z_iastN (k := k) dX7_restoreSnapshot_41 rfl (by first | omega | assumption) (by decide) ?_
    refine Z.heap (h2 := mh (sA 0 (k) (S.2 4 (k)) S)) rfl ?_
    refine z_iinc_1 (v := nI (k + 1)) dX7_restoreSnapshot_42 (nI_add _ 1) rfl (by decide) ?_
    refine z_goto (tgt := 23) dX7_restoreSnapshot_45 (by decide) ?_
    rw [g_m_restoreSnapshot_x1_L]
    exact ih (k + 1) (sA 0 (k) (S.2 4 (k)) S) (by first | omega | assumption)
noncomputable def g_m_restoreSnapshot_x1 (S : ZS) : Int32 × ZS := (0, (sI 15 (1) S))
theorem k_m_restoreSnapshot_x1 (S : ZS) (hs : S.1 6 = 0) : zM sc yX7_restoreSnapshot cX7_restoreSnapshot 2 (some .int) 1 0 0 [.ref 0] (mh S) (.inl (some (.int (g_m_restoreSnapshot_x1 S).1))) (mh (g_m_restoreSnapshot_x1 S).2) := by
  refine zM.at (ls := [some (.ref 0), none]) zy_X7_restoreSnapshot.2.2.2.2.2 (Nat.le_of_ble_eq_true rfl) rfl ?_
  refine z_aload_0 dX7_restoreSnapshot_0 ?_
  refine z_aload_0 dX7_restoreSnapshot_1 ?_
  refine z_get (k := 6) (v := .int (S.1 6)) dX7_restoreSnapshot_2 rfl rfl rfl (by decide) zf_X7_304 zw_in7 ?_
  refine z_topi (w := 0) hs ?_
  refine z_if_ne_f (tgt := 12) dX7_restoreSnapshot_5 (by decide) (by decide) ?_
  refine z_iconst (v := 1) dX7_restoreSnapshot_8 rfl ?_
  refine z_goto (tgt := 13) dX7_restoreSnapshot_9 (by decide) ?_
  refine Z.call0s (zRun.V (ρ := fun i => i) (k_m_throwsOne (true) S ) dX7_restoreSnapshot_13 zy_X7_throwsOne zm_X7_284 rfl rfl rfl rfl (Nat.le_of_ble_eq_true rfl) (by decide) (by decide)) (zlen2 14 rfl rfl) ?_
  refine Z.heap (h2 := mh (sI 15 (1) S)) rfl ?_
  refine z_topi (w := 1) rfl ?_
  refine z_if_eq_f (tgt := 21) dX7_restoreSnapshot_16 (by decide) (by decide) ?_
  refine z_iconst (v := 0) dX7_restoreSnapshot_19 rfl ?_
  rw [g_m_restoreSnapshot_x1]
  exact z_iret dX7_restoreSnapshot_20 rfl rfl rfl rfl
theorem begins_L : ∀ fu k S, k + fu = 300 → (g_m_begins_L fu k S).1 = S.1 ∧ (∀ j, ¬ j = 1 → (g_m_begins_L fu k S).2 j = S.2 j) ∧ ∀ i, i < 300 → (i < k → S.2 1 i = S.2 0 i) → (g_m_begins_L fu k S).2 1 i = S.2 0 i := by
  intro fu
  induction fu with
  | zero => intro k S hk; exact ⟨rfl, fun _ _ => rfl, fun i hi h => h (by omega)⟩
  | succ fu ih =>
    intro k S hk
    rw [g_m_begins_L]
    have h := ih (k + 1) (sA 1 k (S.2 0 k) S) (by omega)
    refine ⟨h.1, fun j hj => (h.2.1 j hj).trans (sA_x hj), fun i hi g => ?_⟩
    rw [h.2.2 i hi (fun hik => ?_), sA_x (by decide)]
    by_cases e : i = k
    · subst e; rw [sA_same, sA_x (by decide)]
    · rw [sA_o e, sA_x (by decide)]; exact g (by omega)
/-- the row put by -/
theorem begins_eq (S : ZS) : (g_m_begins S).1 = S.1 ∧ (∀ j, ¬ j = 1 → (g_m_begins S).2 j = S.2 j) ∧ ∀ i, i < 300 → (g_m_begins S).2 1 i = S.2 0 i :=
  have h := begins_L (zopq 300) 0 S (by have := zopq_eq 300; omega)
  ⟨h.1, h.2.1, fun i hi => h.2.2 i hi (fun z => absurd z (Nat.not_lt_zero i))⟩
theorem begins_gF (S : ZS) : gF S (g_m_begins S) :=
  have h := begins_eq S
  Or.inl ⟨by rw [h.1], h.2.1 8 (by decide), h.2.1 9 (by decide), h.2.1 10 (by decide)⟩
theorem all_ok1 {tl : Nat} : ∀ fu S, mPar tl S → pF S (g_m_readsAll_L tl fu S).2 ∧ ((g_m_readsAll_L tl fu S).1 = true → mPar tl (g_m_readsAll_L tl fu S).2) := by
  intro fu
  induction fu with
  | zero => intro S h; exact ⟨pF.rfl' S, fun e => absurd e Bool.false_ne_true⟩
  | succ fu ih =>
    intro S h
    rw [g_m_readsAll_L]
    split
    next q => exact ⟨pF.rfl' S, fun _ => h⟩
    next q =>
      have hc := g_cmd_ok tl 3 S h
      split
      next q2 =>
        have h2 := (hc.2 q2).1
        have h3 := ih _ (par_next h2)
        exact ⟨(hc.1.trans (kp_next h2.tk).pF).trans h3.1, h3.2⟩
      next q2 => exact ⟨hc.1, fun e => absurd e Bool.false_ne_true⟩
theorem all_ok {tl : Nat} {S : ZS} (hL : mLx tl S) (hF : mFg S) (hc : S.2 0 0 = 0) : pF S (g_m_readsAll tl S).2 ∧ ((g_m_readsAll tl S).1 = true → mPar tl (g_m_readsAll tl S).2) := by
  have hs := seq_ok hL hc
  rw [g_m_readsAll]
  split
  next q =>
    have hp := seq_par hL hF hc q
    have h3 := all_ok1 (tl := tl) 601 _ (par_next hp)
    exact ⟨(hs.1.trans (kp_next hp.tk).pF).trans h3.1, h3.2⟩
  next q => exact ⟨hs.1, fun e => absurd e Bool.false_ne_true⟩
theorem pX_pF (S : ZS) : pF S (pX S) := by
  have h := clear_uF (zopq 128) 0 S
  have e1 : (g_m_clearMarks S).1 = S.1 := by rw [g_m_clearMarks, clear_1]
  refine ⟨fun k a => ?_, fun j a b => h.2.1 j a (Or.inl b), ?_⟩
  · show (sI 25 0 (sI 27 0 (sI 12 (-1) (sI 11 0 (g_m_clearMarks S))))).1 k = S.1 k
    rw [sI_o (by omega), sI_o (by omega), sI_o (by omega), sI_o (by omega), e1]
  · exact (((h.2.2.trans (gF_I (by decide))).trans (gF_I (by decide))).trans (gF_I (by decide))).trans (gF_I (by decide))
theorem parses_okL {tl : Nat} : ∀ fu k S, k + fu = 300 → S.1 10 = nI tl → tl ≤ 600 → mFg S → (0 < k → S.2 0 0 = 0) → pF S (g_m_parses_L tl fu k S).2 ∧ ((g_m_parses_L tl fu k S).1 = true → mPar tl (g_m_parses_L tl fu k S).2) := by
  intro fu
  induction fu with
  | zero =>
    intro k S hk ht h6 hF h0
    have hT := pX_tk ht h6
    have h := all_ok (lx_next hT) ((pX_fg hF).gF (kp_next hT).gF) (by rw [next_2 hT]; exact pX_0 (h0 (by omega)))
    exact ⟨((pX_pF S).trans (kp_next hT).pF).trans h.1, h.2⟩
  | succ fu ih =>
    intro k S hk ht h6 hF h0
    rw [g_m_parses_L]
    have h := ih (k + 1) (sA 0 k 0 S) (by omega) ht h6 (hF.gF (gF_A (by decide) (by decide) (by decide))) (fun _ => sA_zero h0)
    have hA : pF S (sA 0 k 0 S) := ⟨fun _ _ => rfl, fun j a b => sA_x (by omega), gF_A (by decide) (by decide) (by decide)⟩
    exact ⟨hA.trans h.1, h.2⟩
theorem parses_ok {tl : Nat} {S : ZS} (ht : S.1 10 = nI tl) (h6 : tl ≤ 600) (hF : mFg S) : pF S (g_m_parses tl S).2 ∧ ((g_m_parses tl S).1 = true → mPar tl (g_m_parses tl S).2) :=
  parses_okL 300 0 S rfl ht h6 hF (fun h => absurd h (Nat.lt_irrefl 0))
/-- what runScript parses -/
noncomputable def rX (t : Nat) (S : ZS) : ZS := g_m_begins (sI 9 0 (sI 10 (nI t) S))
theorem rX_10 (t : Nat) (S : ZS) : (rX t S).1 10 = nI t := by rw [rX, (begins_eq _).1]; rfl
theorem rX_5 (t : Nat) (S : ZS) : (rX t S).1 5 = S.1 5 := by rw [rX, (begins_eq _).1]; rfl
theorem rX_fg {t : Nat} {S : ZS} (h : mFg S) : mFg (rX t S) := h.gF (((gF_I (by decide)).trans (gF_I (by decide))).trans (begins_gF _))
noncomputable def s_m_runScript_1 (p : Nat) (t : Nat) (S : ZS) : ZS := (g_m_remember p (((g_m_parses t (g_m_begins (sI 9 (0) (sI 10 (nI (t)) S)))).2).2 0 (0)) ((g_m_parses t (g_m_begins (sI 9 (0) (sI 10 (nI (t)) S)))).2)).2
noncomputable def g_m_runScript_L2 (ty : Nat) (p : Nat) : Nat → Nat → ZS → Int32 × ZS
  | 0, _, S => ((-1), S)
  | fu + 1, k, S => g_m_runScript_L2 ty p fu (k + 1) (sA 0 (k) (S.2 1 (k)) S)
theorem l_g_m_runScript_L2 (ty : Nat) (p : Nat) : ∀ (fu : Nat) (k : Nat) (S : ZS) , (k + fu = 300) → Z sc yX7_runScript cX7_runScript 2 (some .int) 22 0 0 59 [some (.ref 0), some (.int (nI (k)))] [] (mh S) (.inl (some (.int (g_m_runScript_L2 ty p fu k S).1))) (mh (g_m_runScript_L2 ty p fu k S).2) := by
  intro fu
  induction fu with
  | zero =>
    intro k S hk
    refine z_iload_1 dX7_runScript_59 ?_
    refine z_sipush (v := 300) dX7_runScript_60 rfl ?_
    refine z_icmpN_ge_t (tgt := 84) dX7_runScript_63 (by decide) (x := k) (z := 300) (by first | omega | assumption) (by first | omega | assumption) (by omega) ?_
    refine z_iconst (v := (-1)) dX7_runScript_84 rfl ?_
    rw [g_m_runScript_L2]
    exact z_iret dX7_runScript_85 rfl rfl rfl rfl
  | succ fu ih =>
    intro k S hk
    refine z_iload_1 dX7_runScript_59 ?_
    refine z_sipush (v := 300) dX7_runScript_60 rfl ?_
    refine z_icmpN_ge_f (tgt := 84) dX7_runScript_63 (by decide) (x := k) (z := 300) (by first | omega | assumption) (by first | omega | assumption) (by omega) ?_
    refine z_aload_0 dX7_runScript_66 ?_
    refine z_get (k := 0) (v := .ref 1) dX7_runScript_67 rfl rfl rfl (by decide) zf_X7_7 zw_in7 ?_
    refine z_iload_1 dX7_runScript_70 ?_
    refine z_aload_0 dX7_runScript_71 ?_
    refine z_get (k := 1) (v := .ref 2) dX7_runScript_72 rfl rfl rfl (by decide) zf_X7_13 zw_in7 ?_
    refine z_iload_1 dX7_runScript_75 ?_
    refine z_ialdN (k := k) dX7_runScript_76 rfl (by first | omega | assumption) (by decide) ?_
    refine z_topi (w := S.2 1 (k)) rfl ?_
    refine z_iastN (k := k) dX7_runScript_77 rfl (by first | omega | assumption) (by decide) ?_
    refine Z.heap (h2 := mh (sA 0 (k) (S.2 1 (k)) S)) rfl ?_
    refine z_iinc_1 (v := nI (k + 1)) dX7_runScript_78 (nI_add _ 1) rfl (by decide) ?_
    refine z_goto (tgt := 59) dX7_runScript_81 (by decide) ?_
    rw [g_m_runScript_L2]
    exact ih (k + 1) (sA 0 (k) (S.2 1 (k)) S) (by first | omega | assumption)
noncomputable def g_m_runScript_L1 (ty : Nat) (p : Nat) : Nat → Nat → Nat → ZS → Int32 × ZS
  | 0, _, t, S => (if ((g_m_parses t (g_m_begins (sI 9 (0) (sI 10 (nI (t)) S)))).1) = true then ((g_m_remember p (((g_m_parses t (g_m_begins (sI 9 (0) (sI 10 (nI (t)) S)))).2).2 0 (0)) ((g_m_parses t (g_m_begins (sI 9 (0) (sI 10 (nI (t)) S)))).2)).1, (s_m_runScript_1 p t S)) else g_m_runScript_L2 ty p 300 0 ((g_m_parses t (g_m_begins (sI 9 (0) (sI 10 (nI (t)) S)))).2))
  | fu + 1, k, t, S => g_m_runScript_L1 ty p fu (k + 1) t (sA 6 (k) (S.2 5 (k)) S)
theorem l_g_m_runScript_L1 (ty : Nat) (p : Nat) : ∀ (fu : Nat) (k : Nat) (t : Nat) (S : ZS) , (k + fu = t) → (t ≤ 600) → (mFg S) → (S.1 5 = nI p) → (p ≤ 8) → (S.1 9 = nI t) → Z sc yX7_runScript cX7_runScript 2 (some .int) 22 0 0 7 [some (.ref 0), some (.int (nI (k)))] [] (mh S) (.inl (some (.int (g_m_runScript_L1 ty p fu k t S).1))) (mh (g_m_runScript_L1 ty p fu k t S).2) := by
  intro fu
  induction fu with
  | zero =>
    intro k t S hk h6 hF hp hp8 h_t
    refine z_iload_1 dX7_runScript_7 ?_
    refine z_aload_0 dX7_runScript_8 ?_
    refine z_get (k := 9) (v := .int (S.1 9)) dX7_runScript_9 rfl rfl rfl (by decide) zf_X7_277 zw_in7 ?_
    refine z_topi (w := nI (t)) h_t ?_
    refine z_icmpN_ge_t (tgt := 33) dX7_runScript_12 (by decide) (x := k) (z := t) (by first | omega | assumption) (by first | omega | assumption) (by omega) ?_
    refine z_aload_0 dX7_runScript_33 ?_
    refine z_aload_0 dX7_runScript_34 ?_
    refine z_get (k := 9) (v := .int (S.1 9)) dX7_runScript_35 rfl rfl rfl (by decide) zf_X7_277 zw_in7 ?_
    refine z_topi (w := nI (t)) h_t ?_
    refine z_put (k := 10) (ty := tyX7) dX7_runScript_38 rfl rfl (by decide) zf_X7_152 zw_in7 tyX7_ok nmX7 rfl (fun _ => ⟨rfl, rfl⟩) (Nat.le_of_ble_eq_true rfl) ?_
    refine Z.heap (h2 := mh (sI 10 (nI (t)) S)) rfl ?_
    refine z_aload_0 dX7_runScript_41 ?_
    refine z_iconst (v := 0) dX7_runScript_42 rfl ?_
    refine z_put (k := 9) (ty := tyX7) dX7_runScript_43 rfl rfl (by decide) zf_X7_277 zw_in7 tyX7_ok nmX7 rfl (fun _ => ⟨rfl, rfl⟩) (Nat.le_of_ble_eq_true rfl) ?_
    refine Z.heap (h2 := mh (sI 9 (0) (sI 10 (nI (t)) S))) rfl ?_
    refine z_aload_0 dX7_runScript_46 ?_
    refine Z.call0n (zRun.V (ρ := fun i => i) (k_m_begins (sI 9 (0) (sI 10 (nI (t)) S)) ) dX7_runScript_47 zy_X7_begins zm_X7_289 rfl rfl rfl rfl (Nat.le_of_ble_eq_true rfl) (by decide) (by decide)) (zlen2 14 rfl rfl) ?_
    refine z_aload_0 dX7_runScript_50 ?_
    refine Z.call0s (zRun.V (ρ := fun i => i) (k_m_parses t (g_m_begins (sI 9 (0) (sI 10 (nI (t)) S))) (rX_10 t S) h6 (rX_fg hF)) dX7_runScript_51 zy_X7_parses zm_X7_60 rfl rfl rfl rfl (Nat.le_of_ble_eq_true rfl) (by decide) (by decide)) (zlen2 14 rfl rfl) ?_
    refine z_ifB_ne (tgt := 86) dX7_runScript_54 (by decide) (fun c54 => ?_) (fun c54 => ?_)
    · refine z_aload_0 dX7_runScript_86 ?_
      refine z_aload_0 dX7_runScript_87 ?_
      refine z_get (k := 0) (v := .ref 1) dX7_runScript_88 rfl rfl rfl (by decide) zf_X7_7 zw_in7 ?_
      refine z_iconst (v := 0) dX7_runScript_91 rfl ?_
      refine z_ialdN (k := 0) dX7_runScript_92 rfl (by first | omega | assumption) (by decide) ?_
      refine z_topi (w := ((g_m_parses t (g_m_begins (sI 9 (0) (sI 10 (nI (t)) S)))).2).2 0 (0)) rfl ?_
      refine Z.call0s (zRun.V (ρ := fun i => i) (k_m_remember p (((g_m_parses t (g_m_begins (sI 9 (0) (sI 10 (nI (t)) S)))).2).2 0 (0)) ((g_m_parses t (g_m_begins (sI 9 (0) (sI 10 (nI (t)) S)))).2) (((parses_ok (rX_10 t S) h6 (rX_fg hF)).1.1 5 (by decide)).trans ((rX_5 t S).trans hp)) hp8) dX7_runScript_93 zy_X7_remember zm_X7_292 rfl rfl rfl rfl (Nat.le_of_ble_eq_true rfl) (by decide) (by decide)) (zlen2 14 rfl rfl) ?_
      rw [g_m_runScript_L1, if_pos c54]
      exact z_iret dX7_runScript_96 rfl rfl rfl rfl
    · refine z_iconst (v := 0) dX7_runScript_57 rfl ?_
      refine z_istore_1 dX7_runScript_58 rfl (by decide) ?_
      rw [g_m_runScript_L1, if_neg c54]
      exact l_g_m_runScript_L2 ty p 300 0 ((g_m_parses t (g_m_begins (sI 9 (0) (sI 10 (nI (t)) S)))).2) (by first | omega | assumption)
  | succ fu ih =>
    intro k t S hk h6 hF hp hp8 h_t
    refine z_iload_1 dX7_runScript_7 ?_
    refine z_aload_0 dX7_runScript_8 ?_
    refine z_get (k := 9) (v := .int (S.1 9)) dX7_runScript_9 rfl rfl rfl (by decide) zf_X7_277 zw_in7 ?_
    refine z_topi (w := nI (t)) h_t ?_
    refine z_icmpN_ge_f (tgt := 33) dX7_runScript_12 (by decide) (x := k) (z := t) (by first | omega | assumption) (by first | omega | assumption) (by omega) ?_
    refine z_aload_0 dX7_runScript_15 ?_
    refine z_get (k := 8) (v := .ref 7) dX7_runScript_16 rfl rfl rfl (by decide) zf_X7_28 zw_in7 ?_
    refine z_iload_1 dX7_runScript_19 ?_
    refine z_aload_0 dX7_runScript_20 ?_
    refine z_get (k := 7) (v := .ref 6) dX7_runScript_21 rfl rfl rfl (by decide) zf_X7_25 zw_in7 ?_
    refine z_iload_1 dX7_runScript_24 ?_
    refine z_ialdN (k := k) dX7_runScript_25 rfl (by first | omega | assumption) (by decide) ?_
    refine z_topi (w := S.2 5 (k)) rfl ?_
    refine z_iastN (k := k) dX7_runScript_26 rfl (by first | omega | assumption) (by decide) ?_
    refine Z.heap (h2 := mh (sA 6 (k) (S.2 5 (k)) S)) rfl ?_
    refine z_iinc_1 (v := nI (k + 1)) dX7_runScript_27 (nI_add _ 1) rfl (by decide) ?_
    refine z_goto (tgt := 7) dX7_runScript_30 (by decide) ?_
    rw [g_m_runScript_L1]
    exact ih (k + 1) t (sA 6 (k) (S.2 5 (k)) S) (by first | omega | assumption) (by first | omega | assumption) (hF.gF (gF_A (by decide) (by decide) (by decide))) hp (by first | omega | assumption) (by first | rfl | exact h_t)
noncomputable def g_m_runScript (ty : Nat) (p : Nat) (S : ZS) : Int32 × ZS := g_m_runScript_L1 ty p ty 0 ty (sI 15 (0) S)
theorem k_m_runScript (ty : Nat) (p : Nat) (S : ZS) (h9 : S.1 9 = nI ty) (h6 : ty ≤ 600) (hF : mFg S) (hp : S.1 5 = nI p) (hp8 : p ≤ 8) : zM sc yX7_runScript cX7_runScript 2 (some .int) 22 0 0 [.ref 0] (mh S) (.inl (some (.int (g_m_runScript ty p S).1))) (mh (g_m_runScript ty p S).2) := by
  refine zM.at (ls := [some (.ref 0), none]) zy_X7_runScript.2.2.2.2.2 (Nat.le_of_ble_eq_true rfl) rfl ?_
  refine z_aload_0 dX7_runScript_0 ?_
  refine z_iconst (v := 0) dX7_runScript_1 rfl ?_
  refine z_put (k := 15) (ty := tyX7) dX7_runScript_2 rfl rfl (by decide) zf_X7_64 zw_in7 tyX7_ok nmX7 rfl (fun _ => ⟨rfl, rfl⟩) (Nat.le_of_ble_eq_true rfl) ?_
  refine Z.heap (h2 := mh (sI 15 (0) S)) rfl ?_
  refine z_iconst (v := 0) dX7_runScript_5 rfl ?_
  refine z_istore_1 dX7_runScript_6 rfl (by decide) ?_
  rw [g_m_runScript]
  exact l_g_m_runScript_L1 ty p ty 0 ty (sI 15 (0) S) (by first | omega | assumption) (by first | omega | assumption) (hF.gF (gF_I (by decide))) hp (by first | omega | assumption) (by first | rfl | exact h_t | exact h9)
