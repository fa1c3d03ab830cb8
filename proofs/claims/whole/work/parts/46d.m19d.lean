variable {sc : SC}

noncomputable def g_m_truncateInput (x : Int32) (S : ZS) : Int32 × ZS := (x, (sI 9 (x) (sI 15 (0) S)))
theorem k_m_truncateInput (x : Int32) (S : ZS) (hx : g_m_in x 0 (S.1 9) = true) : zM sc yX7_truncateInput cX7_truncateInput 2 (some .int) 1 0 0 [.ref 0, .int (x)] (mh S) (.inl (some (.int (g_m_truncateInput x S).1))) (mh (g_m_truncateInput x S).2) := by
  refine zM.at (ls := [some (.ref 0), some (.int (x))]) zy_X7_truncateInput.2.2.2.2.2 (Nat.le_of_ble_eq_true rfl) rfl ?_
  refine z_aload_0 dX7_truncateInput_0 ?_
  refine z_iload_1 dX7_truncateInput_1 ?_
  refine z_iconst (v := 0) dX7_truncateInput_2 rfl ?_
  refine z_aload_0 dX7_truncateInput_3 ?_
  refine z_get (k := 9) (v := .int (S.1 9)) dX7_truncateInput_4 rfl rfl rfl (by decide) zf_X7_277 zw_in7 ?_
  refine Z.callE (zRun.S (ρ := fun i => i) (k_m_in (x) (0) (S.1 9) ) dX7_truncateInput_7 zy_X7_in zm_X7_67 rfl rfl (Nat.le_of_ble_eq_true rfl) (by decide) (by decide)) ?_
  refine z_topi (w := 1) (by rw [hx]; rfl) ?_
  refine z_if_ne_t (tgt := 17) dX7_truncateInput_10 (by decide) (by decide) ?_
  refine z_iconst (v := 0) dX7_truncateInput_17 rfl ?_
  refine Z.call0s (zRun.V (ρ := fun i => i) (k_m_throwsOne (false) S ) dX7_truncateInput_18 zy_X7_throwsOne zm_X7_284 rfl rfl rfl rfl (Nat.le_of_ble_eq_true rfl) (by decide) (by decide)) (zlen2 14 rfl rfl) ?_
  refine Z.heap (h2 := mh (sI 15 (0) S)) rfl ?_
  refine z_topi (w := 0) rfl ?_
  refine z_if_eq_t (tgt := 26) dX7_truncateInput_21 (by decide) (by decide) ?_
  refine z_aload_0 dX7_truncateInput_26 ?_
  refine z_iload_1 dX7_truncateInput_27 ?_
  refine z_put (k := 9) (ty := tyX7) dX7_truncateInput_28 rfl rfl (by decide) zf_X7_277 zw_in7 tyX7_ok nmX7 rfl (fun _ => ⟨rfl, rfl⟩) (Nat.le_of_ble_eq_true rfl) ?_
  refine Z.heap (h2 := mh (sI 9 (x) (sI 15 (0) S))) rfl ?_
  refine z_iload_1 dX7_truncateInput_31 ?_
  rw [g_m_truncateInput]
  exact z_iret dX7_truncateInput_32 rfl rfl rfl rfl
noncomputable def g_m_truncateInput_x1 (_x : Int32) (S : ZS) : Int32 × ZS := (0, (sI 15 (1) S))
theorem k_m_truncateInput_x1 (x : Int32) (S : ZS) (hx : g_m_in x 0 (S.1 9) = false) : zM sc yX7_truncateInput cX7_truncateInput 2 (some .int) 1 0 0 [.ref 0, .int (x)] (mh S) (.inl (some (.int (g_m_truncateInput_x1 x S).1))) (mh (g_m_truncateInput_x1 x S).2) := by
  refine zM.at (ls := [some (.ref 0), some (.int (x))]) zy_X7_truncateInput.2.2.2.2.2 (Nat.le_of_ble_eq_true rfl) rfl ?_
  refine z_aload_0 dX7_truncateInput_0 ?_
  refine z_iload_1 dX7_truncateInput_1 ?_
  refine z_iconst (v := 0) dX7_truncateInput_2 rfl ?_
  refine z_aload_0 dX7_truncateInput_3 ?_
  refine z_get (k := 9) (v := .int (S.1 9)) dX7_truncateInput_4 rfl rfl rfl (by decide) zf_X7_277 zw_in7 ?_
  refine Z.callE (zRun.S (ρ := fun i => i) (k_m_in (x) (0) (S.1 9) ) dX7_truncateInput_7 zy_X7_in zm_X7_67 rfl rfl (Nat.le_of_ble_eq_true rfl) (by decide) (by decide)) ?_
  refine z_topi (w := 0) (by rw [hx]; rfl) ?_
  refine z_if_ne_f (tgt := 17) dX7_truncateInput_10 (by decide) (by decide) ?_
  refine z_iconst (v := 1) dX7_truncateInput_13 rfl ?_
  refine z_goto (tgt := 18) dX7_truncateInput_14 (by decide) ?_
  refine Z.call0s (zRun.V (ρ := fun i => i) (k_m_throwsOne (true) S ) dX7_truncateInput_18 zy_X7_throwsOne zm_X7_284 rfl rfl rfl rfl (Nat.le_of_ble_eq_true rfl) (by decide) (by decide)) (zlen2 14 rfl rfl) ?_
  refine Z.heap (h2 := mh (sI 15 (1) S)) rfl ?_
  refine z_topi (w := 1) rfl ?_
  refine z_if_eq_f (tgt := 26) dX7_truncateInput_21 (by decide) (by decide) ?_
  refine z_iconst (v := 0) dX7_truncateInput_24 rfl ?_
  rw [g_m_truncateInput_x1]
  exact z_iret dX7_truncateInput_25 rfl rfl rfl rfl
noncomputable def g_m_begins_L  : Nat → Nat → ZS → ZS
  | 0, _, S => S
  | fu + 1, k, S => g_m_begins_L fu (k + 1) (sA 1 (k) (S.2 0 (k)) S)
theorem l_g_m_begins_L  : ∀ (fu : Nat) (k : Nat) (S : ZS) , (k + fu = 300) → Z sc yX7_begins cX7_begins 2 none 0 0 0 2 [some (.ref 0), some (.int (nI (k)))] [] (mh S) (.inl none) (mh (g_m_begins_L fu k S)) := by
  intro fu
  induction fu with
  | zero =>
    intro k S hk
    refine z_iload_1 dX7_begins_2 ?_
    refine z_sipush (v := 300) dX7_begins_3 rfl ?_
    refine z_icmpN_ge_t (tgt := 27) dX7_begins_6 (by decide) (x := k) (z := 300) (by first | omega | assumption) (by first | omega | assumption) (by omega) ?_
    rw [g_m_begins_L]
    exact z_vret dX7_begins_27 rfl rfl rfl
  | succ fu ih =>
    intro k S hk
    refine z_iload_1 dX7_begins_2 ?_
    refine z_sipush (v := 300) dX7_begins_3 rfl ?_
    refine z_icmpN_ge_f (tgt := 27) dX7_begins_6 (by decide) (x := k) (z := 300) (by first | omega | assumption) (by first | omega | assumption) (by omega) ?_
    refine z_aload_0 dX7_begins_9 ?_
    refine z_get (k := 1) (v := .ref 2) dX7_begins_10 rfl rfl rfl (by decide) zf_X7_13 zw_in7 ?_
    refine z_iload_1 dX7_begins_13 ?_
    refine z_aload_0 dX7_begins_14 ?_
    refine z_get (k := 0) (v := .ref 1) dX7_begins_15 rfl rfl rfl (by decide) zf_X7_7 zw_in7 ?_
    refine z_iload_1 dX7_begins_18 ?_
    refine z_ialdN (k := k) dX7_begins_19 rfl (by first | omega | assumption) (by decide) ?_
    refine z_topi (w := S.2 0 (k)) rfl ?_
    refine z_iastN (k := k) dX7_begins_20 rfl (by first | omega | assumption) (by decide) ?_
    refine Z.heap (h2 := mh (sA 1 (k) (S.2 0 (k)) S)) rfl ?_
    refine z_iinc_1 (v := nI (k + 1)) dX7_begins_21 (nI_add _ 1) rfl (by decide) ?_
    refine z_goto (tgt := 2) dX7_begins_24 (by decide) ?_
    rw [g_m_begins_L]
    exact ih (k + 1) (sA 1 (k) (S.2 0 (k)) S) (by first | omega | assumption)
noncomputable def g_m_begins (S : ZS) : ZS := g_m_begins_L (zopq 300) 0 S
theorem k_m_begins (S : ZS)  : zM sc yX7_begins cX7_begins 2 none 0 0 0 [.ref 0] (mh S) (.inl none) (mh (g_m_begins S)) := by
  refine zM.at (ls := [some (.ref 0), none]) zy_X7_begins.2.2.2.2.2 (Nat.le_of_ble_eq_true rfl) rfl ?_
  have hz := zopq_eq 300
  refine z_iconst (v := 0) dX7_begins_0 rfl ?_
  refine z_istore_1 dX7_begins_1 rfl (by decide) ?_
  rw [g_m_begins]
  exact l_g_m_begins_L (zopq 300) 0 S (by first | omega | assumption)
