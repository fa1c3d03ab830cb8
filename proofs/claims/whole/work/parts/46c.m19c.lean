variable {sc : SC}

noncomputable def s_m_append_1 (ty : Nat) (a : Int32) (b : Int32) (c : Int32) (d : Int32) (S : ZS) : ZS := (g_m_type (ty + 12) (d) (g_m_type (ty + 8) (c) (g_m_type (ty + 4) (b) (g_m_type ty (a) (sI 15 (0) S)))))
noncomputable def g_m_append (ty : Nat) (a : Int32) (b : Int32) (c : Int32) (d : Int32) (e : Int32) (S : ZS) : Int32 × ZS := (if ty + 20 ≤ 600 then (nI (ty + 20), (g_m_type (ty + 16) (e) (s_m_append_1 ty a b c d S))) else ((-1), (sI 15 (0) S)))
theorem k_m_append (ty : Nat) (a : Int32) (b : Int32) (c : Int32) (d : Int32) (e : Int32) (S : ZS) (h9 : S.1 9 = nI ty) (h6 : ty ≤ 600) : zM sc yX7_append cX7_append 6 (some .int) 1 0 0 [.ref 0, .int (a), .int (b), .int (c), .int (d), .int (e)] (mh S) (.inl (some (.int (g_m_append ty a b c d e S).1))) (mh (g_m_append ty a b c d e S).2) := by
  refine zM.at (ls := [some (.ref 0), some (.int (a)), some (.int (b)), some (.int (c)), some (.int (d)), some (.int (e))]) zy_X7_append.2.2.2.2.2 (Nat.le_of_ble_eq_true rfl) rfl ?_
  refine z_aload_0 dX7_append_0 ?_
  refine z_iconst (v := 0) dX7_append_1 rfl ?_
  refine z_put (k := 15) (ty := tyX7) dX7_append_2 rfl rfl (by decide) zf_X7_64 zw_in7 tyX7_ok nmX7 rfl (fun _ => ⟨rfl, rfl⟩) (Nat.le_of_ble_eq_true rfl) ?_
  refine Z.heap (h2 := mh (sI 15 (0) S)) rfl ?_
  refine z_aload_0 dX7_append_5 ?_
  refine z_get (k := 9) (v := .int (S.1 9)) dX7_append_6 rfl rfl rfl (by decide) zf_X7_277 zw_in7 ?_
  refine z_topi (w := nI (ty)) h9 ?_
  refine z_bipush (v := 20) dX7_append_9 rfl ?_
  refine z_iadd dX7_append_11 ?_
  refine z_topi (w := nI (ty + 20)) (nI_add _ _) ?_
  refine z_sipush (v := 600) dX7_append_12 rfl ?_
  refine z_icmpN_le (tgt := 20) dX7_append_15 (by decide) (x := ty + 20) (z := 600) (by first | omega | assumption) (by first | omega | assumption) (fun c15 => ?_) (fun c15 => ?_)
  · refine z_aload_0 dX7_append_20 ?_
    refine z_iload_1 dX7_append_21 ?_
    refine Z.call0n (zRun.V (ρ := fun i => i) (k_m_type ty (a) (sI 15 (0) S) h9 (by omega)) dX7_append_22 zy_X7_type zm_X7_280 rfl rfl rfl rfl (Nat.le_of_ble_eq_true rfl) (by decide) (by decide)) (zlen2 14 rfl rfl) ?_
    refine z_aload_0 dX7_append_25 ?_
    refine z_iload_2 dX7_append_26 ?_
    refine Z.call0n (zRun.V (ρ := fun i => i) (k_m_type (ty + 4) (b) (g_m_type ty (a) (sI 15 (0) S)) (type_9 h9) (by omega)) dX7_append_27 zy_X7_type zm_X7_280 rfl rfl rfl rfl (Nat.le_of_ble_eq_true rfl) (by decide) (by decide)) (zlen2 14 rfl rfl) ?_
    refine z_aload_0 dX7_append_30 ?_
    refine z_iload_3 dX7_append_31 ?_
    refine Z.call0n (zRun.V (ρ := fun i => i) (k_m_type (ty + 8) (c) (g_m_type (ty + 4) (b) (g_m_type ty (a) (sI 15 (0) S))) (type_9 (type_9 h9)) (by omega)) dX7_append_32 zy_X7_type zm_X7_280 rfl rfl rfl rfl (Nat.le_of_ble_eq_true rfl) (by decide) (by decide)) (zlen2 14 rfl rfl) ?_
    refine z_aload_0 dX7_append_35 ?_
    refine z_iload_4 dX7_append_36 ?_
    refine Z.call0n (zRun.V (ρ := fun i => i) (k_m_type (ty + 12) (d) (g_m_type (ty + 8) (c) (g_m_type (ty + 4) (b) (g_m_type ty (a) (sI 15 (0) S)))) (type_9 (type_9 (type_9 h9))) (by omega)) dX7_append_38 zy_X7_type zm_X7_280 rfl rfl rfl rfl (Nat.le_of_ble_eq_true rfl) (by decide) (by decide)) (zlen2 14 rfl rfl) ?_
    refine z_aload_0 dX7_append_41 ?_
    refine z_iload_5 dX7_append_42 ?_
    refine Z.call0n (zRun.V (ρ := fun i => i) (k_m_type (ty + 16) (e) (s_m_append_1 ty a b c d S) (type_9 (type_9 (type_9 (type_9 h9)))) (by omega)) dX7_append_44 zy_X7_type zm_X7_280 rfl rfl rfl rfl (Nat.le_of_ble_eq_true rfl) (by decide) (by decide)) (zlen2 14 rfl rfl) ?_
    refine z_aload_0 dX7_append_47 ?_
    refine z_get (k := 9) (v := .int (((g_m_type (ty + 16) (e) (s_m_append_1 ty a b c d S))).1 9)) dX7_append_48 rfl rfl rfl (by decide) zf_X7_277 zw_in7 ?_
    refine z_topi (w := nI (ty + 20)) (type_9 (type_9 (type_9 (type_9 (type_9 h9))))) ?_
    rw [g_m_append, if_pos c15]
    exact z_iret dX7_append_51 rfl rfl rfl rfl
  · refine z_iconst (v := (-1)) dX7_append_18 rfl ?_
    rw [g_m_append, if_neg c15]
    exact z_iret dX7_append_19 rfl rfl rfl rfl
