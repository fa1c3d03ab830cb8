variable {sc : SC}
theorem k_buildFV (T : TS) : zM sc yX5_build cX5_build 4 none 2 0 0 [.ref 0, .ref (1000000 + 200), .int 10] (th T) (.inl none) (th (tBuild (tSz T 10 (va_cpy FV (tva T) 0 0 10)))) := by
  refine zM.at (ls := [some (.ref 0), some (.ref (1000000 + 200)), some (.int 10), none]) zy_X5_build.2.2.2.2.2 (Nat.le_of_ble_eq_true rfl) rfl ?_
  refine z_aload_1 dX5_build_0 ?_
  refine z_ifnull dX5_build_1 ?_
  refine z_iload_2 dX5_build_4 ?_
  refine z_iconst (v := 1) dX5_build_5 rfl ?_
  refine z_icmp_lt_f 21 dX5_build_6 (by decide) (by decide) ?_
  refine z_iload_2 dX5_build_9 ?_
  refine z_aload_1 dX5_build_10 ?_
  refine z_alenF dX5_build_11 ?_
  refine z_icmp_gt_f 21 dX5_build_12 (by decide) (by decide) ?_
  refine z_iload_2 dX5_build_15 ?_
  refine z_bipush (v := 40) dX5_build_16 rfl ?_
  refine z_icmp_le_t (tgt := 22) dX5_build_18 (by decide) (by decide) ?_
  refine z_aload_0 dX5_build_22 ?_
  refine z_iload_2 dX5_build_23 ?_
  refine z_put (k := 0) (ty := tyX5) dX5_build_24 rfl rfl (by decide) zf_X5_11 zw_in5 tyX5_ok nmX5 rfl (fun _ => ⟨rfl, rfl⟩) (Nat.le_of_ble_eq_true rfl) ?_
  refine z_aload_1 dX5_build_27 ?_
  refine z_iconst (v := 0) dX5_build_28 rfl ?_
  refine z_aload_0 dX5_build_29 ?_
  refine z_get (k := 11) dX5_build_30 rfl rfl rfl (by decide) zf_X5_47 zw_in5 ?_
  refine z_iconst (v := 0) dX5_build_33 rfl ?_
  refine z_iload_2 dX5_build_34 ?_
  refine z_copyF (n1 := 40) dX5_build_35 zac_l rfl (by decide) (by decide) (Nat.le_of_ble_eq_true rfl) ?_
  refine Z.heap (h2 := th (tSz T 10 (va_cpy FV (tva T) 0 0 10)) ++ []) rfl ?_
  have h9 := l_buildTail (sc := sc) (tSz T 10 (va_cpy FV (tva T) 0 0 10)) [] (.ref (1000000 + 200)) (.int (nI 10)) rfl rfl
  rw [List.append_nil] at h9 ⊢
  exact h9
