variable {sc : SC}
noncomputable def g_c_6_sum (_n : Nat) (a : Nat) (b : Nat) (S : ZS) (X : ZS) (R : ZS) (T : TS) : Int64 := (g_c_6_totalOf a b S X R T)
theorem k_c_6_sum (n : Nat) (a : Nat) (b : Nat) (S : ZS) (X : ZS) (R : ZS) (T : TS) (hn : tn T = nI n) (h40 : n ≤ 40) (hab : a ≤ b) (hbn : b < n) : zM sc yX6_sum cX6_sum 3 (some .long) 3 0 0 [.ref 0, .int (nI (a)), .int (nI (b))] (qh S X R T) (.inl (some (.long (g_c_6_sum n a b S X R T)))) (qh S X R T) := by
  refine zM.at (ls := [some (.ref 0), some (.int (nI (a))), some (.int (nI (b)))]) zy_X6_sum.2.2.2.2.2 (Nat.le_of_ble_eq_true rfl) rfl ?_
  refine z_aload_0 dX6_sum_0 ?_
  refine z_iload_1 dX6_sum_1 ?_
  refine z_iload_2 dX6_sum_2 ?_
  refine Z.call0n (zRun.V (ρ := fun i => i) (k_c_6_checkRange n a b S X R T (by first | omega | assumption) (by first | omega | assumption) (by first | omega | assumption) (by first | omega | assumption)) dX6_sum_3 zy_X6_checkRange zm_X6_102 rfl rfl rfl rfl (Nat.le_of_ble_eq_true rfl) (by decide) (by decide)) (zlen2 14 rfl rfl) ?_
  refine z_aload_0 dX6_sum_6 ?_
  refine z_iload_1 dX6_sum_7 ?_
  refine z_iload_2 dX6_sum_8 ?_
  refine Z.call0s (zRun.V (ρ := fun i => i) (k_c_6_totalOf a b S X R T (by omega) (by omega)) dX6_sum_9 zy_X6_totalOf zm_X6_167 rfl rfl rfl rfl (Nat.le_of_ble_eq_true rfl) (by decide) (by decide)) (zlen2 14 rfl rfl) ?_
  rw [g_c_6_sum]
  exact z_lret dX6_sum_12 rfl rfl rfl
