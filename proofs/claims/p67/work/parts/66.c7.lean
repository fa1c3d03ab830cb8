variable {sc : SC}
noncomputable def g_c_6_storedSum (k : Nat) (_S : ZS) (_X : ZS) (_R : ZS) (T : TS) : Int64 := tS T k
theorem k_c_6_storedSum (k : Nat) (S : ZS) (X : ZS) (R : ZS) (T : TS) (h1 : 1 ≤ k) (h2 : k < 128) (h3 : ¬ tF T k = -1) : zM sc yX6_storedSum cX6_storedSum 2 (some .long) 2 0 0 [.ref 0, .int (nI (k))] (qh S X R T) (.inl (some (.long (g_c_6_storedSum k S X R T)))) (qh S X R T) := by
  refine zM.at (ls := [some (.ref 0), some (.int (nI (k)))]) zy_X6_storedSum.2.2.2.2.2 (Nat.le_of_ble_eq_true rfl) rfl ?_
  refine z_aload_0 dX6_storedSum_0 ?_
  refine z_iload_1 dX6_storedSum_1 ?_
  refine Z.call0n (zRun.V (ρ := fun i => i) (k_c_6_checkNode k S X R T (by first | omega | assumption) (by first | omega | assumption) (by first | omega | assumption)) dX6_storedSum_2 zy_X6_checkNode zm_X6_118 rfl rfl rfl rfl (Nat.le_of_ble_eq_true rfl) (by decide) (by decide)) (zlen2 14 rfl rfl) ?_
  refine z_aload_0 dX6_storedSum_5 ?_
  refine z_get (k := 0) (v := .ref 1) dX6_storedSum_6 rfl rfl rfl (by decide) zf_X6_10 zw_in6 ?_
  refine z_iload_1 dX6_storedSum_9 ?_
  refine Z.shs (qh S X R T) (zRun.V (ρ := zsh 1) (k_sumAt T k (by first | omega | assumption) (by first | omega | assumption)) dX6_storedSum_10 zy_X5_sumAt zm_X6_208 rfl rfl rfl rfl (Nat.le_of_ble_eq_true rfl) (by decide) (by decide) (zsh_fix 1)) (zsh_inj (Nat.le_of_ble_eq_true rfl)) ⟨rfl, rfl, rfl, rfl, rfl, rfl, rfl, rfl, rfl, trivial⟩ (zlen2 9 rfl rfl) rfl rfl ?_
  rw [g_c_6_storedSum]
  exact z_lret dX6_storedSum_13 rfl rfl rfl
noncomputable def g_c_6_markFactor (k : Nat) (_S : ZS) (_X : ZS) (_R : ZS) (T : TS) : Int32 := tfa T k
theorem k_c_6_markFactor (k : Nat) (S : ZS) (X : ZS) (R : ZS) (T : TS) (h1 : 1 ≤ k) (h2 : k < 128) (h3 : ¬ tF T k = -1) : zM sc yX6_markFactor cX6_markFactor 2 (some .int) 2 0 0 [.ref 0, .int (nI (k))] (qh S X R T) (.inl (some (.int (g_c_6_markFactor k S X R T)))) (qh S X R T) := by
  refine zM.at (ls := [some (.ref 0), some (.int (nI (k)))]) zy_X6_markFactor.2.2.2.2.2 (Nat.le_of_ble_eq_true rfl) rfl ?_
  refine z_aload_0 dX6_markFactor_0 ?_
  refine z_iload_1 dX6_markFactor_1 ?_
  refine Z.call0n (zRun.V (ρ := fun i => i) (k_c_6_checkNode k S X R T (by first | omega | assumption) (by first | omega | assumption) (by first | omega | assumption)) dX6_markFactor_2 zy_X6_checkNode zm_X6_118 rfl rfl rfl rfl (Nat.le_of_ble_eq_true rfl) (by decide) (by decide)) (zlen2 14 rfl rfl) ?_
  refine z_aload_0 dX6_markFactor_5 ?_
  refine z_get (k := 0) (v := .ref 1) dX6_markFactor_6 rfl rfl rfl (by decide) zf_X6_10 zw_in6 ?_
  refine z_iload_1 dX6_markFactor_9 ?_
  refine Z.shs (qh S X R T) (zRun.V (ρ := zsh 1) (k_factorAt T k (by first | omega | assumption) (by first | omega | assumption)) dX6_markFactor_10 zy_X5_factorAt zm_X6_218 rfl rfl rfl rfl (Nat.le_of_ble_eq_true rfl) (by decide) (by decide) (zsh_fix 1)) (zsh_inj (Nat.le_of_ble_eq_true rfl)) ⟨rfl, rfl, rfl, rfl, rfl, rfl, rfl, rfl, rfl, trivial⟩ (zlen2 9 rfl rfl) rfl rfl ?_
  rw [g_c_6_markFactor]
  exact z_iret dX6_markFactor_13 rfl (zint _) rfl rfl
noncomputable def g_c_6_markOffset (k : Nat) (_S : ZS) (_X : ZS) (_R : ZS) (T : TS) : Int32 := tog T k
theorem k_c_6_markOffset (k : Nat) (S : ZS) (X : ZS) (R : ZS) (T : TS) (h1 : 1 ≤ k) (h2 : k < 128) (h3 : ¬ tF T k = -1) : zM sc yX6_markOffset cX6_markOffset 2 (some .int) 2 0 0 [.ref 0, .int (nI (k))] (qh S X R T) (.inl (some (.int (g_c_6_markOffset k S X R T)))) (qh S X R T) := by
  refine zM.at (ls := [some (.ref 0), some (.int (nI (k)))]) zy_X6_markOffset.2.2.2.2.2 (Nat.le_of_ble_eq_true rfl) rfl ?_
  refine z_aload_0 dX6_markOffset_0 ?_
  refine z_iload_1 dX6_markOffset_1 ?_
  refine Z.call0n (zRun.V (ρ := fun i => i) (k_c_6_checkNode k S X R T (by first | omega | assumption) (by first | omega | assumption) (by first | omega | assumption)) dX6_markOffset_2 zy_X6_checkNode zm_X6_118 rfl rfl rfl rfl (Nat.le_of_ble_eq_true rfl) (by decide) (by decide)) (zlen2 14 rfl rfl) ?_
  refine z_aload_0 dX6_markOffset_5 ?_
  refine z_get (k := 0) (v := .ref 1) dX6_markOffset_6 rfl rfl rfl (by decide) zf_X6_10 zw_in6 ?_
  refine z_iload_1 dX6_markOffset_9 ?_
  refine Z.shs (qh S X R T) (zRun.V (ρ := zsh 1) (k_offsetAt T k (by first | omega | assumption) (by first | omega | assumption)) dX6_markOffset_10 zy_X5_offsetAt zm_X6_221 rfl rfl rfl rfl (Nat.le_of_ble_eq_true rfl) (by decide) (by decide) (zsh_fix 1)) (zsh_inj (Nat.le_of_ble_eq_true rfl)) ⟨rfl, rfl, rfl, rfl, rfl, rfl, rfl, rfl, rfl, trivial⟩ (zlen2 9 rfl rfl) rfl rfl ?_
  rw [g_c_6_markOffset]
  exact z_iret dX6_markOffset_13 rfl (zint _) rfl rfl
