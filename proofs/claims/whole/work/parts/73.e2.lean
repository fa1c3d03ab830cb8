variable {sc : SC}

theorem isAt_lt {c : Nat} {x : Int32} {S : ZS} {TU : TS} (h : g_c_2_isAt c x S TU = true) (hx : ¬ x = 0) : sp S < c := by
  rw [g_c_2_isAt] at h
  split at h
  next e => exact code_lt (by rw [e]; exact hx)
  next e => exact absurd h Bool.false_ne_true
theorem isAt_iff {c : Nat} {x : Int32} {S : ZS} {TU : TS} : g_c_2_isAt c x S TU = true ↔ g_c_4_codeAt c (sp S) S = x := by
  rw [g_c_2_isAt]
  split
  next e => exact ⟨fun _ => e, fun _ => rfl⟩
  next e => exact ⟨fun h => absurd h Bool.false_ne_true, fun h => absurd h e⟩
theorem exp_ok {c : Nat} {x : Int32} {S : ZS} {TU : TS} (h : (g_c_2_expect c x S TU).1 7 = 0) : S.1 7 = 0 ∧ g_c_4_codeAt c (sp S) S = x ∧ g_c_2_expect c x S TU = sI 5 (nI (sp S + 1)) S := by
  rw [g_c_2_expect] at h ⊢
  split at h
  next e =>
    split at h
    next e2 => rw [if_pos e, if_pos e2]; exact ⟨e, e2, rfl⟩
    next e2 => exact absurd h (fail_err (by decide))
  next e => exact absurd h e
theorem num_ok {c : Nat} {x z : Int32} {S : ZS} {TU : TS} (h : (g_c_2_readNumber c x z S TU).2.1 7 = 0) : S.1 7 = 0 ∧ g_c_4_codeAt c (sp S) S = 2 ∧ (g_c_2_readNumber c x z S TU).1 = g_c_4_numberAt c (sp S) S ∧ x ≤ g_c_4_numberAt c (sp S) S ∧ g_c_4_numberAt c (sp S) S ≤ z ∧ (g_c_2_readNumber c x z S TU).2 = sI 5 (nI (sp S + 1)) S := by
  rw [g_c_2_readNumber] at h ⊢
  split at h
  next e =>
    have e' := isAt_iff.mp e
    rw [if_pos e]
    split at h
    next e2 => exact absurd (exp_ok h).1 (fail_err (by decide))
    next e2 =>
      rw [if_neg e2]
      split at h
      next e3 =>
        rw [if_pos e3]
        exact ⟨(exp_ok h).1, e', rfl, Int32.not_lt.mp e2, e3, (exp_ok h).2.2⟩
      next e3 => exact absurd (exp_ok h).1 (fail_err (by decide))
  next e => exact absurd (isAt_iff.mpr (exp_ok h).2.1) e
theorem ends_ok {c : Nat} {b : Bool} {S : ZS} {TU : TS} (h : (g_c_2_ends c b S TU).1 = true) : b = true ∧ S.1 7 = 0 ∧ g_c_4_codeAt c (sp S) S = 6 ∧ (g_c_2_ends c b S TU).2 = sI 5 (nI (sp S + 1)) S := by
  rw [g_c_2_ends] at h ⊢
  split at h
  next e =>
    rw [if_pos e]
    split at h
    next e2 =>
      rw [if_pos e2]
      split at h
      next e3 => rw [if_pos e3]; exact ⟨e2, (exp_ok e3).1, (exp_ok e3).2.1, (exp_ok e3).2.2⟩
      next e3 => exact absurd h Bool.false_ne_true
    next e2 =>
      split at h
      next e3 => exact absurd (exp_ok e3).1 (fail_err (by decide))
      next e3 => exact absurd h Bool.false_ne_true
  next e =>
    split at h
    next e3 => exact absurd (isAt_iff.mpr (exp_ok e3).2.1) e
    next e3 => exact absurd h Bool.false_ne_true
noncomputable def g_c_2_readValue (c : Nat) (b : Bool) (S : ZS) (TU : TS) : Int32 × ZS := (if S.1 7 = 0 then (if ((g_c_2_isAt c (3) S TU)) = true then (if b = true then (-(g_c_4_numberAt c (sp S + 1) (sI 5 (nI (sp S + 1)) S)), (g_c_2_expect c (2) (sI 5 (nI (sp S + 1)) S) TU)) else (if ((g_c_2_isAt c (2) (sI 5 (nI (sp S + 1)) S) TU)) = true then (-(g_c_4_numberAt c (sp S + 1) (sI 5 (nI (sp S + 1)) S)), (g_c_2_expect c (2) (g_c_2_fail (3) (sI 5 (nI (sp S + 1)) S) TU) TU)) else (-(g_c_4_numberAt c (sp S + 1) (sI 5 (nI (sp S + 1)) S)), (g_c_2_expect c (2) (sI 5 (nI (sp S + 1)) S) TU)))) else (if b = true then ((g_c_4_numberAt c (sp S) S), (g_c_2_expect c (2) S TU)) else (if ((g_c_2_isAt c (2) S TU)) = true then ((g_c_4_numberAt c (sp S) S), (g_c_2_expect c (2) (g_c_2_fail (3) S TU) TU)) else ((g_c_4_numberAt c (sp S) S), (g_c_2_expect c (2) S TU))))) else (if b = true then ((g_c_4_numberAt c (sp S) S), (g_c_2_expect c (2) S TU)) else (if ((g_c_2_isAt c (2) S TU)) = true then ((g_c_4_numberAt c (sp S) S), (g_c_2_expect c (2) (g_c_2_fail (3) S TU) TU)) else ((g_c_4_numberAt c (sp S) S), (g_c_2_expect c (2) S TU)))))
theorem k_c_2_readValue (c : Nat) (b : Bool) (S : ZS) (TU : TS) (hS : scO c S) : zM sc yX2_readValue cX2_readValue 4 (some .int) 2 0 0 [.ref 0, .int (zb (b))] (sho 0 S TU) (.inl (some (.int (g_c_2_readValue c b S TU).1))) (sho 0 (g_c_2_readValue c b S TU).2 TU) := by
  refine zM.at (ls := [some (.ref 0), some (.int (zb (b))), none, none]) zy_X2_readValue.2.2.2.2.2 (Nat.le_of_ble_eq_true rfl) rfl ?_
  refine z_aload_0 dX2_readValue_0 ?_
  refine z_get (k := 5) (v := .int (S.1 7)) dX2_readValue_1 rfl rfl rfl (by decide) zf_X2_36 zw_in2 ?_
  refine z_if_ne (tgt := 19) dX2_readValue_4 (by decide) (fun c4 => ?_) (fun c4 => ?_)
  · refine z_iconst (v := 0) dX2_readValue_19 rfl ?_
    refine z_istore_2 dX2_readValue_20 rfl (by decide) ?_
    refine z_iload_2 dX2_readValue_21 ?_
    refine z_if_eq_t (tgt := 35) dX2_readValue_22 (by decide) (by decide) ?_
    refine z_aload_0 dX2_readValue_35 ?_
    refine z_get (k := 1) (v := .ref 10) dX2_readValue_36 rfl rfl rfl (by decide) zf_X2_21 zw_in2 ?_
    refine z_aload_0 dX2_readValue_39 ?_
    refine z_get (k := 3) (v := .int (S.1 5)) dX2_readValue_40 rfl rfl rfl (by decide) zf_X2_29 zw_in2 ?_
    refine z_topi (w := nI (sp S)) hS.2.2.1 ?_
    refine Z.shs (sho 0 S TU) (zRun.V (ρ := zsh 10) (k_c_4_numberAt c (sp S) S hS.1 hS.2.1 (by have h9 := hS.2.1; have h8 := hS.2.2.2; omega)) dX2_readValue_43 zy_X4_numberAt zm_X2_104 rfl rfl rfl rfl (Nat.le_of_ble_eq_true rfl) (by decide) (by decide) (zsh_fix 10)) (zsh_inj (Nat.le_of_ble_eq_true rfl)) ⟨rfl, rfl, rfl, rfl, trivial⟩ (zlen2 4 rfl rfl) rfl rfl ?_
    refine z_istore_3 dX2_readValue_46 rfl (by decide) ?_
    refine z_iload_1 dX2_readValue_47 ?_
    refine z_ifB_ne (tgt := 64) dX2_readValue_48 (by decide) (fun c48 => ?_) (fun c48 => ?_)
    · refine z_aload_0 dX2_readValue_64 ?_
      refine z_iconst (v := 2) dX2_readValue_65 rfl ?_
      refine Z.call0n (zRun.V (ρ := fun i => i) (k_c_2_expect c (2) S TU (by first | exact hS | exact fail_sc hS | exact hS.adv (isAt_lt c12 (by decide)) rfl rfl | exact fail_sc (hS.adv (isAt_lt c12 (by decide)) rfl rfl))) dX2_readValue_66 zy_X2_expect zm_X2_90 rfl rfl rfl rfl (Nat.le_of_ble_eq_true rfl) (by decide) (by decide)) (zlen2 18 rfl rfl) ?_
      refine z_iload_2 dX2_readValue_69 ?_
      refine z_if_eq_t (tgt := 78) dX2_readValue_70 (by decide) (by decide) ?_
      refine z_iload_3 dX2_readValue_78 ?_
      rw [g_c_2_readValue, if_neg c4, if_pos c48]
      exact z_iret dX2_readValue_79 rfl (zint _) rfl rfl
    · refine z_aload_0 dX2_readValue_51 ?_
      refine z_iconst (v := 2) dX2_readValue_52 rfl ?_
      refine Z.call0s (zRun.V (ρ := fun i => i) (k_c_2_isAt c (2) S TU (by first | exact hS | exact fail_sc hS | exact hS.adv (isAt_lt c12 (by decide)) rfl rfl | exact fail_sc (hS.adv (isAt_lt c12 (by decide)) rfl rfl))) dX2_readValue_53 zy_X2_isAt zm_X2_86 rfl rfl rfl rfl (Nat.le_of_ble_eq_true rfl) (by decide) (by decide)) (zlen2 18 rfl rfl) ?_
      refine z_ifB_eq (tgt := 64) dX2_readValue_56 (by decide) (fun c56 => ?_) (fun c56 => ?_)
      · refine z_aload_0 dX2_readValue_64 ?_
        refine z_iconst (v := 2) dX2_readValue_65 rfl ?_
        refine Z.call0n (zRun.V (ρ := fun i => i) (k_c_2_expect c (2) S TU (by first | exact hS | exact fail_sc hS | exact hS.adv (isAt_lt c12 (by decide)) rfl rfl | exact fail_sc (hS.adv (isAt_lt c12 (by decide)) rfl rfl))) dX2_readValue_66 zy_X2_expect zm_X2_90 rfl rfl rfl rfl (Nat.le_of_ble_eq_true rfl) (by decide) (by decide)) (zlen2 18 rfl rfl) ?_
        refine z_iload_2 dX2_readValue_69 ?_
        refine z_if_eq_t (tgt := 78) dX2_readValue_70 (by decide) (by decide) ?_
        refine z_iload_3 dX2_readValue_78 ?_
        rw [g_c_2_readValue, if_neg c4, if_neg c48, if_neg c56]
        exact z_iret dX2_readValue_79 rfl (zint _) rfl rfl
      · refine z_aload_0 dX2_readValue_59 ?_
        refine z_iconst (v := 3) dX2_readValue_60 rfl ?_
        refine Z.call0n (zRun.V (ρ := fun i => i) (k_c_2_fail (3) S TU ) dX2_readValue_61 zy_X2_fail zm_X2_83 rfl rfl rfl rfl (Nat.le_of_ble_eq_true rfl) (by decide) (by decide)) (zlen2 18 rfl rfl) ?_
        refine z_aload_0 dX2_readValue_64 ?_
        refine z_iconst (v := 2) dX2_readValue_65 rfl ?_
        refine Z.call0n (zRun.V (ρ := fun i => i) (k_c_2_expect c (2) (g_c_2_fail (3) S TU) TU (by first | exact hS | exact fail_sc hS | exact hS.adv (isAt_lt c12 (by decide)) rfl rfl | exact fail_sc (hS.adv (isAt_lt c12 (by decide)) rfl rfl))) dX2_readValue_66 zy_X2_expect zm_X2_90 rfl rfl rfl rfl (Nat.le_of_ble_eq_true rfl) (by decide) (by decide)) (zlen2 18 rfl rfl) ?_
        refine z_iload_2 dX2_readValue_69 ?_
        refine z_if_eq_t (tgt := 78) dX2_readValue_70 (by decide) (by decide) ?_
        refine z_iload_3 dX2_readValue_78 ?_
        rw [g_c_2_readValue, if_neg c4, if_neg c48, if_pos c56]
        exact z_iret dX2_readValue_79 rfl (zint _) rfl rfl
  · refine z_aload_0 dX2_readValue_7 ?_
    refine z_iconst (v := 3) dX2_readValue_8 rfl ?_
    refine Z.call0s (zRun.V (ρ := fun i => i) (k_c_2_isAt c (3) S TU (by first | exact hS | exact fail_sc hS | exact hS.adv (isAt_lt c12 (by decide)) rfl rfl | exact fail_sc (hS.adv (isAt_lt c12 (by decide)) rfl rfl))) dX2_readValue_9 zy_X2_isAt zm_X2_86 rfl rfl rfl rfl (Nat.le_of_ble_eq_true rfl) (by decide) (by decide)) (zlen2 18 rfl rfl) ?_
    refine z_ifB_eq (tgt := 19) dX2_readValue_12 (by decide) (fun c12 => ?_) (fun c12 => ?_)
    · refine z_iconst (v := 0) dX2_readValue_19 rfl ?_
      refine z_istore_2 dX2_readValue_20 rfl (by decide) ?_
      refine z_iload_2 dX2_readValue_21 ?_
      refine z_if_eq_t (tgt := 35) dX2_readValue_22 (by decide) (by decide) ?_
      refine z_aload_0 dX2_readValue_35 ?_
      refine z_get (k := 1) (v := .ref 10) dX2_readValue_36 rfl rfl rfl (by decide) zf_X2_21 zw_in2 ?_
      refine z_aload_0 dX2_readValue_39 ?_
      refine z_get (k := 3) (v := .int (S.1 5)) dX2_readValue_40 rfl rfl rfl (by decide) zf_X2_29 zw_in2 ?_
      refine z_topi (w := nI (sp S)) hS.2.2.1 ?_
      refine Z.shs (sho 0 S TU) (zRun.V (ρ := zsh 10) (k_c_4_numberAt c (sp S) S hS.1 hS.2.1 (by have h9 := hS.2.1; have h8 := hS.2.2.2; omega)) dX2_readValue_43 zy_X4_numberAt zm_X2_104 rfl rfl rfl rfl (Nat.le_of_ble_eq_true rfl) (by decide) (by decide) (zsh_fix 10)) (zsh_inj (Nat.le_of_ble_eq_true rfl)) ⟨rfl, rfl, rfl, rfl, trivial⟩ (zlen2 4 rfl rfl) rfl rfl ?_
      refine z_istore_3 dX2_readValue_46 rfl (by decide) ?_
      refine z_iload_1 dX2_readValue_47 ?_
      refine z_ifB_ne (tgt := 64) dX2_readValue_48 (by decide) (fun c48 => ?_) (fun c48 => ?_)
      · refine z_aload_0 dX2_readValue_64 ?_
        refine z_iconst (v := 2) dX2_readValue_65 rfl ?_
        refine Z.call0n (zRun.V (ρ := fun i => i) (k_c_2_expect c (2) S TU (by first | exact hS | exact fail_sc hS | exact hS.adv (isAt_lt c12 (by decide)) rfl rfl | exact fail_sc (hS.adv (isAt_lt c12 (by decide)) rfl rfl))) dX2_readValue_66 zy_X2_expect zm_X2_90 rfl rfl rfl rfl (Nat.le_of_ble_eq_true rfl) (by decide) (by decide)) (zlen2 18 rfl rfl) ?_
        refine z_iload_2 dX2_readValue_69 ?_
        refine z_if_eq_t (tgt := 78) dX2_readValue_70 (by decide) (by decide) ?_
        refine z_iload_3 dX2_readValue_78 ?_
        rw [g_c_2_readValue, if_pos c4, if_neg c12, if_pos c48]
        exact z_iret dX2_readValue_79 rfl (zint _) rfl rfl
      · refine z_aload_0 dX2_readValue_51 ?_
        refine z_iconst (v := 2) dX2_readValue_52 rfl ?_
        refine Z.call0s (zRun.V (ρ := fun i => i) (k_c_2_isAt c (2) S TU (by first | exact hS | exact fail_sc hS | exact hS.adv (isAt_lt c12 (by decide)) rfl rfl | exact fail_sc (hS.adv (isAt_lt c12 (by decide)) rfl rfl))) dX2_readValue_53 zy_X2_isAt zm_X2_86 rfl rfl rfl rfl (Nat.le_of_ble_eq_true rfl) (by decide) (by decide)) (zlen2 18 rfl rfl) ?_
        refine z_ifB_eq (tgt := 64) dX2_readValue_56 (by decide) (fun c56 => ?_) (fun c56 => ?_)
        · refine z_aload_0 dX2_readValue_64 ?_
          refine z_iconst (v := 2) dX2_readValue_65 rfl ?_
          refine Z.call0n (zRun.V (ρ := fun i => i) (k_c_2_expect c (2) S TU (by first | exact hS | exact fail_sc hS | exact hS.adv (isAt_lt c12 (by decide)) rfl rfl | exact fail_sc (hS.adv (isAt_lt c12 (by decide)) rfl rfl))) dX2_readValue_66 zy_X2_expect zm_X2_90 rfl rfl rfl rfl (Nat.le_of_ble_eq_true rfl) (by decide) (by decide)) (zlen2 18 rfl rfl) ?_
          refine z_iload_2 dX2_readValue_69 ?_
          refine z_if_eq_t (tgt := 78) dX2_readValue_70 (by decide) (by decide) ?_
          refine z_iload_3 dX2_readValue_78 ?_
          rw [g_c_2_readValue, if_pos c4, if_neg c12, if_neg c48, if_neg c56]
          exact z_iret dX2_readValue_79 rfl (zint _) rfl rfl
        · refine z_aload_0 dX2_readValue_59 ?_
          refine z_iconst (v := 3) dX2_readValue_60 rfl ?_
          refine Z.call0n (zRun.V (ρ := fun i => i) (k_c_2_fail (3) S TU ) dX2_readValue_61 zy_X2_fail zm_X2_83 rfl rfl rfl rfl (Nat.le_of_ble_eq_true rfl) (by decide) (by decide)) (zlen2 18 rfl rfl) ?_
          refine z_aload_0 dX2_readValue_64 ?_
          refine z_iconst (v := 2) dX2_readValue_65 rfl ?_
          refine Z.call0n (zRun.V (ρ := fun i => i) (k_c_2_expect c (2) (g_c_2_fail (3) S TU) TU (by first | exact hS | exact fail_sc hS | exact hS.adv (isAt_lt c12 (by decide)) rfl rfl | exact fail_sc (hS.adv (isAt_lt c12 (by decide)) rfl rfl))) dX2_readValue_66 zy_X2_expect zm_X2_90 rfl rfl rfl rfl (Nat.le_of_ble_eq_true rfl) (by decide) (by decide)) (zlen2 18 rfl rfl) ?_
          refine z_iload_2 dX2_readValue_69 ?_
          refine z_if_eq_t (tgt := 78) dX2_readValue_70 (by decide) (by decide) ?_
          refine z_iload_3 dX2_readValue_78 ?_
          rw [g_c_2_readValue, if_pos c4, if_neg c12, if_neg c48, if_pos c56]
          exact z_iret dX2_readValue_79 rfl (zint _) rfl rfl
    · refine z_iconst (v := 1) dX2_readValue_15 rfl ?_
      refine z_goto (tgt := 20) dX2_readValue_16 (by decide) ?_
      refine z_istore_2 dX2_readValue_20 rfl (by decide) ?_
      refine z_iload_2 dX2_readValue_21 ?_
      refine z_if_eq_f (tgt := 35) dX2_readValue_22 (by decide) (by decide) ?_
      refine z_aload_0 dX2_readValue_25 ?_
      refine z_dup dX2_readValue_26 rfl ?_
      refine z_get (k := 3) (v := .int (S.1 5)) dX2_readValue_27 rfl rfl rfl (by decide) zf_X2_29 zw_in2 ?_
      refine z_topi (w := nI (sp S)) hS.2.2.1 ?_
      refine z_iconst (v := 1) dX2_readValue_30 rfl ?_
      refine z_iadd dX2_readValue_31 ?_
      refine z_topi (w := nI (sp S + 1)) (nI_add _ _) ?_
      refine z_put (k := 3) (ty := tyX2) dX2_readValue_32 rfl rfl (by decide) zf_X2_29 zw_in2 tyX2_ok nmX2 rfl (fun _ => ⟨rfl, rfl⟩) (Nat.le_of_ble_eq_true rfl) ?_
      refine Z.heap (h2 := sho 0 (sI 5 (nI (sp S + 1)) S) TU) rfl ?_
      refine z_aload_0 dX2_readValue_35 ?_
      refine z_get (k := 1) (v := .ref 10) dX2_readValue_36 rfl rfl rfl (by decide) zf_X2_21 zw_in2 ?_
      refine z_aload_0 dX2_readValue_39 ?_
      refine z_get (k := 3) (v := .int (nI (sp S + 1))) dX2_readValue_40 rfl rfl rfl (by decide) zf_X2_29 zw_in2 ?_
      refine Z.shs (sho 0 (sI 5 (nI (sp S + 1)) S) TU) (zRun.V (ρ := zsh 10) (k_c_4_numberAt c (sp S + 1) (sI 5 (nI (sp S + 1)) S) hS.1 hS.2.1 (by have h9 := hS.2.1; have h8 := hS.2.2.2; omega)) dX2_readValue_43 zy_X4_numberAt zm_X2_104 rfl rfl rfl rfl (Nat.le_of_ble_eq_true rfl) (by decide) (by decide) (zsh_fix 10)) (zsh_inj (Nat.le_of_ble_eq_true rfl)) ⟨rfl, rfl, rfl, rfl, trivial⟩ (zlen2 4 rfl rfl) rfl rfl ?_
      refine z_istore_3 dX2_readValue_46 rfl (by decide) ?_
      refine z_iload_1 dX2_readValue_47 ?_
      refine z_ifB_ne (tgt := 64) dX2_readValue_48 (by decide) (fun c48 => ?_) (fun c48 => ?_)
      · refine z_aload_0 dX2_readValue_64 ?_
        refine z_iconst (v := 2) dX2_readValue_65 rfl ?_
        refine Z.call0n (zRun.V (ρ := fun i => i) (k_c_2_expect c (2) (sI 5 (nI (sp S + 1)) S) TU (by first | exact hS | exact fail_sc hS | exact hS.adv (isAt_lt c12 (by decide)) rfl rfl | exact fail_sc (hS.adv (isAt_lt c12 (by decide)) rfl rfl))) dX2_readValue_66 zy_X2_expect zm_X2_90 rfl rfl rfl rfl (Nat.le_of_ble_eq_true rfl) (by decide) (by decide)) (zlen2 18 rfl rfl) ?_
        refine z_iload_2 dX2_readValue_69 ?_
        refine z_if_eq_f (tgt := 78) dX2_readValue_70 (by decide) (by decide) ?_
        refine z_iload_3 dX2_readValue_73 ?_
        refine z_ineg dX2_readValue_74 ?_
        refine z_goto (tgt := 79) dX2_readValue_75 (by decide) ?_
        rw [g_c_2_readValue, if_pos c4, if_pos c12, if_pos c48]
        exact z_iret dX2_readValue_79 rfl (zint _) rfl rfl
      · refine z_aload_0 dX2_readValue_51 ?_
        refine z_iconst (v := 2) dX2_readValue_52 rfl ?_
        refine Z.call0s (zRun.V (ρ := fun i => i) (k_c_2_isAt c (2) (sI 5 (nI (sp S + 1)) S) TU (by first | exact hS | exact fail_sc hS | exact hS.adv (isAt_lt c12 (by decide)) rfl rfl | exact fail_sc (hS.adv (isAt_lt c12 (by decide)) rfl rfl))) dX2_readValue_53 zy_X2_isAt zm_X2_86 rfl rfl rfl rfl (Nat.le_of_ble_eq_true rfl) (by decide) (by decide)) (zlen2 18 rfl rfl) ?_
        refine z_ifB_eq (tgt := 64) dX2_readValue_56 (by decide) (fun c56 => ?_) (fun c56 => ?_)
        · refine z_aload_0 dX2_readValue_64 ?_
          refine z_iconst (v := 2) dX2_readValue_65 rfl ?_
          refine Z.call0n (zRun.V (ρ := fun i => i) (k_c_2_expect c (2) (sI 5 (nI (sp S + 1)) S) TU (by first | exact hS | exact fail_sc hS | exact hS.adv (isAt_lt c12 (by decide)) rfl rfl | exact fail_sc (hS.adv (isAt_lt c12 (by decide)) rfl rfl))) dX2_readValue_66 zy_X2_expect zm_X2_90 rfl rfl rfl rfl (Nat.le_of_ble_eq_true rfl) (by decide) (by decide)) (zlen2 18 rfl rfl) ?_
          refine z_iload_2 dX2_readValue_69 ?_
          refine z_if_eq_f (tgt := 78) dX2_readValue_70 (by decide) (by decide) ?_
          refine z_iload_3 dX2_readValue_73 ?_
          refine z_ineg dX2_readValue_74 ?_
          refine z_goto (tgt := 79) dX2_readValue_75 (by decide) ?_
          rw [g_c_2_readValue, if_pos c4, if_pos c12, if_neg c48, if_neg c56]
          exact z_iret dX2_readValue_79 rfl (zint _) rfl rfl
        · refine z_aload_0 dX2_readValue_59 ?_
          refine z_iconst (v := 3) dX2_readValue_60 rfl ?_
          refine Z.call0n (zRun.V (ρ := fun i => i) (k_c_2_fail (3) (sI 5 (nI (sp S + 1)) S) TU ) dX2_readValue_61 zy_X2_fail zm_X2_83 rfl rfl rfl rfl (Nat.le_of_ble_eq_true rfl) (by decide) (by decide)) (zlen2 18 rfl rfl) ?_
          refine z_aload_0 dX2_readValue_64 ?_
          refine z_iconst (v := 2) dX2_readValue_65 rfl ?_
          refine Z.call0n (zRun.V (ρ := fun i => i) (k_c_2_expect c (2) (g_c_2_fail (3) (sI 5 (nI (sp S + 1)) S) TU) TU (by first | exact hS | exact fail_sc hS | exact hS.adv (isAt_lt c12 (by decide)) rfl rfl | exact fail_sc (hS.adv (isAt_lt c12 (by decide)) rfl rfl))) dX2_readValue_66 zy_X2_expect zm_X2_90 rfl rfl rfl rfl (Nat.le_of_ble_eq_true rfl) (by decide) (by decide)) (zlen2 18 rfl rfl) ?_
          refine z_iload_2 dX2_readValue_69 ?_
          refine z_if_eq_f (tgt := 78) dX2_readValue_70 (by decide) (by decide) ?_
          refine z_iload_3 dX2_readValue_73 ?_
          refine z_ineg dX2_readValue_74 ?_
          refine z_goto (tgt := 79) dX2_readValue_75 (by decide) ?_
          rw [g_c_2_readValue, if_pos c4, if_pos c12, if_neg c48, if_pos c56]
          exact z_iret dX2_readValue_79 rfl (zint _) rfl rfl
theorem adv_sc {c : Nat} {S : ZS} (h : scO c S) (hk : sp S < c) : scO c (sI 5 (nI (sp S + 1)) S) := h.adv hk rfl rfl
theorem val_sc {c : Nat} {b : Bool} {S : ZS} {TU : TS} (h : scO c S) : scO c (g_c_2_readValue c b S TU).2 := by
  rw [g_c_2_readValue]
  repeat' split
  all_goals first | exact exp_sc h (by decide) | exact exp_sc (fail_sc h) (by decide) | exact exp_sc (adv_sc h (isAt_lt (by assumption) (by decide))) (by decide) | exact exp_sc (fail_sc (adv_sc h (isAt_lt (by assumption) (by decide)))) (by decide)
theorem val_mono {c : Nat} {b : Bool} {S : ZS} {TU : TS} (h : (g_c_2_readValue c b S TU).2.1 7 = 0) : S.1 7 = 0 := by
  by_cases e : S.1 7 = 0
  · exact e
  · rw [g_c_2_readValue, if_neg e] at h
    split at h
    · exact (exp_ok h).1
    · split at h
      · exact absurd (exp_ok h).1 (fail_err (by decide))
      · exact (exp_ok h).1
/-- a number that was read, as a place -/
theorem upd_nat {n : Nat} {x : Int32} (h1 : 1 ≤ n) (h40 : n ≤ 40) (h0 : 0 ≤ x) (hx : x ≤ nI (n - 1)) : x = nI x.toNatClampNeg ∧ x.toNatClampNeg < n := by
  have a : (0 : Int) ≤ x.toInt := by rw [Int32.le_iff_toInt_le] at h0; exact h0
  have b : x.toInt ≤ (n - 1 : Nat) := by rw [Int32.le_iff_toInt_le, nI_toInt (by omega)] at hx; exact hx
  have e : x = nI x.toInt.toNat := by
    apply Int32.toInt_inj.mp
    rw [nI_toInt (by omega)]
    omega
  have e2 : x.toNatClampNeg = x.toInt.toNat := by rw [e, nI_clamp (by omega), nI_toInt (by omega)]; omega
  rw [e2]
  exact ⟨e, by omega⟩
theorem upd_le {x z : Int32} {a b : Nat} (hx : x = nI a) (hz : z = nI b) (ha : a < 2 ^ 31) (hb : b < 2 ^ 31) (h : x ≤ z) : a ≤ b := by
  rw [hx, hz, Int32.le_iff_toInt_le, nI_toInt ha, nI_toInt hb] at h
  omega
