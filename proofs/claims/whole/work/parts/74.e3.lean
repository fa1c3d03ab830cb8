variable {sc : SC}

theorem k_hasAny (T : TS) (m : Nat) (hm : m < 2 ^ 31) : zM sc yX5_has cX5_has 2 (some .boolean) 0 0 0 [.ref 0, .int (nI m)] (th T) (.inl (some (.int (zb (decide (1 ≤ m ∧ m < 128 ∧ ¬ tF T m = -1)))))) (th T) := by
  by_cases h : 1 ≤ m ∧ m < 128
  · have k := k_has (sc := sc) T m h.1 h.2
    have e : decide (¬ tF T m = -1) = decide (1 ≤ m ∧ m < 128 ∧ ¬ tF T m = -1) := decide_eq_decide.mpr ⟨fun q => ⟨h.1, h.2, q⟩, fun q => q.2.2⟩
    rw [e] at k
    exact k
  · have k := k_hasOut (sc := sc) T (nI m) (fun q => h (by
      have q1 := q.1; have q2 := q.2
      rw [Int32.le_iff_toInt_le, nI_toInt hm] at q1
      rw [Int32.lt_iff_toInt_lt, nI_toInt hm] at q2
      have e1 : (1 : Int32).toInt = 1 := by decide
      have e2 : (128 : Int32).toInt = 128 := by decide
      omega))
    have e : decide (1 ≤ m ∧ m < 128 ∧ ¬ tF T m = -1) = false := decide_eq_false (fun q => h ⟨q.1, q.2.1⟩)
    rw [e]
    exact k
theorem k_isInnerAny (T : TS) (m : Nat) (hm : m < 2 ^ 31) : zM sc yX5_isInner cX5_isInner 2 (some .boolean) 0 0 0 [.ref 0, .int (nI m)] (th T) (.inl (some (.int (zb (decide (1 ≤ m ∧ tIn T m)))))) (th T) := by
  by_cases h1 : 1 ≤ m
  · have e : decide (tIn T m) = decide (1 ≤ m ∧ tIn T m) := decide_eq_decide.mpr ⟨fun q => ⟨h1, q⟩, fun q => q.2⟩
    by_cases h : m < 128
    · have k := k_isInner' (sc := sc) T m h1 h
      rw [e] at k
      exact k
    · have k := k_isInnerBig (sc := sc) T m (by omega) hm
      have e2 : decide (1 ≤ m ∧ tIn T m) = false := decide_eq_false (fun q => absurd q.2.1 (by omega))
      rw [e2]
      exact k
  · have k := k_isInner0 (sc := sc) T
    have e0 : m = 0 := by omega
    subst e0
    have e2 : decide (1 ≤ 0 ∧ tIn T 0) = false := decide_eq_false (fun q => absurd q.1 (by decide))
    rw [e2]
    exact k
/-- the tokens' numbers are small -/
noncomputable def nm (c k : Nat) (S : ZS) : Nat := (g_c_4_numberAt c k S).toNatClampNeg
def scN (c : Nat) (S : ZS) : Prop := ∀ k, g_c_4_numberAt c k S = nI (nm c k S) ∧ nm c k S ≤ 9999
noncomputable def g_c_2_readAppend (c : Nat) (n : Nat) (S : ZS) (TU : TS) : ZS × TS := (if 40 ≤ n then (if ((g_c_2_ends c (false) ((g_c_2_readValue c (true) S TU).2) TU).1) = true then ((g_c_2_ends c (false) ((g_c_2_readValue c (true) S TU).2) TU).2, (tBuild (tSz TU (n + 1) (upd (tva TU) n ((g_c_2_readValue c (true) S TU).1))))) else ((g_c_2_ends c (false) ((g_c_2_readValue c (true) S TU).2) TU).2, TU)) else (if ((g_c_2_ends c (true) ((g_c_2_readValue c (true) S TU).2) TU).1) = true then ((g_c_2_ends c (true) ((g_c_2_readValue c (true) S TU).2) TU).2, (tBuild (tSz TU (n + 1) (upd (tva TU) n ((g_c_2_readValue c (true) S TU).1))))) else ((g_c_2_ends c (true) ((g_c_2_readValue c (true) S TU).2) TU).2, TU)))
theorem k_c_2_readAppend (c : Nat) (n : Nat) (S : ZS) (TU : TS) (hS : scO c S) (hn : tn TU = nI n) (h1 : 1 ≤ n) (h40 : n ≤ 40) : zM sc yX2_readAppend cX2_readAppend 2 none 4 0 0 [.ref 0] (sho 0 S TU) (.inl none) (sho 0 (g_c_2_readAppend c n S TU).1 (g_c_2_readAppend c n S TU).2) := by
  refine zM.at (ls := [some (.ref 0), none]) zy_X2_readAppend.2.2.2.2.2 (Nat.le_of_ble_eq_true rfl) rfl ?_
  refine z_aload_0 dX2_readAppend_0 ?_
  refine z_iconst (v := 1) dX2_readAppend_1 rfl ?_
  refine Z.call0s (zRun.V (ρ := fun i => i) (k_c_2_readValue c (true) S TU hS) dX2_readAppend_2 zy_X2_readValue zm_X2_93 rfl rfl rfl rfl (Nat.le_of_ble_eq_true rfl) (by decide) (by decide)) (zlen2 18 rfl rfl) ?_
  refine z_istore_1 dX2_readAppend_5 rfl (by decide) ?_
  refine z_aload_0 dX2_readAppend_6 ?_
  refine z_aload_0 dX2_readAppend_7 ?_
  refine z_get (k := 0) (v := .ref 1) dX2_readAppend_8 rfl rfl rfl (by decide) zf_X2_12 zw_in2 ?_
  refine Z.shs (sho 0 (g_c_2_readValue c (true) S TU).2 TU) (zRun.V (ρ := zsh 1) (k_size TU) dX2_readAppend_11 zy_X5_size zm_X2_128 rfl rfl rfl rfl (Nat.le_of_ble_eq_true rfl) (by decide) (by decide) (zsh_fix 1)) (zsh_inj (Nat.le_of_ble_eq_true rfl)) ⟨rfl, rfl, rfl, rfl, rfl, rfl, rfl, rfl, rfl, trivial⟩ (zlen2 9 rfl rfl) rfl rfl ?_
  refine z_topi (w := nI (n)) hn ?_
  refine z_bipush (v := 40) dX2_readAppend_14 rfl ?_
  refine z_icmpN_ge (tgt := 23) dX2_readAppend_16 (by decide) (x := n) (z := 40) (by first | omega | assumption) (by first | omega | assumption) (fun c16 => ?_) (fun c16 => ?_)
  · refine z_iconst (v := 0) dX2_readAppend_23 rfl ?_
    refine Z.call0s (zRun.V (ρ := fun i => i) (k_c_2_ends c (false) ((g_c_2_readValue c (true) S TU).2) TU (val_sc hS)) dX2_readAppend_24 zy_X2_ends zm_X2_117 rfl rfl rfl rfl (Nat.le_of_ble_eq_true rfl) (by decide) (by decide)) (zlen2 18 rfl rfl) ?_
    refine z_ifB_eq (tgt := 38) dX2_readAppend_27 (by decide) (fun c27 => ?_) (fun c27 => ?_)
    · rw [g_c_2_readAppend, if_pos c16, if_neg c27]
      try dsimp only
      exact z_vret dX2_readAppend_38 rfl rfl rfl
    · refine z_aload_0 dX2_readAppend_30 ?_
      refine z_get (k := 0) (v := .ref 1) dX2_readAppend_31 rfl rfl rfl (by decide) zf_X2_12 zw_in2 ?_
      refine z_iload_1 dX2_readAppend_34 ?_
      refine Z.shn (sho 0 (g_c_2_ends c (false) ((g_c_2_readValue c (true) S TU).2) TU).2 (tBuild (tSz TU (n + 1) (upd (tva TU) n ((g_c_2_readValue c (true) S TU).1))))) (zRun.V (ρ := zsh 1) (k_extend TU n ((g_c_2_readValue c (true) S TU).1) hn (by first | omega | exact absurd (ends_ok c27).1 Bool.false_ne_true)) dX2_readAppend_35 zy_X5_extend zm_X2_151 rfl rfl rfl rfl (Nat.le_of_ble_eq_true rfl) (by decide) (by decide) (zsh_fix 1)) (zsh_inj (Nat.le_of_ble_eq_true rfl)) ⟨rfl, rfl, rfl, rfl, rfl, rfl, rfl, rfl, rfl, trivial⟩ (zlen2 9 rfl rfl) rfl ?_
      rw [g_c_2_readAppend, if_pos c16, if_pos c27]
      try dsimp only
      exact z_vret dX2_readAppend_38 rfl rfl rfl
  · refine z_iconst (v := 1) dX2_readAppend_19 rfl ?_
    refine z_goto (tgt := 24) dX2_readAppend_20 (by decide) ?_
    refine Z.call0s (zRun.V (ρ := fun i => i) (k_c_2_ends c (true) ((g_c_2_readValue c (true) S TU).2) TU (val_sc hS)) dX2_readAppend_24 zy_X2_ends zm_X2_117 rfl rfl rfl rfl (Nat.le_of_ble_eq_true rfl) (by decide) (by decide)) (zlen2 18 rfl rfl) ?_
    refine z_ifB_eq (tgt := 38) dX2_readAppend_27 (by decide) (fun c27 => ?_) (fun c27 => ?_)
    · rw [g_c_2_readAppend, if_neg c16, if_neg c27]
      try dsimp only
      exact z_vret dX2_readAppend_38 rfl rfl rfl
    · refine z_aload_0 dX2_readAppend_30 ?_
      refine z_get (k := 0) (v := .ref 1) dX2_readAppend_31 rfl rfl rfl (by decide) zf_X2_12 zw_in2 ?_
      refine z_iload_1 dX2_readAppend_34 ?_
      refine Z.shn (sho 0 (g_c_2_ends c (true) ((g_c_2_readValue c (true) S TU).2) TU).2 (tBuild (tSz TU (n + 1) (upd (tva TU) n ((g_c_2_readValue c (true) S TU).1))))) (zRun.V (ρ := zsh 1) (k_extend TU n ((g_c_2_readValue c (true) S TU).1) hn (by first | omega | exact absurd (ends_ok c27).1 Bool.false_ne_true)) dX2_readAppend_35 zy_X5_extend zm_X2_151 rfl rfl rfl rfl (Nat.le_of_ble_eq_true rfl) (by decide) (by decide) (zsh_fix 1)) (zsh_inj (Nat.le_of_ble_eq_true rfl)) ⟨rfl, rfl, rfl, rfl, rfl, rfl, rfl, rfl, rfl, trivial⟩ (zlen2 9 rfl rfl) rfl ?_
      rw [g_c_2_readAppend, if_neg c16, if_pos c27]
      try dsimp only
      exact z_vret dX2_readAppend_38 rfl rfl rfl
noncomputable def g_c_2_readPush (c : Nat) (S : ZS) (TU : TS) : ZS × TS := (if ((g_c_2_isAt c (2) S TU)) = true then (if (decide (1 ≤ (nm c (sp S) S) ∧ (nm c (sp S) S) < 128 ∧ ¬ tF TU (nm c (sp S) S) = -1)) = true then (if ((g_c_2_ends c (decide (1 ≤ (nm c (sp S) S) ∧ tIn TU (nm c (sp S) S))) (g_c_2_expect c (2) S TU) TU).1) = true then ((g_c_2_ends c (decide (1 ≤ (nm c (sp S) S) ∧ tIn TU (nm c (sp S) S))) (g_c_2_expect c (2) S TU) TU).2, (if tDo TU (nm c (sp S) S) then tPush TU (nm c (sp S) S) else TU)) else ((g_c_2_ends c (decide (1 ≤ (nm c (sp S) S) ∧ tIn TU (nm c (sp S) S))) (g_c_2_expect c (2) S TU) TU).2, TU)) else (if ((g_c_2_ends c (decide (1 ≤ (nm c (sp S) S) ∧ tIn TU (nm c (sp S) S))) (g_c_2_expect c (2) (g_c_2_fail (2) S TU) TU) TU).1) = true then ((g_c_2_ends c (decide (1 ≤ (nm c (sp S) S) ∧ tIn TU (nm c (sp S) S))) (g_c_2_expect c (2) (g_c_2_fail (2) S TU) TU) TU).2, (if tDo TU (nm c (sp S) S) then tPush TU (nm c (sp S) S) else TU)) else ((g_c_2_ends c (decide (1 ≤ (nm c (sp S) S) ∧ tIn TU (nm c (sp S) S))) (g_c_2_expect c (2) (g_c_2_fail (2) S TU) TU) TU).2, TU))) else (if ((g_c_2_ends c (decide (1 ≤ (nm c (sp S) S) ∧ tIn TU (nm c (sp S) S))) (g_c_2_expect c (2) S TU) TU).1) = true then ((g_c_2_ends c (decide (1 ≤ (nm c (sp S) S) ∧ tIn TU (nm c (sp S) S))) (g_c_2_expect c (2) S TU) TU).2, (if tDo TU (nm c (sp S) S) then tPush TU (nm c (sp S) S) else TU)) else ((g_c_2_ends c (decide (1 ≤ (nm c (sp S) S) ∧ tIn TU (nm c (sp S) S))) (g_c_2_expect c (2) S TU) TU).2, TU)))
theorem k_c_2_readPush (c : Nat) (S : ZS) (TU : TS) (hS : scO c S) (hN : scN c S) : zM sc yX2_readPush cX2_readPush 2 none 3 0 0 [.ref 0] (sho 0 S TU) (.inl none) (sho 0 (g_c_2_readPush c S TU).1 (g_c_2_readPush c S TU).2) := by
  refine zM.at (ls := [some (.ref 0), none]) zy_X2_readPush.2.2.2.2.2 (Nat.le_of_ble_eq_true rfl) rfl ?_
  refine z_aload_0 dX2_readPush_0 ?_
  refine z_get (k := 1) (v := .ref 10) dX2_readPush_1 rfl rfl rfl (by decide) zf_X2_21 zw_in2 ?_
  refine z_aload_0 dX2_readPush_4 ?_
  refine z_get (k := 3) (v := .int (S.1 5)) dX2_readPush_5 rfl rfl rfl (by decide) zf_X2_29 zw_in2 ?_
  refine z_topi (w := nI (sp S)) hS.2.2.1 ?_
  refine Z.shs (sho 0 S TU) (zRun.V (ρ := zsh 10) (k_c_4_numberAt c (sp S) S hS.1 hS.2.1 hS.lt) dX2_readPush_8 zy_X4_numberAt zm_X2_104 rfl rfl rfl rfl (Nat.le_of_ble_eq_true rfl) (by decide) (by decide) (zsh_fix 10)) (zsh_inj (Nat.le_of_ble_eq_true rfl)) ⟨rfl, rfl, rfl, rfl, trivial⟩ (zlen2 4 rfl rfl) rfl rfl ?_
  refine z_topi (w := nI (nm c (sp S) S)) (hN (sp S)).1 ?_
  refine z_istore_1 dX2_readPush_11 rfl (by decide) ?_
  refine z_aload_0 dX2_readPush_12 ?_
  refine z_iconst (v := 2) dX2_readPush_13 rfl ?_
  refine Z.call0s (zRun.V (ρ := fun i => i) (k_c_2_isAt c (2) S TU hS) dX2_readPush_14 zy_X2_isAt zm_X2_86 rfl rfl rfl rfl (Nat.le_of_ble_eq_true rfl) (by decide) (by decide)) (zlen2 18 rfl rfl) ?_
  refine z_ifB_eq (tgt := 36) dX2_readPush_17 (by decide) (fun c17 => ?_) (fun c17 => ?_)
  · refine z_aload_0 dX2_readPush_36 ?_
    refine z_iconst (v := 2) dX2_readPush_37 rfl ?_
    refine Z.call0n (zRun.V (ρ := fun i => i) (k_c_2_expect c (2) S TU (by first | exact hS | exact fail_sc hS)) dX2_readPush_38 zy_X2_expect zm_X2_90 rfl rfl rfl rfl (Nat.le_of_ble_eq_true rfl) (by decide) (by decide)) (zlen2 18 rfl rfl) ?_
    refine z_aload_0 dX2_readPush_41 ?_
    refine z_aload_0 dX2_readPush_42 ?_
    refine z_get (k := 0) (v := .ref 1) dX2_readPush_43 rfl rfl rfl (by decide) zf_X2_12 zw_in2 ?_
    refine z_iload_1 dX2_readPush_46 ?_
    refine Z.shs (sho 0 (g_c_2_expect c (2) S TU) TU) (zRun.V (ρ := zsh 1) (k_isInnerAny TU (nm c (sp S) S) (by have := (hN (sp S)).2; omega)) dX2_readPush_47 zy_X5_isInner zm_X2_145 rfl rfl rfl rfl (Nat.le_of_ble_eq_true rfl) (by decide) (by decide) (zsh_fix 1)) (zsh_inj (Nat.le_of_ble_eq_true rfl)) ⟨rfl, rfl, rfl, rfl, rfl, rfl, rfl, rfl, rfl, trivial⟩ (zlen2 9 rfl rfl) rfl rfl ?_
    refine Z.call0s (zRun.V (ρ := fun i => i) (k_c_2_ends c (decide (1 ≤ (nm c (sp S) S) ∧ tIn TU (nm c (sp S) S))) (g_c_2_expect c (2) S TU) TU (exp_sc (by first | exact hS | exact fail_sc hS) (by decide))) dX2_readPush_50 zy_X2_ends zm_X2_117 rfl rfl rfl rfl (Nat.le_of_ble_eq_true rfl) (by decide) (by decide)) (zlen2 18 rfl rfl) ?_
    refine z_ifB_eq (tgt := 65) dX2_readPush_53 (by decide) (fun c53 => ?_) (fun c53 => ?_)
    · rw [g_c_2_readPush, if_neg c17, if_neg c53]
      try dsimp only
      exact z_vret dX2_readPush_65 rfl rfl rfl
    · refine z_aload_0 dX2_readPush_56 ?_
      refine z_get (k := 0) (v := .ref 1) dX2_readPush_57 rfl rfl rfl (by decide) zf_X2_12 zw_in2 ?_
      refine z_iload_1 dX2_readPush_60 ?_
      refine Z.shs (sho 0 (g_c_2_ends c (decide (1 ≤ (nm c (sp S) S) ∧ tIn TU (nm c (sp S) S))) (g_c_2_expect c (2) S TU) TU).2 (if tDo TU (nm c (sp S) S) then tPush TU (nm c (sp S) S) else TU)) (zRun.V (ρ := zsh 1) (k_push TU (nm c (sp S) S) (of_decide_eq_true (ends_ok c53).1).1 (by have := (of_decide_eq_true (ends_ok c53).1).2.1; omega)) dX2_readPush_61 zy_X5_push zm_X2_148 rfl rfl rfl rfl (Nat.le_of_ble_eq_true rfl) (by decide) (by decide) (zsh_fix 1)) (zsh_inj (Nat.le_of_ble_eq_true rfl)) ⟨rfl, rfl, rfl, rfl, rfl, rfl, rfl, rfl, rfl, trivial⟩ (zlen2 9 rfl rfl) rfl rfl ?_
      refine z_pop dX2_readPush_64 rfl ?_
      rw [g_c_2_readPush, if_neg c17, if_pos c53]
      try dsimp only
      exact z_vret dX2_readPush_65 rfl rfl rfl
  · refine z_aload_0 dX2_readPush_20 ?_
    refine z_get (k := 0) (v := .ref 1) dX2_readPush_21 rfl rfl rfl (by decide) zf_X2_12 zw_in2 ?_
    refine z_iload_1 dX2_readPush_24 ?_
    refine Z.shs (sho 0 S TU) (zRun.V (ρ := zsh 1) (k_hasAny TU (nm c (sp S) S) (by have := (hN (sp S)).2; omega)) dX2_readPush_25 zy_X5_has zm_X2_142 rfl rfl rfl rfl (Nat.le_of_ble_eq_true rfl) (by decide) (by decide) (zsh_fix 1)) (zsh_inj (Nat.le_of_ble_eq_true rfl)) ⟨rfl, rfl, rfl, rfl, rfl, rfl, rfl, rfl, rfl, trivial⟩ (zlen2 9 rfl rfl) rfl rfl ?_
    refine z_ifB_ne (tgt := 36) dX2_readPush_28 (by decide) (fun c28 => ?_) (fun c28 => ?_)
    · refine z_aload_0 dX2_readPush_36 ?_
      refine z_iconst (v := 2) dX2_readPush_37 rfl ?_
      refine Z.call0n (zRun.V (ρ := fun i => i) (k_c_2_expect c (2) S TU (by first | exact hS | exact fail_sc hS)) dX2_readPush_38 zy_X2_expect zm_X2_90 rfl rfl rfl rfl (Nat.le_of_ble_eq_true rfl) (by decide) (by decide)) (zlen2 18 rfl rfl) ?_
      refine z_aload_0 dX2_readPush_41 ?_
      refine z_aload_0 dX2_readPush_42 ?_
      refine z_get (k := 0) (v := .ref 1) dX2_readPush_43 rfl rfl rfl (by decide) zf_X2_12 zw_in2 ?_
      refine z_iload_1 dX2_readPush_46 ?_
      refine Z.shs (sho 0 (g_c_2_expect c (2) S TU) TU) (zRun.V (ρ := zsh 1) (k_isInnerAny TU (nm c (sp S) S) (by have := (hN (sp S)).2; omega)) dX2_readPush_47 zy_X5_isInner zm_X2_145 rfl rfl rfl rfl (Nat.le_of_ble_eq_true rfl) (by decide) (by decide) (zsh_fix 1)) (zsh_inj (Nat.le_of_ble_eq_true rfl)) ⟨rfl, rfl, rfl, rfl, rfl, rfl, rfl, rfl, rfl, trivial⟩ (zlen2 9 rfl rfl) rfl rfl ?_
      refine Z.call0s (zRun.V (ρ := fun i => i) (k_c_2_ends c (decide (1 ≤ (nm c (sp S) S) ∧ tIn TU (nm c (sp S) S))) (g_c_2_expect c (2) S TU) TU (exp_sc (by first | exact hS | exact fail_sc hS) (by decide))) dX2_readPush_50 zy_X2_ends zm_X2_117 rfl rfl rfl rfl (Nat.le_of_ble_eq_true rfl) (by decide) (by decide)) (zlen2 18 rfl rfl) ?_
      refine z_ifB_eq (tgt := 65) dX2_readPush_53 (by decide) (fun c53 => ?_) (fun c53 => ?_)
      · rw [g_c_2_readPush, if_pos c17, if_pos c28, if_neg c53]
        try dsimp only
        exact z_vret dX2_readPush_65 rfl rfl rfl
      · refine z_aload_0 dX2_readPush_56 ?_
        refine z_get (k := 0) (v := .ref 1) dX2_readPush_57 rfl rfl rfl (by decide) zf_X2_12 zw_in2 ?_
        refine z_iload_1 dX2_readPush_60 ?_
        refine Z.shs (sho 0 (g_c_2_ends c (decide (1 ≤ (nm c (sp S) S) ∧ tIn TU (nm c (sp S) S))) (g_c_2_expect c (2) S TU) TU).2 (if tDo TU (nm c (sp S) S) then tPush TU (nm c (sp S) S) else TU)) (zRun.V (ρ := zsh 1) (k_push TU (nm c (sp S) S) (of_decide_eq_true (ends_ok c53).1).1 (by have := (of_decide_eq_true (ends_ok c53).1).2.1; omega)) dX2_readPush_61 zy_X5_push zm_X2_148 rfl rfl rfl rfl (Nat.le_of_ble_eq_true rfl) (by decide) (by decide) (zsh_fix 1)) (zsh_inj (Nat.le_of_ble_eq_true rfl)) ⟨rfl, rfl, rfl, rfl, rfl, rfl, rfl, rfl, rfl, trivial⟩ (zlen2 9 rfl rfl) rfl rfl ?_
        refine z_pop dX2_readPush_64 rfl ?_
        rw [g_c_2_readPush, if_pos c17, if_pos c28, if_pos c53]
        try dsimp only
        exact z_vret dX2_readPush_65 rfl rfl rfl
    · refine z_aload_0 dX2_readPush_31 ?_
      refine z_iconst (v := 2) dX2_readPush_32 rfl ?_
      refine Z.call0n (zRun.V (ρ := fun i => i) (k_c_2_fail (2) S TU ) dX2_readPush_33 zy_X2_fail zm_X2_83 rfl rfl rfl rfl (Nat.le_of_ble_eq_true rfl) (by decide) (by decide)) (zlen2 18 rfl rfl) ?_
      refine z_aload_0 dX2_readPush_36 ?_
      refine z_iconst (v := 2) dX2_readPush_37 rfl ?_
      refine Z.call0n (zRun.V (ρ := fun i => i) (k_c_2_expect c (2) (g_c_2_fail (2) S TU) TU (by first | exact hS | exact fail_sc hS)) dX2_readPush_38 zy_X2_expect zm_X2_90 rfl rfl rfl rfl (Nat.le_of_ble_eq_true rfl) (by decide) (by decide)) (zlen2 18 rfl rfl) ?_
      refine z_aload_0 dX2_readPush_41 ?_
      refine z_aload_0 dX2_readPush_42 ?_
      refine z_get (k := 0) (v := .ref 1) dX2_readPush_43 rfl rfl rfl (by decide) zf_X2_12 zw_in2 ?_
      refine z_iload_1 dX2_readPush_46 ?_
      refine Z.shs (sho 0 (g_c_2_expect c (2) (g_c_2_fail (2) S TU) TU) TU) (zRun.V (ρ := zsh 1) (k_isInnerAny TU (nm c (sp S) S) (by have := (hN (sp S)).2; omega)) dX2_readPush_47 zy_X5_isInner zm_X2_145 rfl rfl rfl rfl (Nat.le_of_ble_eq_true rfl) (by decide) (by decide) (zsh_fix 1)) (zsh_inj (Nat.le_of_ble_eq_true rfl)) ⟨rfl, rfl, rfl, rfl, rfl, rfl, rfl, rfl, rfl, trivial⟩ (zlen2 9 rfl rfl) rfl rfl ?_
      refine Z.call0s (zRun.V (ρ := fun i => i) (k_c_2_ends c (decide (1 ≤ (nm c (sp S) S) ∧ tIn TU (nm c (sp S) S))) (g_c_2_expect c (2) (g_c_2_fail (2) S TU) TU) TU (exp_sc (by first | exact hS | exact fail_sc hS) (by decide))) dX2_readPush_50 zy_X2_ends zm_X2_117 rfl rfl rfl rfl (Nat.le_of_ble_eq_true rfl) (by decide) (by decide)) (zlen2 18 rfl rfl) ?_
      refine z_ifB_eq (tgt := 65) dX2_readPush_53 (by decide) (fun c53 => ?_) (fun c53 => ?_)
      · rw [g_c_2_readPush, if_pos c17, if_neg c28, if_neg c53]
        try dsimp only
        exact z_vret dX2_readPush_65 rfl rfl rfl
      · refine z_aload_0 dX2_readPush_56 ?_
        refine z_get (k := 0) (v := .ref 1) dX2_readPush_57 rfl rfl rfl (by decide) zf_X2_12 zw_in2 ?_
        refine z_iload_1 dX2_readPush_60 ?_
        refine Z.shs (sho 0 (g_c_2_ends c (decide (1 ≤ (nm c (sp S) S) ∧ tIn TU (nm c (sp S) S))) (g_c_2_expect c (2) (g_c_2_fail (2) S TU) TU) TU).2 (if tDo TU (nm c (sp S) S) then tPush TU (nm c (sp S) S) else TU)) (zRun.V (ρ := zsh 1) (k_push TU (nm c (sp S) S) (of_decide_eq_true (ends_ok c53).1).1 (by have := (of_decide_eq_true (ends_ok c53).1).2.1; omega)) dX2_readPush_61 zy_X5_push zm_X2_148 rfl rfl rfl rfl (Nat.le_of_ble_eq_true rfl) (by decide) (by decide) (zsh_fix 1)) (zsh_inj (Nat.le_of_ble_eq_true rfl)) ⟨rfl, rfl, rfl, rfl, rfl, rfl, rfl, rfl, rfl, trivial⟩ (zlen2 9 rfl rfl) rfl rfl ?_
        refine z_pop dX2_readPush_64 rfl ?_
        rw [g_c_2_readPush, if_pos c17, if_neg c28, if_pos c53]
        try dsimp only
        exact z_vret dX2_readPush_65 rfl rfl rfl
noncomputable def g_c_2_readUpdate (c : Nat) (n : Nat) (x : Int32) (S : ZS) (TU : TS) : ZS × TS := (if x = 11 then (if ((g_c_2_readNumber c ((g_c_2_readNumber c (0) (nI (n - 1)) S TU).1) (nI (n - 1)) ((g_c_2_readNumber c (0) (nI (n - 1)) S TU).2) TU).2).1 7 = 0 then (if x = 10 then (if (decide (tCan TU ((g_c_2_readNumber c (0) (nI (n - 1)) S TU).1.toNatClampNeg) ((g_c_2_readNumber c ((g_c_2_readNumber c (0) (nI (n - 1)) S TU).1) (nI (n - 1)) ((g_c_2_readNumber c (0) (nI (n - 1)) S TU).2) TU).1.toNatClampNeg) (0))) = true then (if ((g_c_2_ends c (true) ((g_c_2_readNumber c ((g_c_2_readNumber c (0) (nI (n - 1)) S TU).1) (nI (n - 1)) ((g_c_2_readNumber c (0) (nI (n - 1)) S TU).2) TU).2) TU).1) = true then (if x = 9 then (((g_c_2_ends c (true) ((g_c_2_readNumber c ((g_c_2_readNumber c (0) (nI (n - 1)) S TU).1) (nI (n - 1)) ((g_c_2_readNumber c (0) (nI (n - 1)) S TU).2) TU).2) TU).2), ((tUpdate TU ((g_c_2_readNumber c (0) (nI (n - 1)) S TU).1) ((g_c_2_readNumber c ((g_c_2_readNumber c (0) (nI (n - 1)) S TU).1) (nI (n - 1)) ((g_c_2_readNumber c (0) (nI (n - 1)) S TU).2) TU).1) (0) (0)).1)) else (((g_c_2_ends c (true) ((g_c_2_readNumber c ((g_c_2_readNumber c (0) (nI (n - 1)) S TU).1) (nI (n - 1)) ((g_c_2_readNumber c (0) (nI (n - 1)) S TU).2) TU).2) TU).2), ((tUpdate TU ((g_c_2_readNumber c (0) (nI (n - 1)) S TU).1) ((g_c_2_readNumber c ((g_c_2_readNumber c (0) (nI (n - 1)) S TU).1) (nI (n - 1)) ((g_c_2_readNumber c (0) (nI (n - 1)) S TU).2) TU).1) (1) (0)).1))) else (((g_c_2_ends c (true) ((g_c_2_readNumber c ((g_c_2_readNumber c (0) (nI (n - 1)) S TU).1) (nI (n - 1)) ((g_c_2_readNumber c (0) (nI (n - 1)) S TU).2) TU).2) TU).2), TU)) else (if ((g_c_2_ends c (false) ((g_c_2_readNumber c ((g_c_2_readNumber c (0) (nI (n - 1)) S TU).1) (nI (n - 1)) ((g_c_2_readNumber c (0) (nI (n - 1)) S TU).2) TU).2) TU).1) = true then (if x = 9 then (((g_c_2_ends c (false) ((g_c_2_readNumber c ((g_c_2_readNumber c (0) (nI (n - 1)) S TU).1) (nI (n - 1)) ((g_c_2_readNumber c (0) (nI (n - 1)) S TU).2) TU).2) TU).2), ((tUpdate TU ((g_c_2_readNumber c (0) (nI (n - 1)) S TU).1) ((g_c_2_readNumber c ((g_c_2_readNumber c (0) (nI (n - 1)) S TU).1) (nI (n - 1)) ((g_c_2_readNumber c (0) (nI (n - 1)) S TU).2) TU).1) (0) (0)).1)) else (((g_c_2_ends c (false) ((g_c_2_readNumber c ((g_c_2_readNumber c (0) (nI (n - 1)) S TU).1) (nI (n - 1)) ((g_c_2_readNumber c (0) (nI (n - 1)) S TU).2) TU).2) TU).2), ((tUpdate TU ((g_c_2_readNumber c (0) (nI (n - 1)) S TU).1) ((g_c_2_readNumber c ((g_c_2_readNumber c (0) (nI (n - 1)) S TU).1) (nI (n - 1)) ((g_c_2_readNumber c (0) (nI (n - 1)) S TU).2) TU).1) (1) (0)).1))) else (((g_c_2_ends c (false) ((g_c_2_readNumber c ((g_c_2_readNumber c (0) (nI (n - 1)) S TU).1) (nI (n - 1)) ((g_c_2_readNumber c (0) (nI (n - 1)) S TU).2) TU).2) TU).2), TU))) else (if ((g_c_2_ends c (true) ((g_c_2_readNumber c ((g_c_2_readNumber c (0) (nI (n - 1)) S TU).1) (nI (n - 1)) ((g_c_2_readNumber c (0) (nI (n - 1)) S TU).2) TU).2) TU).1) = true then (if x = 9 then (((g_c_2_ends c (true) ((g_c_2_readNumber c ((g_c_2_readNumber c (0) (nI (n - 1)) S TU).1) (nI (n - 1)) ((g_c_2_readNumber c (0) (nI (n - 1)) S TU).2) TU).2) TU).2), ((tUpdate TU ((g_c_2_readNumber c (0) (nI (n - 1)) S TU).1) ((g_c_2_readNumber c ((g_c_2_readNumber c (0) (nI (n - 1)) S TU).1) (nI (n - 1)) ((g_c_2_readNumber c (0) (nI (n - 1)) S TU).2) TU).1) (0) (0)).1)) else (((g_c_2_ends c (true) ((g_c_2_readNumber c ((g_c_2_readNumber c (0) (nI (n - 1)) S TU).1) (nI (n - 1)) ((g_c_2_readNumber c (0) (nI (n - 1)) S TU).2) TU).2) TU).2), ((tUpdate TU ((g_c_2_readNumber c (0) (nI (n - 1)) S TU).1) ((g_c_2_readNumber c ((g_c_2_readNumber c (0) (nI (n - 1)) S TU).1) (nI (n - 1)) ((g_c_2_readNumber c (0) (nI (n - 1)) S TU).2) TU).1) ((-1)) (0)).1))) else (((g_c_2_ends c (true) ((g_c_2_readNumber c ((g_c_2_readNumber c (0) (nI (n - 1)) S TU).1) (nI (n - 1)) ((g_c_2_readNumber c (0) (nI (n - 1)) S TU).2) TU).2) TU).2), TU))) else (((g_c_2_readNumber c ((g_c_2_readNumber c (0) (nI (n - 1)) S TU).1) (nI (n - 1)) ((g_c_2_readNumber c (0) (nI (n - 1)) S TU).2) TU).2), TU)) else (if ((g_c_2_readValue c (true) ((g_c_2_readNumber c ((g_c_2_readNumber c (0) (nI (n - 1)) S TU).1) (nI (n - 1)) ((g_c_2_readNumber c (0) (nI (n - 1)) S TU).2) TU).2) TU).2).1 7 = 0 then (if x = 10 then (if (decide (tCan TU ((g_c_2_readNumber c (0) (nI (n - 1)) S TU).1.toNatClampNeg) ((g_c_2_readNumber c ((g_c_2_readNumber c (0) (nI (n - 1)) S TU).1) (nI (n - 1)) ((g_c_2_readNumber c (0) (nI (n - 1)) S TU).2) TU).1.toNatClampNeg) ((g_c_2_readValue c (true) ((g_c_2_readNumber c ((g_c_2_readNumber c (0) (nI (n - 1)) S TU).1) (nI (n - 1)) ((g_c_2_readNumber c (0) (nI (n - 1)) S TU).2) TU).2) TU).1))) = true then (if ((g_c_2_ends c (true) ((g_c_2_readValue c (true) ((g_c_2_readNumber c ((g_c_2_readNumber c (0) (nI (n - 1)) S TU).1) (nI (n - 1)) ((g_c_2_readNumber c (0) (nI (n - 1)) S TU).2) TU).2) TU).2) TU).1) = true then (if x = 9 then (((g_c_2_ends c (true) ((g_c_2_readValue c (true) ((g_c_2_readNumber c ((g_c_2_readNumber c (0) (nI (n - 1)) S TU).1) (nI (n - 1)) ((g_c_2_readNumber c (0) (nI (n - 1)) S TU).2) TU).2) TU).2) TU).2), ((tUpdate TU ((g_c_2_readNumber c (0) (nI (n - 1)) S TU).1) ((g_c_2_readNumber c ((g_c_2_readNumber c (0) (nI (n - 1)) S TU).1) (nI (n - 1)) ((g_c_2_readNumber c (0) (nI (n - 1)) S TU).2) TU).1) (0) ((g_c_2_readValue c (true) ((g_c_2_readNumber c ((g_c_2_readNumber c (0) (nI (n - 1)) S TU).1) (nI (n - 1)) ((g_c_2_readNumber c (0) (nI (n - 1)) S TU).2) TU).2) TU).1)).1)) else (((g_c_2_ends c (true) ((g_c_2_readValue c (true) ((g_c_2_readNumber c ((g_c_2_readNumber c (0) (nI (n - 1)) S TU).1) (nI (n - 1)) ((g_c_2_readNumber c (0) (nI (n - 1)) S TU).2) TU).2) TU).2) TU).2), ((tUpdate TU ((g_c_2_readNumber c (0) (nI (n - 1)) S TU).1) ((g_c_2_readNumber c ((g_c_2_readNumber c (0) (nI (n - 1)) S TU).1) (nI (n - 1)) ((g_c_2_readNumber c (0) (nI (n - 1)) S TU).2) TU).1) (1) ((g_c_2_readValue c (true) ((g_c_2_readNumber c ((g_c_2_readNumber c (0) (nI (n - 1)) S TU).1) (nI (n - 1)) ((g_c_2_readNumber c (0) (nI (n - 1)) S TU).2) TU).2) TU).1)).1))) else (((g_c_2_ends c (true) ((g_c_2_readValue c (true) ((g_c_2_readNumber c ((g_c_2_readNumber c (0) (nI (n - 1)) S TU).1) (nI (n - 1)) ((g_c_2_readNumber c (0) (nI (n - 1)) S TU).2) TU).2) TU).2) TU).2), TU)) else (if ((g_c_2_ends c (false) ((g_c_2_readValue c (true) ((g_c_2_readNumber c ((g_c_2_readNumber c (0) (nI (n - 1)) S TU).1) (nI (n - 1)) ((g_c_2_readNumber c (0) (nI (n - 1)) S TU).2) TU).2) TU).2) TU).1) = true then (if x = 9 then (((g_c_2_ends c (false) ((g_c_2_readValue c (true) ((g_c_2_readNumber c ((g_c_2_readNumber c (0) (nI (n - 1)) S TU).1) (nI (n - 1)) ((g_c_2_readNumber c (0) (nI (n - 1)) S TU).2) TU).2) TU).2) TU).2), ((tUpdate TU ((g_c_2_readNumber c (0) (nI (n - 1)) S TU).1) ((g_c_2_readNumber c ((g_c_2_readNumber c (0) (nI (n - 1)) S TU).1) (nI (n - 1)) ((g_c_2_readNumber c (0) (nI (n - 1)) S TU).2) TU).1) (0) ((g_c_2_readValue c (true) ((g_c_2_readNumber c ((g_c_2_readNumber c (0) (nI (n - 1)) S TU).1) (nI (n - 1)) ((g_c_2_readNumber c (0) (nI (n - 1)) S TU).2) TU).2) TU).1)).1)) else (((g_c_2_ends c (false) ((g_c_2_readValue c (true) ((g_c_2_readNumber c ((g_c_2_readNumber c (0) (nI (n - 1)) S TU).1) (nI (n - 1)) ((g_c_2_readNumber c (0) (nI (n - 1)) S TU).2) TU).2) TU).2) TU).2), ((tUpdate TU ((g_c_2_readNumber c (0) (nI (n - 1)) S TU).1) ((g_c_2_readNumber c ((g_c_2_readNumber c (0) (nI (n - 1)) S TU).1) (nI (n - 1)) ((g_c_2_readNumber c (0) (nI (n - 1)) S TU).2) TU).1) (1) ((g_c_2_readValue c (true) ((g_c_2_readNumber c ((g_c_2_readNumber c (0) (nI (n - 1)) S TU).1) (nI (n - 1)) ((g_c_2_readNumber c (0) (nI (n - 1)) S TU).2) TU).2) TU).1)).1))) else (((g_c_2_ends c (false) ((g_c_2_readValue c (true) ((g_c_2_readNumber c ((g_c_2_readNumber c (0) (nI (n - 1)) S TU).1) (nI (n - 1)) ((g_c_2_readNumber c (0) (nI (n - 1)) S TU).2) TU).2) TU).2) TU).2), TU))) else (if ((g_c_2_ends c (true) ((g_c_2_readValue c (true) ((g_c_2_readNumber c ((g_c_2_readNumber c (0) (nI (n - 1)) S TU).1) (nI (n - 1)) ((g_c_2_readNumber c (0) (nI (n - 1)) S TU).2) TU).2) TU).2) TU).1) = true then (if x = 9 then (((g_c_2_ends c (true) ((g_c_2_readValue c (true) ((g_c_2_readNumber c ((g_c_2_readNumber c (0) (nI (n - 1)) S TU).1) (nI (n - 1)) ((g_c_2_readNumber c (0) (nI (n - 1)) S TU).2) TU).2) TU).2) TU).2), ((tUpdate TU ((g_c_2_readNumber c (0) (nI (n - 1)) S TU).1) ((g_c_2_readNumber c ((g_c_2_readNumber c (0) (nI (n - 1)) S TU).1) (nI (n - 1)) ((g_c_2_readNumber c (0) (nI (n - 1)) S TU).2) TU).1) (0) ((g_c_2_readValue c (true) ((g_c_2_readNumber c ((g_c_2_readNumber c (0) (nI (n - 1)) S TU).1) (nI (n - 1)) ((g_c_2_readNumber c (0) (nI (n - 1)) S TU).2) TU).2) TU).1)).1)) else (((g_c_2_ends c (true) ((g_c_2_readValue c (true) ((g_c_2_readNumber c ((g_c_2_readNumber c (0) (nI (n - 1)) S TU).1) (nI (n - 1)) ((g_c_2_readNumber c (0) (nI (n - 1)) S TU).2) TU).2) TU).2) TU).2), ((tUpdate TU ((g_c_2_readNumber c (0) (nI (n - 1)) S TU).1) ((g_c_2_readNumber c ((g_c_2_readNumber c (0) (nI (n - 1)) S TU).1) (nI (n - 1)) ((g_c_2_readNumber c (0) (nI (n - 1)) S TU).2) TU).1) ((-1)) (0)).1))) else (((g_c_2_ends c (true) ((g_c_2_readValue c (true) ((g_c_2_readNumber c ((g_c_2_readNumber c (0) (nI (n - 1)) S TU).1) (nI (n - 1)) ((g_c_2_readNumber c (0) (nI (n - 1)) S TU).2) TU).2) TU).2) TU).2), TU))) else (((g_c_2_readValue c (true) ((g_c_2_readNumber c ((g_c_2_readNumber c (0) (nI (n - 1)) S TU).1) (nI (n - 1)) ((g_c_2_readNumber c (0) (nI (n - 1)) S TU).2) TU).2) TU).2), TU)))
theorem k_c_2_readUpdate (c : Nat) (n : Nat) (x : Int32) (S : ZS) (TU : TS) (hS : scO c S) (hn : tn TU = nI n) (h1 : 1 ≤ n) (h40 : n ≤ 40) : zM sc yX2_readUpdate cX2_readUpdate 5 none 3 0 0 [.ref 0, .int (x)] (sho 0 S TU) (.inl none) (sho 0 (g_c_2_readUpdate c n x S TU).1 (g_c_2_readUpdate c n x S TU).2) := by
  refine zM.at (ls := [some (.ref 0), some (.int (x)), none, none, none]) zy_X2_readUpdate.2.2.2.2.2 (Nat.le_of_ble_eq_true rfl) rfl ?_
  refine z_aload_0 dX2_readUpdate_0 ?_
  refine z_iconst (v := 0) dX2_readUpdate_1 rfl ?_
  refine z_aload_0 dX2_readUpdate_2 ?_
  refine z_get (k := 0) (v := .ref 1) dX2_readUpdate_3 rfl rfl rfl (by decide) zf_X2_12 zw_in2 ?_
  refine Z.shs (sho 0 S TU) (zRun.V (ρ := zsh 1) (k_size TU) dX2_readUpdate_6 zy_X5_size zm_X2_128 rfl rfl rfl rfl (Nat.le_of_ble_eq_true rfl) (by decide) (by decide) (zsh_fix 1)) (zsh_inj (Nat.le_of_ble_eq_true rfl)) ⟨rfl, rfl, rfl, rfl, rfl, rfl, rfl, rfl, rfl, trivial⟩ (zlen2 9 rfl rfl) rfl rfl ?_
  refine z_topi (w := nI (n)) hn ?_
  refine z_iconst (v := 1) dX2_readUpdate_9 rfl ?_
  refine z_isub dX2_readUpdate_10 ?_
  refine z_topi (w := nI (n - 1)) (pk_sub (a := n) (b := 1) (by first | omega | assumption)) ?_
  refine Z.call0s (zRun.V (ρ := fun i => i) (k_c_2_readNumber c (0) (nI (n - 1)) S TU hS) dX2_readUpdate_11 zy_X2_readNumber zm_X2_107 rfl rfl rfl rfl (Nat.le_of_ble_eq_true rfl) (by decide) (by decide)) (zlen2 18 rfl rfl) ?_
  obtain ⟨Sn1, en1⟩ : ∃ z, z = ((g_c_2_readNumber c (0) (nI (n - 1)) S TU).2) := ⟨_, rfl⟩
  rw [← en1]
  have hS1 : scO c Sn1 := by rw [en1]; exact num_sc hS
  have a1 : Sn1.1 7 = 0 → 0 ≤ (g_c_2_readNumber c (0) (nI (n - 1)) S TU).1 ∧ (g_c_2_readNumber c (0) (nI (n - 1)) S TU).1 ≤ nI (n - 1) := by rw [en1]; exact fun h => by have := num_ok h; rw [this.2.2.1]; exact ⟨this.2.2.2.1, this.2.2.2.2.1⟩
  refine z_istore_2 dX2_readUpdate_14 rfl (by decide) ?_
  refine z_aload_0 dX2_readUpdate_15 ?_
  refine z_iload_2 dX2_readUpdate_16 ?_
  refine z_aload_0 dX2_readUpdate_17 ?_
  refine z_get (k := 0) (v := .ref 1) dX2_readUpdate_18 rfl rfl rfl (by decide) zf_X2_12 zw_in2 ?_
  refine Z.shs (sho 0 Sn1 TU) (zRun.V (ρ := zsh 1) (k_size TU) dX2_readUpdate_21 zy_X5_size zm_X2_128 rfl rfl rfl rfl (Nat.le_of_ble_eq_true rfl) (by decide) (by decide) (zsh_fix 1)) (zsh_inj (Nat.le_of_ble_eq_true rfl)) ⟨rfl, rfl, rfl, rfl, rfl, rfl, rfl, rfl, rfl, trivial⟩ (zlen2 9 rfl rfl) rfl rfl ?_
  refine z_topi (w := nI (n)) hn ?_
  refine z_iconst (v := 1) dX2_readUpdate_24 rfl ?_
  refine z_isub dX2_readUpdate_25 ?_
  refine z_topi (w := nI (n - 1)) (pk_sub (a := n) (b := 1) (by first | omega | assumption)) ?_
  refine Z.call0s (zRun.V (ρ := fun i => i) (k_c_2_readNumber c ((g_c_2_readNumber c (0) (nI (n - 1)) S TU).1) (nI (n - 1)) Sn1 TU hS1) dX2_readUpdate_26 zy_X2_readNumber zm_X2_107 rfl rfl rfl rfl (Nat.le_of_ble_eq_true rfl) (by decide) (by decide)) (zlen2 18 rfl rfl) ?_
  obtain ⟨Sn2, en2⟩ : ∃ z, z = ((g_c_2_readNumber c ((g_c_2_readNumber c (0) (nI (n - 1)) S TU).1) (nI (n - 1)) Sn1 TU).2) := ⟨_, rfl⟩
  rw [← en2]
  have hS2 : scO c Sn2 := by rw [en2]; exact num_sc hS1
  have a2 : Sn2.1 7 = 0 → Sn1.1 7 = 0 ∧ (g_c_2_readNumber c (0) (nI (n - 1)) S TU).1 ≤ (g_c_2_readNumber c ((g_c_2_readNumber c (0) (nI (n - 1)) S TU).1) (nI (n - 1)) Sn1 TU).1 ∧ (g_c_2_readNumber c ((g_c_2_readNumber c (0) (nI (n - 1)) S TU).1) (nI (n - 1)) Sn1 TU).1 ≤ nI (n - 1) := by rw [en2]; exact fun h => by have := num_ok h; rw [this.2.2.1]; exact ⟨this.1, this.2.2.2.1, this.2.2.2.2.1⟩
  refine z_istore_3 dX2_readUpdate_29 rfl (by decide) ?_
  refine z_iload_1 dX2_readUpdate_30 ?_
  refine z_bipush (v := 11) dX2_readUpdate_31 rfl ?_
  refine z_icmp_ne (tgt := 40) dX2_readUpdate_33 (by decide) (fun c33 => ?_) (fun c33 => ?_)
  · refine z_aload_0 dX2_readUpdate_40 ?_
    refine z_iconst (v := 1) dX2_readUpdate_41 rfl ?_
    refine Z.call0s (zRun.V (ρ := fun i => i) (k_c_2_readValue c (true) Sn2 TU hS2) dX2_readUpdate_42 zy_X2_readValue zm_X2_93 rfl rfl rfl rfl (Nat.le_of_ble_eq_true rfl) (by decide) (by decide)) (zlen2 18 rfl rfl) ?_
    obtain ⟨Sn3, en3⟩ : ∃ z, z = ((g_c_2_readValue c (true) Sn2 TU).2) := ⟨_, rfl⟩
    rw [← en3]
    have hS3 : scO c Sn3 := by rw [en3]; exact val_sc hS2
    have a3 : Sn3.1 7 = 0 → Sn2.1 7 = 0 := by rw [en3]; exact val_mono
    refine z_istore_4 dX2_readUpdate_45 rfl (by decide) ?_
    refine z_aload_0 dX2_readUpdate_47 ?_
    refine z_get (k := 5) (v := .int (Sn3.1 7)) dX2_readUpdate_48 rfl rfl rfl (by decide) zf_X2_36 zw_in2 ?_
    refine z_if_ne (tgt := 86) dX2_readUpdate_51 (by decide) (fun c51 => ?_) (fun c51 => ?_)
    · subst en3
      subst en2
      subst en1
      rw [g_c_2_readUpdate, if_neg c33, if_neg c51]
      try dsimp only
      exact z_vret dX2_readUpdate_86 rfl rfl rfl
    · refine z_aload_0 dX2_readUpdate_54 ?_
      refine z_iload_1 dX2_readUpdate_55 ?_
      refine z_bipush (v := 10) dX2_readUpdate_56 rfl ?_
      refine z_icmp_ne (tgt := 75) dX2_readUpdate_58 (by decide) (fun c58 => ?_) (fun c58 => ?_)
      · refine z_iconst (v := 1) dX2_readUpdate_75 rfl ?_
        refine z_goto (tgt := 80) dX2_readUpdate_76 (by decide) ?_
        refine Z.call0s (zRun.V (ρ := fun i => i) (k_c_2_ends c (true) Sn3 TU (by first | exact hS3 | exact hS2)) dX2_readUpdate_80 zy_X2_ends zm_X2_117 rfl rfl rfl rfl (Nat.le_of_ble_eq_true rfl) (by decide) (by decide)) (zlen2 18 rfl rfl) ?_
        obtain ⟨Sn4, en4⟩ : ∃ z, z = ((g_c_2_ends c (true) Sn3 TU).2) := ⟨_, rfl⟩
        rw [← en4]
        refine z_ifB_ne (tgt := 87) dX2_readUpdate_83 (by decide) (fun c83 => ?_) (fun c83 => ?_)
        · refine z_iload_1 dX2_readUpdate_87 ?_
          refine z_bipush (v := 9) dX2_readUpdate_88 rfl ?_
          refine z_icmp_ne (tgt := 109) dX2_readUpdate_90 (by decide) (fun c90 => ?_) (fun c90 => ?_)
          · refine z_iload_1 dX2_readUpdate_109 ?_
            refine z_bipush (v := 10) dX2_readUpdate_110 rfl ?_
            refine z_icmp_ne_t (tgt := 131) dX2_readUpdate_112 (by decide) c58 ?_
            refine z_aload_0 dX2_readUpdate_131 ?_
            refine z_get (k := 0) (v := .ref 1) dX2_readUpdate_132 rfl rfl rfl (by decide) zf_X2_12 zw_in2 ?_
            refine z_iload_2 dX2_readUpdate_135 ?_
            refine z_iload_3 dX2_readUpdate_136 ?_
            refine z_iconst (v := (-1)) dX2_readUpdate_137 rfl ?_
            refine z_iconst (v := 0) dX2_readUpdate_138 rfl ?_
            refine Z.shs (sho 0 Sn4 ((tUpdate TU ((g_c_2_readNumber c (0) (nI (n - 1)) S TU).1) ((g_c_2_readNumber c ((g_c_2_readNumber c (0) (nI (n - 1)) S TU).1) (nI (n - 1)) Sn1 TU).1) ((-1)) (0)).1)) (zRun.V (ρ := zsh 1) (k_update TU ((g_c_2_readNumber c (0) (nI (n - 1)) S TU).1) ((g_c_2_readNumber c ((g_c_2_readNumber c (0) (nI (n - 1)) S TU).1) (nI (n - 1)) Sn1 TU).1) ((-1)) (0)) dX2_readUpdate_139 zy_X5_update zm_X2_138 rfl rfl rfl rfl (Nat.le_of_ble_eq_true rfl) (by decide) (by decide) (zsh_fix 1)) (zsh_inj (Nat.le_of_ble_eq_true rfl)) ⟨rfl, rfl, rfl, rfl, rfl, rfl, rfl, rfl, rfl, trivial⟩ (zlen2 9 rfl rfl) rfl rfl ?_
            refine z_pop dX2_readUpdate_142 rfl ?_
            subst en4
            subst en3
            subst en2
            subst en1
            rw [g_c_2_readUpdate, if_neg c33, if_pos c51, if_neg c58, if_pos c83, if_neg c90]
            try dsimp only
            exact z_vret dX2_readUpdate_143 rfl rfl rfl
          · refine z_aload_0 dX2_readUpdate_93 ?_
            refine z_get (k := 0) (v := .ref 1) dX2_readUpdate_94 rfl rfl rfl (by decide) zf_X2_12 zw_in2 ?_
            refine z_iload_2 dX2_readUpdate_97 ?_
            refine z_iload_3 dX2_readUpdate_98 ?_
            refine z_iconst (v := 0) dX2_readUpdate_99 rfl ?_
            refine z_iload_4 dX2_readUpdate_100 ?_
            refine Z.shs (sho 0 Sn4 ((tUpdate TU ((g_c_2_readNumber c (0) (nI (n - 1)) S TU).1) ((g_c_2_readNumber c ((g_c_2_readNumber c (0) (nI (n - 1)) S TU).1) (nI (n - 1)) Sn1 TU).1) (0) ((g_c_2_readValue c (true) Sn2 TU).1)).1)) (zRun.V (ρ := zsh 1) (k_update TU ((g_c_2_readNumber c (0) (nI (n - 1)) S TU).1) ((g_c_2_readNumber c ((g_c_2_readNumber c (0) (nI (n - 1)) S TU).1) (nI (n - 1)) Sn1 TU).1) (0) ((g_c_2_readValue c (true) Sn2 TU).1)) dX2_readUpdate_102 zy_X5_update zm_X2_138 rfl rfl rfl rfl (Nat.le_of_ble_eq_true rfl) (by decide) (by decide) (zsh_fix 1)) (zsh_inj (Nat.le_of_ble_eq_true rfl)) ⟨rfl, rfl, rfl, rfl, rfl, rfl, rfl, rfl, rfl, trivial⟩ (zlen2 9 rfl rfl) rfl rfl ?_
            refine z_pop dX2_readUpdate_105 rfl ?_
            refine z_goto (tgt := 143) dX2_readUpdate_106 (by decide) ?_
            subst en4
            subst en3
            subst en2
            subst en1
            rw [g_c_2_readUpdate, if_neg c33, if_pos c51, if_neg c58, if_pos c83, if_pos c90]
            try dsimp only
            exact z_vret dX2_readUpdate_143 rfl rfl rfl
        · subst en4
          subst en3
          subst en2
          subst en1
          rw [g_c_2_readUpdate, if_neg c33, if_pos c51, if_neg c58, if_neg c83]
          try dsimp only
          exact z_vret dX2_readUpdate_86 rfl rfl rfl
      · have b2 := a2 (by first | exact a3 c51 | exact c51)
        have b1 := a1 b2.1
        have u1 := upd_nat h1 h40 b1.1 b1.2
        have u2 := upd_nat h1 h40 (Int32.le_trans b1.1 b2.2.1) b2.2.2
        have hle := upd_le u1.1 u2.1 (by omega) (by omega) b2.2.1
        refine z_aload_0 dX2_readUpdate_61 ?_
        refine z_get (k := 0) (v := .ref 1) dX2_readUpdate_62 rfl rfl rfl (by decide) zf_X2_12 zw_in2 ?_
        refine z_iload_2 dX2_readUpdate_65 ?_
        refine z_topi (w := nI ((g_c_2_readNumber c (0) (nI (n - 1)) S TU).1.toNatClampNeg)) u1.1 ?_
        refine z_iload_3 dX2_readUpdate_66 ?_
        refine z_topi (w := nI ((g_c_2_readNumber c ((g_c_2_readNumber c (0) (nI (n - 1)) S TU).1) (nI (n - 1)) Sn1 TU).1.toNatClampNeg)) u2.1 ?_
        refine z_iload_4 dX2_readUpdate_67 ?_
        refine Z.shs (sho 0 Sn3 TU) (zRun.V (ρ := zsh 1) (k_canRaise TU ((g_c_2_readNumber c (0) (nI (n - 1)) S TU).1.toNatClampNeg) ((g_c_2_readNumber c ((g_c_2_readNumber c (0) (nI (n - 1)) S TU).1) (nI (n - 1)) Sn1 TU).1.toNatClampNeg) ((g_c_2_readValue c (true) Sn2 TU).1) hle (by omega)) dX2_readUpdate_69 zy_X5_canRaise zm_X2_134 rfl rfl rfl rfl (Nat.le_of_ble_eq_true rfl) (by decide) (by decide) (zsh_fix 1)) (zsh_inj (Nat.le_of_ble_eq_true rfl)) ⟨rfl, rfl, rfl, rfl, rfl, rfl, rfl, rfl, rfl, trivial⟩ (zlen2 9 rfl rfl) rfl rfl ?_
        refine z_ifB_eq (tgt := 79) dX2_readUpdate_72 (by decide) (fun c72 => ?_) (fun c72 => ?_)
        · refine z_iconst (v := 0) dX2_readUpdate_79 rfl ?_
          refine Z.call0s (zRun.V (ρ := fun i => i) (k_c_2_ends c (false) Sn3 TU (by first | exact hS3 | exact hS2)) dX2_readUpdate_80 zy_X2_ends zm_X2_117 rfl rfl rfl rfl (Nat.le_of_ble_eq_true rfl) (by decide) (by decide)) (zlen2 18 rfl rfl) ?_
          obtain ⟨Sn5, en5⟩ : ∃ z, z = ((g_c_2_ends c (false) Sn3 TU).2) := ⟨_, rfl⟩
          rw [← en5]
          refine z_ifB_ne (tgt := 87) dX2_readUpdate_83 (by decide) (fun c83 => ?_) (fun c83 => ?_)
          · refine z_iload_1 dX2_readUpdate_87 ?_
            refine z_bipush (v := 9) dX2_readUpdate_88 rfl ?_
            refine z_icmp_ne (tgt := 109) dX2_readUpdate_90 (by decide) (fun c90 => ?_) (fun c90 => ?_)
            · refine z_iload_1 dX2_readUpdate_109 ?_
              refine z_bipush (v := 10) dX2_readUpdate_110 rfl ?_
              refine z_icmp_ne_f (tgt := 131) dX2_readUpdate_112 (by decide) c58 ?_
              refine z_aload_0 dX2_readUpdate_115 ?_
              refine z_get (k := 0) (v := .ref 1) dX2_readUpdate_116 rfl rfl rfl (by decide) zf_X2_12 zw_in2 ?_
              refine z_iload_2 dX2_readUpdate_119 ?_
              refine z_iload_3 dX2_readUpdate_120 ?_
              refine z_iconst (v := 1) dX2_readUpdate_121 rfl ?_
              refine z_iload_4 dX2_readUpdate_122 ?_
              refine Z.shs (sho 0 Sn5 ((tUpdate TU ((g_c_2_readNumber c (0) (nI (n - 1)) S TU).1) ((g_c_2_readNumber c ((g_c_2_readNumber c (0) (nI (n - 1)) S TU).1) (nI (n - 1)) Sn1 TU).1) (1) ((g_c_2_readValue c (true) Sn2 TU).1)).1)) (zRun.V (ρ := zsh 1) (k_update TU ((g_c_2_readNumber c (0) (nI (n - 1)) S TU).1) ((g_c_2_readNumber c ((g_c_2_readNumber c (0) (nI (n - 1)) S TU).1) (nI (n - 1)) Sn1 TU).1) (1) ((g_c_2_readValue c (true) Sn2 TU).1)) dX2_readUpdate_124 zy_X5_update zm_X2_138 rfl rfl rfl rfl (Nat.le_of_ble_eq_true rfl) (by decide) (by decide) (zsh_fix 1)) (zsh_inj (Nat.le_of_ble_eq_true rfl)) ⟨rfl, rfl, rfl, rfl, rfl, rfl, rfl, rfl, rfl, trivial⟩ (zlen2 9 rfl rfl) rfl rfl ?_
              refine z_pop dX2_readUpdate_127 rfl ?_
              refine z_goto (tgt := 143) dX2_readUpdate_128 (by decide) ?_
              subst en5
              subst en3
              subst en2
              subst en1
              rw [g_c_2_readUpdate, if_neg c33, if_pos c51, if_pos c58, if_neg c72, if_pos c83, if_neg c90]
              try dsimp only
              exact z_vret dX2_readUpdate_143 rfl rfl rfl
            · refine z_aload_0 dX2_readUpdate_93 ?_
              refine z_get (k := 0) (v := .ref 1) dX2_readUpdate_94 rfl rfl rfl (by decide) zf_X2_12 zw_in2 ?_
              refine z_iload_2 dX2_readUpdate_97 ?_
              refine z_iload_3 dX2_readUpdate_98 ?_
              refine z_iconst (v := 0) dX2_readUpdate_99 rfl ?_
              refine z_iload_4 dX2_readUpdate_100 ?_
              refine Z.shs (sho 0 Sn5 ((tUpdate TU ((g_c_2_readNumber c (0) (nI (n - 1)) S TU).1) ((g_c_2_readNumber c ((g_c_2_readNumber c (0) (nI (n - 1)) S TU).1) (nI (n - 1)) Sn1 TU).1) (0) ((g_c_2_readValue c (true) Sn2 TU).1)).1)) (zRun.V (ρ := zsh 1) (k_update TU ((g_c_2_readNumber c (0) (nI (n - 1)) S TU).1) ((g_c_2_readNumber c ((g_c_2_readNumber c (0) (nI (n - 1)) S TU).1) (nI (n - 1)) Sn1 TU).1) (0) ((g_c_2_readValue c (true) Sn2 TU).1)) dX2_readUpdate_102 zy_X5_update zm_X2_138 rfl rfl rfl rfl (Nat.le_of_ble_eq_true rfl) (by decide) (by decide) (zsh_fix 1)) (zsh_inj (Nat.le_of_ble_eq_true rfl)) ⟨rfl, rfl, rfl, rfl, rfl, rfl, rfl, rfl, rfl, trivial⟩ (zlen2 9 rfl rfl) rfl rfl ?_
              refine z_pop dX2_readUpdate_105 rfl ?_
              refine z_goto (tgt := 143) dX2_readUpdate_106 (by decide) ?_
              subst en5
              subst en3
              subst en2
              subst en1
              rw [g_c_2_readUpdate, if_neg c33, if_pos c51, if_pos c58, if_neg c72, if_pos c83, if_pos c90]
              try dsimp only
              exact z_vret dX2_readUpdate_143 rfl rfl rfl
          · subst en5
            subst en3
            subst en2
            subst en1
            rw [g_c_2_readUpdate, if_neg c33, if_pos c51, if_pos c58, if_neg c72, if_neg c83]
            try dsimp only
            exact z_vret dX2_readUpdate_86 rfl rfl rfl
        · refine z_iconst (v := 1) dX2_readUpdate_75 rfl ?_
          refine z_goto (tgt := 80) dX2_readUpdate_76 (by decide) ?_
          refine Z.call0s (zRun.V (ρ := fun i => i) (k_c_2_ends c (true) Sn3 TU (by first | exact hS3 | exact hS2)) dX2_readUpdate_80 zy_X2_ends zm_X2_117 rfl rfl rfl rfl (Nat.le_of_ble_eq_true rfl) (by decide) (by decide)) (zlen2 18 rfl rfl) ?_
          obtain ⟨Sn6, en6⟩ : ∃ z, z = ((g_c_2_ends c (true) Sn3 TU).2) := ⟨_, rfl⟩
          rw [← en6]
          refine z_ifB_ne (tgt := 87) dX2_readUpdate_83 (by decide) (fun c83 => ?_) (fun c83 => ?_)
          · refine z_iload_1 dX2_readUpdate_87 ?_
            refine z_bipush (v := 9) dX2_readUpdate_88 rfl ?_
            refine z_icmp_ne (tgt := 109) dX2_readUpdate_90 (by decide) (fun c90 => ?_) (fun c90 => ?_)
            · refine z_iload_1 dX2_readUpdate_109 ?_
              refine z_bipush (v := 10) dX2_readUpdate_110 rfl ?_
              refine z_icmp_ne_f (tgt := 131) dX2_readUpdate_112 (by decide) c58 ?_
              refine z_aload_0 dX2_readUpdate_115 ?_
              refine z_get (k := 0) (v := .ref 1) dX2_readUpdate_116 rfl rfl rfl (by decide) zf_X2_12 zw_in2 ?_
              refine z_iload_2 dX2_readUpdate_119 ?_
              refine z_iload_3 dX2_readUpdate_120 ?_
              refine z_iconst (v := 1) dX2_readUpdate_121 rfl ?_
              refine z_iload_4 dX2_readUpdate_122 ?_
              refine Z.shs (sho 0 Sn6 ((tUpdate TU ((g_c_2_readNumber c (0) (nI (n - 1)) S TU).1) ((g_c_2_readNumber c ((g_c_2_readNumber c (0) (nI (n - 1)) S TU).1) (nI (n - 1)) Sn1 TU).1) (1) ((g_c_2_readValue c (true) Sn2 TU).1)).1)) (zRun.V (ρ := zsh 1) (k_update TU ((g_c_2_readNumber c (0) (nI (n - 1)) S TU).1) ((g_c_2_readNumber c ((g_c_2_readNumber c (0) (nI (n - 1)) S TU).1) (nI (n - 1)) Sn1 TU).1) (1) ((g_c_2_readValue c (true) Sn2 TU).1)) dX2_readUpdate_124 zy_X5_update zm_X2_138 rfl rfl rfl rfl (Nat.le_of_ble_eq_true rfl) (by decide) (by decide) (zsh_fix 1)) (zsh_inj (Nat.le_of_ble_eq_true rfl)) ⟨rfl, rfl, rfl, rfl, rfl, rfl, rfl, rfl, rfl, trivial⟩ (zlen2 9 rfl rfl) rfl rfl ?_
              refine z_pop dX2_readUpdate_127 rfl ?_
              refine z_goto (tgt := 143) dX2_readUpdate_128 (by decide) ?_
              subst en6
              subst en3
              subst en2
              subst en1
              rw [g_c_2_readUpdate, if_neg c33, if_pos c51, if_pos c58, if_pos c72, if_pos c83, if_neg c90]
              try dsimp only
              exact z_vret dX2_readUpdate_143 rfl rfl rfl
            · refine z_aload_0 dX2_readUpdate_93 ?_
              refine z_get (k := 0) (v := .ref 1) dX2_readUpdate_94 rfl rfl rfl (by decide) zf_X2_12 zw_in2 ?_
              refine z_iload_2 dX2_readUpdate_97 ?_
              refine z_iload_3 dX2_readUpdate_98 ?_
              refine z_iconst (v := 0) dX2_readUpdate_99 rfl ?_
              refine z_iload_4 dX2_readUpdate_100 ?_
              refine Z.shs (sho 0 Sn6 ((tUpdate TU ((g_c_2_readNumber c (0) (nI (n - 1)) S TU).1) ((g_c_2_readNumber c ((g_c_2_readNumber c (0) (nI (n - 1)) S TU).1) (nI (n - 1)) Sn1 TU).1) (0) ((g_c_2_readValue c (true) Sn2 TU).1)).1)) (zRun.V (ρ := zsh 1) (k_update TU ((g_c_2_readNumber c (0) (nI (n - 1)) S TU).1) ((g_c_2_readNumber c ((g_c_2_readNumber c (0) (nI (n - 1)) S TU).1) (nI (n - 1)) Sn1 TU).1) (0) ((g_c_2_readValue c (true) Sn2 TU).1)) dX2_readUpdate_102 zy_X5_update zm_X2_138 rfl rfl rfl rfl (Nat.le_of_ble_eq_true rfl) (by decide) (by decide) (zsh_fix 1)) (zsh_inj (Nat.le_of_ble_eq_true rfl)) ⟨rfl, rfl, rfl, rfl, rfl, rfl, rfl, rfl, rfl, trivial⟩ (zlen2 9 rfl rfl) rfl rfl ?_
              refine z_pop dX2_readUpdate_105 rfl ?_
              refine z_goto (tgt := 143) dX2_readUpdate_106 (by decide) ?_
              subst en6
              subst en3
              subst en2
              subst en1
              rw [g_c_2_readUpdate, if_neg c33, if_pos c51, if_pos c58, if_pos c72, if_pos c83, if_pos c90]
              try dsimp only
              exact z_vret dX2_readUpdate_143 rfl rfl rfl
          · subst en6
            subst en3
            subst en2
            subst en1
            rw [g_c_2_readUpdate, if_neg c33, if_pos c51, if_pos c58, if_pos c72, if_neg c83]
            try dsimp only
            exact z_vret dX2_readUpdate_86 rfl rfl rfl
  · refine z_iconst (v := 0) dX2_readUpdate_36 rfl ?_
    refine z_goto (tgt := 45) dX2_readUpdate_37 (by decide) ?_
    refine z_istore_4 dX2_readUpdate_45 rfl (by decide) ?_
    refine z_aload_0 dX2_readUpdate_47 ?_
    refine z_get (k := 5) (v := .int (Sn2.1 7)) dX2_readUpdate_48 rfl rfl rfl (by decide) zf_X2_36 zw_in2 ?_
    refine z_if_ne (tgt := 86) dX2_readUpdate_51 (by decide) (fun c51 => ?_) (fun c51 => ?_)
    · subst en2
      subst en1
      rw [g_c_2_readUpdate, if_pos c33, if_neg c51]
      try dsimp only
      exact z_vret dX2_readUpdate_86 rfl rfl rfl
    · refine z_aload_0 dX2_readUpdate_54 ?_
      refine z_iload_1 dX2_readUpdate_55 ?_
      refine z_bipush (v := 10) dX2_readUpdate_56 rfl ?_
      refine z_icmp_ne (tgt := 75) dX2_readUpdate_58 (by decide) (fun c58 => ?_) (fun c58 => ?_)
      · refine z_iconst (v := 1) dX2_readUpdate_75 rfl ?_
        refine z_goto (tgt := 80) dX2_readUpdate_76 (by decide) ?_
        refine Z.call0s (zRun.V (ρ := fun i => i) (k_c_2_ends c (true) Sn2 TU (by first | exact hS3 | exact hS2)) dX2_readUpdate_80 zy_X2_ends zm_X2_117 rfl rfl rfl rfl (Nat.le_of_ble_eq_true rfl) (by decide) (by decide)) (zlen2 18 rfl rfl) ?_
        obtain ⟨Sn7, en7⟩ : ∃ z, z = ((g_c_2_ends c (true) Sn2 TU).2) := ⟨_, rfl⟩
        rw [← en7]
        refine z_ifB_ne (tgt := 87) dX2_readUpdate_83 (by decide) (fun c83 => ?_) (fun c83 => ?_)
        · refine z_iload_1 dX2_readUpdate_87 ?_
          refine z_bipush (v := 9) dX2_readUpdate_88 rfl ?_
          refine z_icmp_ne (tgt := 109) dX2_readUpdate_90 (by decide) (fun c90 => ?_) (fun c90 => ?_)
          · refine z_iload_1 dX2_readUpdate_109 ?_
            refine z_bipush (v := 10) dX2_readUpdate_110 rfl ?_
            refine z_icmp_ne_t (tgt := 131) dX2_readUpdate_112 (by decide) c58 ?_
            refine z_aload_0 dX2_readUpdate_131 ?_
            refine z_get (k := 0) (v := .ref 1) dX2_readUpdate_132 rfl rfl rfl (by decide) zf_X2_12 zw_in2 ?_
            refine z_iload_2 dX2_readUpdate_135 ?_
            refine z_iload_3 dX2_readUpdate_136 ?_
            refine z_iconst (v := (-1)) dX2_readUpdate_137 rfl ?_
            refine z_iconst (v := 0) dX2_readUpdate_138 rfl ?_
            refine Z.shs (sho 0 Sn7 ((tUpdate TU ((g_c_2_readNumber c (0) (nI (n - 1)) S TU).1) ((g_c_2_readNumber c ((g_c_2_readNumber c (0) (nI (n - 1)) S TU).1) (nI (n - 1)) Sn1 TU).1) ((-1)) (0)).1)) (zRun.V (ρ := zsh 1) (k_update TU ((g_c_2_readNumber c (0) (nI (n - 1)) S TU).1) ((g_c_2_readNumber c ((g_c_2_readNumber c (0) (nI (n - 1)) S TU).1) (nI (n - 1)) Sn1 TU).1) ((-1)) (0)) dX2_readUpdate_139 zy_X5_update zm_X2_138 rfl rfl rfl rfl (Nat.le_of_ble_eq_true rfl) (by decide) (by decide) (zsh_fix 1)) (zsh_inj (Nat.le_of_ble_eq_true rfl)) ⟨rfl, rfl, rfl, rfl, rfl, rfl, rfl, rfl, rfl, trivial⟩ (zlen2 9 rfl rfl) rfl rfl ?_
            refine z_pop dX2_readUpdate_142 rfl ?_
            subst en7
            subst en2
            subst en1
            rw [g_c_2_readUpdate, if_pos c33, if_pos c51, if_neg c58, if_pos c83, if_neg c90]
            try dsimp only
            exact z_vret dX2_readUpdate_143 rfl rfl rfl
          · refine z_aload_0 dX2_readUpdate_93 ?_
            refine z_get (k := 0) (v := .ref 1) dX2_readUpdate_94 rfl rfl rfl (by decide) zf_X2_12 zw_in2 ?_
            refine z_iload_2 dX2_readUpdate_97 ?_
            refine z_iload_3 dX2_readUpdate_98 ?_
            refine z_iconst (v := 0) dX2_readUpdate_99 rfl ?_
            refine z_iload_4 dX2_readUpdate_100 ?_
            refine Z.shs (sho 0 Sn7 ((tUpdate TU ((g_c_2_readNumber c (0) (nI (n - 1)) S TU).1) ((g_c_2_readNumber c ((g_c_2_readNumber c (0) (nI (n - 1)) S TU).1) (nI (n - 1)) Sn1 TU).1) (0) (0)).1)) (zRun.V (ρ := zsh 1) (k_update TU ((g_c_2_readNumber c (0) (nI (n - 1)) S TU).1) ((g_c_2_readNumber c ((g_c_2_readNumber c (0) (nI (n - 1)) S TU).1) (nI (n - 1)) Sn1 TU).1) (0) (0)) dX2_readUpdate_102 zy_X5_update zm_X2_138 rfl rfl rfl rfl (Nat.le_of_ble_eq_true rfl) (by decide) (by decide) (zsh_fix 1)) (zsh_inj (Nat.le_of_ble_eq_true rfl)) ⟨rfl, rfl, rfl, rfl, rfl, rfl, rfl, rfl, rfl, trivial⟩ (zlen2 9 rfl rfl) rfl rfl ?_
            refine z_pop dX2_readUpdate_105 rfl ?_
            refine z_goto (tgt := 143) dX2_readUpdate_106 (by decide) ?_
            subst en7
            subst en2
            subst en1
            rw [g_c_2_readUpdate, if_pos c33, if_pos c51, if_neg c58, if_pos c83, if_pos c90]
            try dsimp only
            exact z_vret dX2_readUpdate_143 rfl rfl rfl
        · subst en7
          subst en2
          subst en1
          rw [g_c_2_readUpdate, if_pos c33, if_pos c51, if_neg c58, if_neg c83]
          try dsimp only
          exact z_vret dX2_readUpdate_86 rfl rfl rfl
      · have b2 := a2 (by first | exact a3 c51 | exact c51)
        have b1 := a1 b2.1
        have u1 := upd_nat h1 h40 b1.1 b1.2
        have u2 := upd_nat h1 h40 (Int32.le_trans b1.1 b2.2.1) b2.2.2
        have hle := upd_le u1.1 u2.1 (by omega) (by omega) b2.2.1
        refine z_aload_0 dX2_readUpdate_61 ?_
        refine z_get (k := 0) (v := .ref 1) dX2_readUpdate_62 rfl rfl rfl (by decide) zf_X2_12 zw_in2 ?_
        refine z_iload_2 dX2_readUpdate_65 ?_
        refine z_topi (w := nI ((g_c_2_readNumber c (0) (nI (n - 1)) S TU).1.toNatClampNeg)) u1.1 ?_
        refine z_iload_3 dX2_readUpdate_66 ?_
        refine z_topi (w := nI ((g_c_2_readNumber c ((g_c_2_readNumber c (0) (nI (n - 1)) S TU).1) (nI (n - 1)) Sn1 TU).1.toNatClampNeg)) u2.1 ?_
        refine z_iload_4 dX2_readUpdate_67 ?_
        refine Z.shs (sho 0 Sn2 TU) (zRun.V (ρ := zsh 1) (k_canRaise TU ((g_c_2_readNumber c (0) (nI (n - 1)) S TU).1.toNatClampNeg) ((g_c_2_readNumber c ((g_c_2_readNumber c (0) (nI (n - 1)) S TU).1) (nI (n - 1)) Sn1 TU).1.toNatClampNeg) (0) hle (by omega)) dX2_readUpdate_69 zy_X5_canRaise zm_X2_134 rfl rfl rfl rfl (Nat.le_of_ble_eq_true rfl) (by decide) (by decide) (zsh_fix 1)) (zsh_inj (Nat.le_of_ble_eq_true rfl)) ⟨rfl, rfl, rfl, rfl, rfl, rfl, rfl, rfl, rfl, trivial⟩ (zlen2 9 rfl rfl) rfl rfl ?_
        refine z_ifB_eq (tgt := 79) dX2_readUpdate_72 (by decide) (fun c72 => ?_) (fun c72 => ?_)
        · refine z_iconst (v := 0) dX2_readUpdate_79 rfl ?_
          refine Z.call0s (zRun.V (ρ := fun i => i) (k_c_2_ends c (false) Sn2 TU (by first | exact hS3 | exact hS2)) dX2_readUpdate_80 zy_X2_ends zm_X2_117 rfl rfl rfl rfl (Nat.le_of_ble_eq_true rfl) (by decide) (by decide)) (zlen2 18 rfl rfl) ?_
          obtain ⟨Sn8, en8⟩ : ∃ z, z = ((g_c_2_ends c (false) Sn2 TU).2) := ⟨_, rfl⟩
          rw [← en8]
          refine z_ifB_ne (tgt := 87) dX2_readUpdate_83 (by decide) (fun c83 => ?_) (fun c83 => ?_)
          · refine z_iload_1 dX2_readUpdate_87 ?_
            refine z_bipush (v := 9) dX2_readUpdate_88 rfl ?_
            refine z_icmp_ne (tgt := 109) dX2_readUpdate_90 (by decide) (fun c90 => ?_) (fun c90 => ?_)
            · refine z_iload_1 dX2_readUpdate_109 ?_
              refine z_bipush (v := 10) dX2_readUpdate_110 rfl ?_
              refine z_icmp_ne_f (tgt := 131) dX2_readUpdate_112 (by decide) c58 ?_
              refine z_aload_0 dX2_readUpdate_115 ?_
              refine z_get (k := 0) (v := .ref 1) dX2_readUpdate_116 rfl rfl rfl (by decide) zf_X2_12 zw_in2 ?_
              refine z_iload_2 dX2_readUpdate_119 ?_
              refine z_iload_3 dX2_readUpdate_120 ?_
              refine z_iconst (v := 1) dX2_readUpdate_121 rfl ?_
              refine z_iload_4 dX2_readUpdate_122 ?_
              refine Z.shs (sho 0 Sn8 ((tUpdate TU ((g_c_2_readNumber c (0) (nI (n - 1)) S TU).1) ((g_c_2_readNumber c ((g_c_2_readNumber c (0) (nI (n - 1)) S TU).1) (nI (n - 1)) Sn1 TU).1) (1) (0)).1)) (zRun.V (ρ := zsh 1) (k_update TU ((g_c_2_readNumber c (0) (nI (n - 1)) S TU).1) ((g_c_2_readNumber c ((g_c_2_readNumber c (0) (nI (n - 1)) S TU).1) (nI (n - 1)) Sn1 TU).1) (1) (0)) dX2_readUpdate_124 zy_X5_update zm_X2_138 rfl rfl rfl rfl (Nat.le_of_ble_eq_true rfl) (by decide) (by decide) (zsh_fix 1)) (zsh_inj (Nat.le_of_ble_eq_true rfl)) ⟨rfl, rfl, rfl, rfl, rfl, rfl, rfl, rfl, rfl, trivial⟩ (zlen2 9 rfl rfl) rfl rfl ?_
              refine z_pop dX2_readUpdate_127 rfl ?_
              refine z_goto (tgt := 143) dX2_readUpdate_128 (by decide) ?_
              subst en8
              subst en2
              subst en1
              rw [g_c_2_readUpdate, if_pos c33, if_pos c51, if_pos c58, if_neg c72, if_pos c83, if_neg c90]
              try dsimp only
              exact z_vret dX2_readUpdate_143 rfl rfl rfl
            · refine z_aload_0 dX2_readUpdate_93 ?_
              refine z_get (k := 0) (v := .ref 1) dX2_readUpdate_94 rfl rfl rfl (by decide) zf_X2_12 zw_in2 ?_
              refine z_iload_2 dX2_readUpdate_97 ?_
              refine z_iload_3 dX2_readUpdate_98 ?_
              refine z_iconst (v := 0) dX2_readUpdate_99 rfl ?_
              refine z_iload_4 dX2_readUpdate_100 ?_
              refine Z.shs (sho 0 Sn8 ((tUpdate TU ((g_c_2_readNumber c (0) (nI (n - 1)) S TU).1) ((g_c_2_readNumber c ((g_c_2_readNumber c (0) (nI (n - 1)) S TU).1) (nI (n - 1)) Sn1 TU).1) (0) (0)).1)) (zRun.V (ρ := zsh 1) (k_update TU ((g_c_2_readNumber c (0) (nI (n - 1)) S TU).1) ((g_c_2_readNumber c ((g_c_2_readNumber c (0) (nI (n - 1)) S TU).1) (nI (n - 1)) Sn1 TU).1) (0) (0)) dX2_readUpdate_102 zy_X5_update zm_X2_138 rfl rfl rfl rfl (Nat.le_of_ble_eq_true rfl) (by decide) (by decide) (zsh_fix 1)) (zsh_inj (Nat.le_of_ble_eq_true rfl)) ⟨rfl, rfl, rfl, rfl, rfl, rfl, rfl, rfl, rfl, trivial⟩ (zlen2 9 rfl rfl) rfl rfl ?_
              refine z_pop dX2_readUpdate_105 rfl ?_
              refine z_goto (tgt := 143) dX2_readUpdate_106 (by decide) ?_
              subst en8
              subst en2
              subst en1
              rw [g_c_2_readUpdate, if_pos c33, if_pos c51, if_pos c58, if_neg c72, if_pos c83, if_pos c90]
              try dsimp only
              exact z_vret dX2_readUpdate_143 rfl rfl rfl
          · subst en8
            subst en2
            subst en1
            rw [g_c_2_readUpdate, if_pos c33, if_pos c51, if_pos c58, if_neg c72, if_neg c83]
            try dsimp only
            exact z_vret dX2_readUpdate_86 rfl rfl rfl
        · refine z_iconst (v := 1) dX2_readUpdate_75 rfl ?_
          refine z_goto (tgt := 80) dX2_readUpdate_76 (by decide) ?_
          refine Z.call0s (zRun.V (ρ := fun i => i) (k_c_2_ends c (true) Sn2 TU (by first | exact hS3 | exact hS2)) dX2_readUpdate_80 zy_X2_ends zm_X2_117 rfl rfl rfl rfl (Nat.le_of_ble_eq_true rfl) (by decide) (by decide)) (zlen2 18 rfl rfl) ?_
          obtain ⟨Sn9, en9⟩ : ∃ z, z = ((g_c_2_ends c (true) Sn2 TU).2) := ⟨_, rfl⟩
          rw [← en9]
          refine z_ifB_ne (tgt := 87) dX2_readUpdate_83 (by decide) (fun c83 => ?_) (fun c83 => ?_)
          · refine z_iload_1 dX2_readUpdate_87 ?_
            refine z_bipush (v := 9) dX2_readUpdate_88 rfl ?_
            refine z_icmp_ne (tgt := 109) dX2_readUpdate_90 (by decide) (fun c90 => ?_) (fun c90 => ?_)
            · refine z_iload_1 dX2_readUpdate_109 ?_
              refine z_bipush (v := 10) dX2_readUpdate_110 rfl ?_
              refine z_icmp_ne_f (tgt := 131) dX2_readUpdate_112 (by decide) c58 ?_
              refine z_aload_0 dX2_readUpdate_115 ?_
              refine z_get (k := 0) (v := .ref 1) dX2_readUpdate_116 rfl rfl rfl (by decide) zf_X2_12 zw_in2 ?_
              refine z_iload_2 dX2_readUpdate_119 ?_
              refine z_iload_3 dX2_readUpdate_120 ?_
              refine z_iconst (v := 1) dX2_readUpdate_121 rfl ?_
              refine z_iload_4 dX2_readUpdate_122 ?_
              refine Z.shs (sho 0 Sn9 ((tUpdate TU ((g_c_2_readNumber c (0) (nI (n - 1)) S TU).1) ((g_c_2_readNumber c ((g_c_2_readNumber c (0) (nI (n - 1)) S TU).1) (nI (n - 1)) Sn1 TU).1) (1) (0)).1)) (zRun.V (ρ := zsh 1) (k_update TU ((g_c_2_readNumber c (0) (nI (n - 1)) S TU).1) ((g_c_2_readNumber c ((g_c_2_readNumber c (0) (nI (n - 1)) S TU).1) (nI (n - 1)) Sn1 TU).1) (1) (0)) dX2_readUpdate_124 zy_X5_update zm_X2_138 rfl rfl rfl rfl (Nat.le_of_ble_eq_true rfl) (by decide) (by decide) (zsh_fix 1)) (zsh_inj (Nat.le_of_ble_eq_true rfl)) ⟨rfl, rfl, rfl, rfl, rfl, rfl, rfl, rfl, rfl, trivial⟩ (zlen2 9 rfl rfl) rfl rfl ?_
              refine z_pop dX2_readUpdate_127 rfl ?_
              refine z_goto (tgt := 143) dX2_readUpdate_128 (by decide) ?_
              subst en9
              subst en2
              subst en1
              rw [g_c_2_readUpdate, if_pos c33, if_pos c51, if_pos c58, if_pos c72, if_pos c83, if_neg c90]
              try dsimp only
              exact z_vret dX2_readUpdate_143 rfl rfl rfl
            · refine z_aload_0 dX2_readUpdate_93 ?_
              refine z_get (k := 0) (v := .ref 1) dX2_readUpdate_94 rfl rfl rfl (by decide) zf_X2_12 zw_in2 ?_
              refine z_iload_2 dX2_readUpdate_97 ?_
              refine z_iload_3 dX2_readUpdate_98 ?_
              refine z_iconst (v := 0) dX2_readUpdate_99 rfl ?_
              refine z_iload_4 dX2_readUpdate_100 ?_
              refine Z.shs (sho 0 Sn9 ((tUpdate TU ((g_c_2_readNumber c (0) (nI (n - 1)) S TU).1) ((g_c_2_readNumber c ((g_c_2_readNumber c (0) (nI (n - 1)) S TU).1) (nI (n - 1)) Sn1 TU).1) (0) (0)).1)) (zRun.V (ρ := zsh 1) (k_update TU ((g_c_2_readNumber c (0) (nI (n - 1)) S TU).1) ((g_c_2_readNumber c ((g_c_2_readNumber c (0) (nI (n - 1)) S TU).1) (nI (n - 1)) Sn1 TU).1) (0) (0)) dX2_readUpdate_102 zy_X5_update zm_X2_138 rfl rfl rfl rfl (Nat.le_of_ble_eq_true rfl) (by decide) (by decide) (zsh_fix 1)) (zsh_inj (Nat.le_of_ble_eq_true rfl)) ⟨rfl, rfl, rfl, rfl, rfl, rfl, rfl, rfl, rfl, trivial⟩ (zlen2 9 rfl rfl) rfl rfl ?_
              refine z_pop dX2_readUpdate_105 rfl ?_
              refine z_goto (tgt := 143) dX2_readUpdate_106 (by decide) ?_
              subst en9
              subst en2
              subst en1
              rw [g_c_2_readUpdate, if_pos c33, if_pos c51, if_pos c58, if_pos c72, if_pos c83, if_pos c90]
              try dsimp only
              exact z_vret dX2_readUpdate_143 rfl rfl rfl
          · subst en9
            subst en2
            subst en1
            rw [g_c_2_readUpdate, if_pos c33, if_pos c51, if_pos c58, if_pos c72, if_neg c83]
            try dsimp only
            exact z_vret dX2_readUpdate_86 rfl rfl rfl
