variable {sc : SC}

/-- the place in the script -/
def sp (S : ZS) : Nat := (S.1 5).toNatClampNeg
/-- the tokens' count and the place within them -/
def scO (c : Nat) (S : ZS) : Prop := S.1 4 = nI c ∧ c ≤ 601 ∧ S.1 5 = nI (sp S) ∧ sp S ≤ c
theorem sp_nI {S : ZS} {p : Nat} (h : S.1 5 = nI p) (hp : p < 2 ^ 31) : sp S = p := by rw [sp, h, nI_clamp hp]
theorem scO.lt {c : Nat} {S : ZS} (h : scO c S) : sp S < 2 ^ 31 := by have := h.2.1; have := h.2.2.2; omega
theorem scO.of {c : Nat} {S R : ZS} (h : scO c S) (h4 : R.1 4 = S.1 4) (h5 : R.1 5 = S.1 5) : scO c R := by
  have e : sp R = sp S := by rw [sp, sp, h5]
  exact ⟨h4.trans h.1, h.2.1, by rw [h5, e]; exact h.2.2.1, by rw [e]; exact h.2.2.2⟩
theorem code_lt {c k : Nat} {S : ZS} (h : ¬ g_c_4_codeAt c k S = 0) : k < c := by
  by_cases e : k < c
  · exact e
  · exact absurd (by rw [g_c_4_codeAt, if_pos (Nat.not_lt.mp e)]) h
theorem scO.adv {c : Nat} {S R : ZS} (h : scO c S) (hk : sp S < c) (h4 : R.1 4 = S.1 4) (h5 : R.1 5 = nI (sp S + 1)) : scO c R := by
  have e : sp R = sp S + 1 := sp_nI h5 (by have := h.2.1; omega)
  exact ⟨h4.trans h.1, h.2.1, by rw [e]; exact h5, by rw [e]; omega⟩
noncomputable def g_c_2_errorKind (S : ZS) (_TU : TS) : Int32 := S.1 7
theorem k_c_2_errorKind (S : ZS) (TU : TS)  : zM sc yX2_errorKind cX2_errorKind 1 (some .int) 0 0 0 [.ref 0] (sho 0 S TU) (.inl (some (.int (g_c_2_errorKind S TU)))) (sho 0 S TU) := by
  refine zM.at (ls := [some (.ref 0)]) zy_X2_errorKind.2.2.2.2.2 (Nat.le_of_ble_eq_true rfl) rfl ?_
  refine z_aload_0 dX2_errorKind_0 ?_
  refine z_get (k := 5) (v := .int (S.1 7)) dX2_errorKind_1 rfl rfl rfl (by decide) zf_X2_36 zw_in2 ?_
  rw [g_c_2_errorKind]
  exact z_iret dX2_errorKind_4 rfl (zint _) rfl rfl
noncomputable def g_c_2_fail (x : Int32) (S : ZS) (_TU : TS) : ZS := (if S.1 7 = 0 then (sI 8 (S.1 5) (sI 7 (x) S)) else S)
theorem k_c_2_fail (x : Int32) (S : ZS) (TU : TS)  : zM sc yX2_fail cX2_fail 2 none 0 0 0 [.ref 0, .int (x)] (sho 0 S TU) (.inl none) (sho 0 (g_c_2_fail x S TU) TU) := by
  refine zM.at (ls := [some (.ref 0), some (.int (x))]) zy_X2_fail.2.2.2.2.2 (Nat.le_of_ble_eq_true rfl) rfl ?_
  refine z_aload_0 dX2_fail_0 ?_
  refine z_get (k := 5) (v := .int (S.1 7)) dX2_fail_1 rfl rfl rfl (by decide) zf_X2_36 zw_in2 ?_
  refine z_if_ne (tgt := 20) dX2_fail_4 (by decide) (fun c4 => ?_) (fun c4 => ?_)
  · rw [g_c_2_fail, if_neg c4]
    exact z_vret dX2_fail_20 rfl rfl rfl
  · refine z_aload_0 dX2_fail_7 ?_
    refine z_iload_1 dX2_fail_8 ?_
    refine z_put (k := 5) (ty := tyX2) dX2_fail_9 rfl rfl (by decide) zf_X2_36 zw_in2 tyX2_ok nmX2 rfl (fun _ => ⟨rfl, rfl⟩) (Nat.le_of_ble_eq_true rfl) ?_
    refine Z.heap (h2 := sho 0 (sI 7 (x) S) TU) rfl ?_
    refine z_aload_0 dX2_fail_12 ?_
    refine z_aload_0 dX2_fail_13 ?_
    refine z_get (k := 3) (v := .int (S.1 5)) dX2_fail_14 rfl rfl rfl (by decide) zf_X2_29 zw_in2 ?_
    refine z_put (k := 6) (ty := tyX2) dX2_fail_17 rfl rfl (by decide) zf_X2_39 zw_in2 tyX2_ok nmX2 rfl (fun _ => ⟨rfl, rfl⟩) (Nat.le_of_ble_eq_true rfl) ?_
    refine Z.heap (h2 := sho 0 (sI 8 (S.1 5) (sI 7 (x) S)) TU) rfl ?_
    rw [g_c_2_fail, if_pos c4]
    exact z_vret dX2_fail_20 rfl rfl rfl
noncomputable def g_c_2_isAt (c : Nat) (x : Int32) (S : ZS) (_TU : TS) : Bool := (if (g_c_4_codeAt c (sp S) S) = x then true else false)
theorem k_c_2_isAt (c : Nat) (x : Int32) (S : ZS) (TU : TS) (hS : scO c S) : zM sc yX2_isAt cX2_isAt 2 (some .boolean) 1 0 0 [.ref 0, .int (x)] (sho 0 S TU) (.inl (some (.int (zb (g_c_2_isAt c x S TU))))) (sho 0 S TU) := by
  refine zM.at (ls := [some (.ref 0), some (.int (x))]) zy_X2_isAt.2.2.2.2.2 (Nat.le_of_ble_eq_true rfl) rfl ?_
  refine z_aload_0 dX2_isAt_0 ?_
  refine z_get (k := 1) (v := .ref 10) dX2_isAt_1 rfl rfl rfl (by decide) zf_X2_21 zw_in2 ?_
  refine z_aload_0 dX2_isAt_4 ?_
  refine z_get (k := 3) (v := .int (S.1 5)) dX2_isAt_5 rfl rfl rfl (by decide) zf_X2_29 zw_in2 ?_
  refine z_topi (w := nI (sp S)) hS.2.2.1 ?_
  refine Z.shs (sho 0 S TU) (zRun.V (ρ := zsh 10) (k_c_4_codeAt c (sp S) S hS.1 hS.2.1 hS.lt) dX2_isAt_8 zy_X4_codeAt zm_X2_70 rfl rfl rfl rfl (Nat.le_of_ble_eq_true rfl) (by decide) (by decide) (zsh_fix 10)) (zsh_inj (Nat.le_of_ble_eq_true rfl)) ⟨rfl, rfl, rfl, rfl, trivial⟩ (zlen2 4 rfl rfl) rfl rfl ?_
  refine z_iload_1 dX2_isAt_11 ?_
  refine z_icmp_ne (tgt := 19) dX2_isAt_12 (by decide) (fun c12 => ?_) (fun c12 => ?_)
  · refine z_iconst (v := 0) dX2_isAt_19 rfl ?_
    rw [g_c_2_isAt, if_neg c12]
    exact z_iret dX2_isAt_20 rfl rfl rfl rfl
  · refine z_iconst (v := 1) dX2_isAt_15 rfl ?_
    refine z_goto (tgt := 20) dX2_isAt_16 (by decide) ?_
    rw [g_c_2_isAt, if_pos c12]
    exact z_iret dX2_isAt_20 rfl rfl rfl rfl
noncomputable def g_c_2_expect (c : Nat) (x : Int32) (S : ZS) (TU : TS) : ZS := (if S.1 7 = 0 then (if (g_c_4_codeAt c (sp S) S) = x then (sI 5 (nI (sp S + 1)) S) else (g_c_2_fail (1) S TU)) else S)
theorem k_c_2_expect (c : Nat) (x : Int32) (S : ZS) (TU : TS) (hS : scO c S) : zM sc yX2_expect cX2_expect 2 none 1 0 0 [.ref 0, .int (x)] (sho 0 S TU) (.inl none) (sho 0 (g_c_2_expect c x S TU) TU) := by
  refine zM.at (ls := [some (.ref 0), some (.int (x))]) zy_X2_expect.2.2.2.2.2 (Nat.le_of_ble_eq_true rfl) rfl ?_
  refine z_aload_0 dX2_expect_0 ?_
  refine z_get (k := 5) (v := .int (S.1 7)) dX2_expect_1 rfl rfl rfl (by decide) zf_X2_36 zw_in2 ?_
  refine z_if_eq (tgt := 8) dX2_expect_4 (by decide) (fun c4 => ?_) (fun c4 => ?_)
  · refine z_aload_0 dX2_expect_8 ?_
    refine z_get (k := 1) (v := .ref 10) dX2_expect_9 rfl rfl rfl (by decide) zf_X2_21 zw_in2 ?_
    refine z_aload_0 dX2_expect_12 ?_
    refine z_get (k := 3) (v := .int (S.1 5)) dX2_expect_13 rfl rfl rfl (by decide) zf_X2_29 zw_in2 ?_
    refine z_topi (w := nI (sp S)) hS.2.2.1 ?_
    refine Z.shs (sho 0 S TU) (zRun.V (ρ := zsh 10) (k_c_4_codeAt c (sp S) S hS.1 hS.2.1 hS.lt) dX2_expect_16 zy_X4_codeAt zm_X2_70 rfl rfl rfl rfl (Nat.le_of_ble_eq_true rfl) (by decide) (by decide) (zsh_fix 10)) (zsh_inj (Nat.le_of_ble_eq_true rfl)) ⟨rfl, rfl, rfl, rfl, trivial⟩ (zlen2 4 rfl rfl) rfl rfl ?_
    refine z_iload_1 dX2_expect_19 ?_
    refine z_icmp_ne (tgt := 36) dX2_expect_20 (by decide) (fun c20 => ?_) (fun c20 => ?_)
    · refine z_aload_0 dX2_expect_36 ?_
      refine z_iconst (v := 1) dX2_expect_37 rfl ?_
      refine Z.call0n (zRun.V (ρ := fun i => i) (k_c_2_fail (1) S TU ) dX2_expect_38 zy_X2_fail zm_X2_83 rfl rfl rfl rfl (Nat.le_of_ble_eq_true rfl) (by decide) (by decide)) (zlen2 18 rfl rfl) ?_
      rw [g_c_2_expect, if_pos c4, if_neg c20]
      exact z_vret dX2_expect_41 rfl rfl rfl
    · refine z_aload_0 dX2_expect_23 ?_
      refine z_dup dX2_expect_24 rfl ?_
      refine z_get (k := 3) (v := .int (S.1 5)) dX2_expect_25 rfl rfl rfl (by decide) zf_X2_29 zw_in2 ?_
      refine z_topi (w := nI (sp S)) hS.2.2.1 ?_
      refine z_iconst (v := 1) dX2_expect_28 rfl ?_
      refine z_iadd dX2_expect_29 ?_
      refine z_topi (w := nI (sp S + 1)) (nI_add _ _) ?_
      refine z_put (k := 3) (ty := tyX2) dX2_expect_30 rfl rfl (by decide) zf_X2_29 zw_in2 tyX2_ok nmX2 rfl (fun _ => ⟨rfl, rfl⟩) (Nat.le_of_ble_eq_true rfl) ?_
      refine Z.heap (h2 := sho 0 (sI 5 (nI (sp S + 1)) S) TU) rfl ?_
      refine z_goto (tgt := 41) dX2_expect_33 (by decide) ?_
      rw [g_c_2_expect, if_pos c4, if_pos c20]
      exact z_vret dX2_expect_41 rfl rfl rfl
  · rw [g_c_2_expect, if_neg c4]
    exact z_vret dX2_expect_7 rfl rfl rfl
noncomputable def g_c_2_goesOn (c : Nat) (S : ZS) (TU : TS) : Bool := (if S.1 7 = 0 then (if 0 < S.1 9 then true else (if ((g_c_2_isAt c (0) S TU)) = true then false else true)) else false)
theorem k_c_2_goesOn (c : Nat) (S : ZS) (TU : TS) (hS : scO c S) : zM sc yX2_goesOn cX2_goesOn 1 (some .boolean) 2 0 0 [.ref 0] (sho 0 S TU) (.inl (some (.int (zb (g_c_2_goesOn c S TU))))) (sho 0 S TU) := by
  refine zM.at (ls := [some (.ref 0)]) zy_X2_goesOn.2.2.2.2.2 (Nat.le_of_ble_eq_true rfl) rfl ?_
  refine z_aload_0 dX2_goesOn_0 ?_
  refine z_get (k := 5) (v := .int (S.1 7)) dX2_goesOn_1 rfl rfl rfl (by decide) zf_X2_36 zw_in2 ?_
  refine z_if_ne (tgt := 26) dX2_goesOn_4 (by decide) (fun c4 => ?_) (fun c4 => ?_)
  · refine z_iconst (v := 0) dX2_goesOn_26 rfl ?_
    rw [g_c_2_goesOn, if_neg c4]
    exact z_iret dX2_goesOn_27 rfl rfl rfl rfl
  · refine z_aload_0 dX2_goesOn_7 ?_
    refine z_get (k := 7) (v := .int (S.1 9)) dX2_goesOn_8 rfl rfl rfl (by decide) zf_X2_42 zw_in2 ?_
    refine z_if_gt (tgt := 22) dX2_goesOn_11 (by decide) (fun c11 => ?_) (fun c11 => ?_)
    · refine z_iconst (v := 1) dX2_goesOn_22 rfl ?_
      refine z_goto (tgt := 27) dX2_goesOn_23 (by decide) ?_
      rw [g_c_2_goesOn, if_pos c4, if_pos c11]
      exact z_iret dX2_goesOn_27 rfl rfl rfl rfl
    · refine z_aload_0 dX2_goesOn_14 ?_
      refine z_iconst (v := 0) dX2_goesOn_15 rfl ?_
      refine Z.call0s (zRun.V (ρ := fun i => i) (k_c_2_isAt c (0) S TU (by first | omega | assumption)) dX2_goesOn_16 zy_X2_isAt zm_X2_86 rfl rfl rfl rfl (Nat.le_of_ble_eq_true rfl) (by decide) (by decide)) (zlen2 18 rfl rfl) ?_
      refine z_ifB_ne (tgt := 26) dX2_goesOn_19 (by decide) (fun c19 => ?_) (fun c19 => ?_)
      · refine z_iconst (v := 0) dX2_goesOn_26 rfl ?_
        rw [g_c_2_goesOn, if_pos c4, if_neg c11, if_pos c19]
        exact z_iret dX2_goesOn_27 rfl rfl rfl rfl
      · refine z_iconst (v := 1) dX2_goesOn_22 rfl ?_
        refine z_goto (tgt := 27) dX2_goesOn_23 (by decide) ?_
        rw [g_c_2_goesOn, if_pos c4, if_neg c11, if_neg c19]
        exact z_iret dX2_goesOn_27 rfl rfl rfl rfl
noncomputable def g_c_2_errorOffset (c : Nat) (q : Nat) (S : ZS) (_TU : TS) : Int32 := (if S.1 7 = 0 then (-1) else (g_c_4_offsetAt c q S))
theorem k_c_2_errorOffset (c : Nat) (q : Nat) (S : ZS) (TU : TS) (h4 : S.1 4 = nI c) (hc6 : c ≤ 601) (hq : S.1 8 = nI q) (hq6 : q < 2 ^ 31) : zM sc yX2_errorOffset cX2_errorOffset 1 (some .int) 1 0 0 [.ref 0] (sho 0 S TU) (.inl (some (.int (g_c_2_errorOffset c q S TU)))) (sho 0 S TU) := by
  refine zM.at (ls := [some (.ref 0)]) zy_X2_errorOffset.2.2.2.2.2 (Nat.le_of_ble_eq_true rfl) rfl ?_
  refine z_aload_0 dX2_errorOffset_0 ?_
  refine z_get (k := 5) (v := .int (S.1 7)) dX2_errorOffset_1 rfl rfl rfl (by decide) zf_X2_36 zw_in2 ?_
  refine z_if_ne (tgt := 11) dX2_errorOffset_4 (by decide) (fun c4 => ?_) (fun c4 => ?_)
  · refine z_aload_0 dX2_errorOffset_11 ?_
    refine z_get (k := 1) (v := .ref 10) dX2_errorOffset_12 rfl rfl rfl (by decide) zf_X2_21 zw_in2 ?_
    refine z_aload_0 dX2_errorOffset_15 ?_
    refine z_get (k := 6) (v := .int (S.1 8)) dX2_errorOffset_16 rfl rfl rfl (by decide) zf_X2_39 zw_in2 ?_
    refine z_topi (w := nI (q)) hq ?_
    refine Z.shs (sho 0 S TU) (zRun.V (ρ := zsh 10) (k_c_4_offsetAt c q S h4 hc6 hq6) dX2_errorOffset_19 zy_X4_offsetAt zm_X2_54 rfl rfl rfl rfl (Nat.le_of_ble_eq_true rfl) (by decide) (by decide) (zsh_fix 10)) (zsh_inj (Nat.le_of_ble_eq_true rfl)) ⟨rfl, rfl, rfl, rfl, trivial⟩ (zlen2 4 rfl rfl) rfl rfl ?_
    rw [g_c_2_errorOffset, if_neg c4]
    exact z_iret dX2_errorOffset_22 rfl (zint _) rfl rfl
  · refine z_iconst (v := (-1)) dX2_errorOffset_7 rfl ?_
    refine z_goto (tgt := 22) dX2_errorOffset_8 (by decide) ?_
    rw [g_c_2_errorOffset, if_pos c4]
    exact z_iret dX2_errorOffset_22 rfl (zint _) rfl rfl
theorem fail_f {x : Int32} {S : ZS} {TU : TS} : (g_c_2_fail x S TU).1 4 = S.1 4 ∧ (g_c_2_fail x S TU).1 5 = S.1 5 ∧ (g_c_2_fail x S TU).1 6 = S.1 6 ∧ (g_c_2_fail x S TU).1 9 = S.1 9 ∧ (g_c_2_fail x S TU).2 = S.2 := by
  rw [g_c_2_fail]
  split
  · exact ⟨rfl, rfl, rfl, rfl, rfl⟩
  · exact ⟨rfl, rfl, rfl, rfl, rfl⟩
theorem fail_sc {c : Nat} {x : Int32} {S : ZS} {TU : TS} (h : scO c S) : scO c (g_c_2_fail x S TU) := h.of fail_f.1 fail_f.2.1
theorem fail_err {x : Int32} {S : ZS} {TU : TS} (hx : ¬ x = 0) : ¬ (g_c_2_fail x S TU).1 7 = 0 := by
  rw [g_c_2_fail]
  split
  next h => exact hx
  next h => exact h
theorem exp_sc {c : Nat} {x : Int32} {S : ZS} {TU : TS} (h : scO c S) (hx : ¬ x = 0) : scO c (g_c_2_expect c x S TU) := by
  rw [g_c_2_expect]
  split
  · split
    next e => exact h.adv (code_lt (by rw [e]; exact hx)) rfl rfl
    next e => exact fail_sc h
  · exact h
theorem exp_err {c : Nat} {x : Int32} {S : ZS} {TU : TS} (h : ¬ S.1 7 = 0) : g_c_2_expect c x S TU = S := by rw [g_c_2_expect, if_neg h]
theorem exp_f {c : Nat} {x : Int32} {S : ZS} {TU : TS} : (g_c_2_expect c x S TU).1 4 = S.1 4 ∧ (g_c_2_expect c x S TU).1 6 = S.1 6 ∧ (g_c_2_expect c x S TU).1 9 = S.1 9 ∧ (g_c_2_expect c x S TU).2 = S.2 := by
  rw [g_c_2_expect]
  split
  · split
    · exact ⟨rfl, rfl, rfl, rfl⟩
    · exact ⟨fail_f.1, fail_f.2.2.1, fail_f.2.2.2.1, fail_f.2.2.2.2⟩
  · exact ⟨rfl, rfl, rfl, rfl⟩
noncomputable def g_c_2_readNumber (c : Nat) (x : Int32) (z : Int32) (S : ZS) (TU : TS) : Int32 × ZS := (if ((g_c_2_isAt c (2) S TU)) = true then (if (g_c_4_numberAt c (sp S) S) < x then ((g_c_4_numberAt c (sp S) S), (g_c_2_expect c (2) (g_c_2_fail (2) S TU) TU)) else (if (g_c_4_numberAt c (sp S) S) ≤ z then ((g_c_4_numberAt c (sp S) S), (g_c_2_expect c (2) S TU)) else ((g_c_4_numberAt c (sp S) S), (g_c_2_expect c (2) (g_c_2_fail (2) S TU) TU)))) else ((g_c_4_numberAt c (sp S) S), (g_c_2_expect c (2) S TU)))
theorem k_c_2_readNumber (c : Nat) (x : Int32) (z : Int32) (S : ZS) (TU : TS) (hS : scO c S) : zM sc yX2_readNumber cX2_readNumber 4 (some .int) 2 0 0 [.ref 0, .int (x), .int (z)] (sho 0 S TU) (.inl (some (.int (g_c_2_readNumber c x z S TU).1))) (sho 0 (g_c_2_readNumber c x z S TU).2 TU) := by
  refine zM.at (ls := [some (.ref 0), some (.int (x)), some (.int (z)), none]) zy_X2_readNumber.2.2.2.2.2 (Nat.le_of_ble_eq_true rfl) rfl ?_
  refine z_aload_0 dX2_readNumber_0 ?_
  refine z_get (k := 1) (v := .ref 10) dX2_readNumber_1 rfl rfl rfl (by decide) zf_X2_21 zw_in2 ?_
  refine z_aload_0 dX2_readNumber_4 ?_
  refine z_get (k := 3) (v := .int (S.1 5)) dX2_readNumber_5 rfl rfl rfl (by decide) zf_X2_29 zw_in2 ?_
  refine z_topi (w := nI (sp S)) hS.2.2.1 ?_
  refine Z.shs (sho 0 S TU) (zRun.V (ρ := zsh 10) (k_c_4_numberAt c (sp S) S hS.1 hS.2.1 hS.lt) dX2_readNumber_8 zy_X4_numberAt zm_X2_104 rfl rfl rfl rfl (Nat.le_of_ble_eq_true rfl) (by decide) (by decide) (zsh_fix 10)) (zsh_inj (Nat.le_of_ble_eq_true rfl)) ⟨rfl, rfl, rfl, rfl, trivial⟩ (zlen2 4 rfl rfl) rfl rfl ?_
  refine z_istore_3 dX2_readNumber_11 rfl (by decide) ?_
  refine z_aload_0 dX2_readNumber_12 ?_
  refine z_iconst (v := 2) dX2_readNumber_13 rfl ?_
  refine Z.call0s (zRun.V (ρ := fun i => i) (k_c_2_isAt c (2) S TU hS) dX2_readNumber_14 zy_X2_isAt zm_X2_86 rfl rfl rfl rfl (Nat.le_of_ble_eq_true rfl) (by decide) (by decide)) (zlen2 18 rfl rfl) ?_
  refine z_ifB_eq (tgt := 35) dX2_readNumber_17 (by decide) (fun c17 => ?_) (fun c17 => ?_)
  · refine z_aload_0 dX2_readNumber_35 ?_
    refine z_iconst (v := 2) dX2_readNumber_36 rfl ?_
    refine Z.call0n (zRun.V (ρ := fun i => i) (k_c_2_expect c (2) S TU (by first | exact hS | exact fail_sc hS)) dX2_readNumber_37 zy_X2_expect zm_X2_90 rfl rfl rfl rfl (Nat.le_of_ble_eq_true rfl) (by decide) (by decide)) (zlen2 18 rfl rfl) ?_
    refine z_iload_3 dX2_readNumber_40 ?_
    rw [g_c_2_readNumber, if_neg c17]
    exact z_iret dX2_readNumber_41 rfl (zint _) rfl rfl
  · refine z_iload_3 dX2_readNumber_20 ?_
    refine z_iload_1 dX2_readNumber_21 ?_
    refine z_icmp_lt (tgt := 30) dX2_readNumber_22 (by decide) (fun c22 => ?_) (fun c22 => ?_)
    · refine z_aload_0 dX2_readNumber_30 ?_
      refine z_iconst (v := 2) dX2_readNumber_31 rfl ?_
      refine Z.call0n (zRun.V (ρ := fun i => i) (k_c_2_fail (2) S TU ) dX2_readNumber_32 zy_X2_fail zm_X2_83 rfl rfl rfl rfl (Nat.le_of_ble_eq_true rfl) (by decide) (by decide)) (zlen2 18 rfl rfl) ?_
      refine z_aload_0 dX2_readNumber_35 ?_
      refine z_iconst (v := 2) dX2_readNumber_36 rfl ?_
      refine Z.call0n (zRun.V (ρ := fun i => i) (k_c_2_expect c (2) (g_c_2_fail (2) S TU) TU (by first | exact hS | exact fail_sc hS)) dX2_readNumber_37 zy_X2_expect zm_X2_90 rfl rfl rfl rfl (Nat.le_of_ble_eq_true rfl) (by decide) (by decide)) (zlen2 18 rfl rfl) ?_
      refine z_iload_3 dX2_readNumber_40 ?_
      rw [g_c_2_readNumber, if_pos c17, if_pos c22]
      exact z_iret dX2_readNumber_41 rfl (zint _) rfl rfl
    · refine z_iload_3 dX2_readNumber_25 ?_
      refine z_iload_2 dX2_readNumber_26 ?_
      refine z_icmp_le (tgt := 35) dX2_readNumber_27 (by decide) (fun c27 => ?_) (fun c27 => ?_)
      · refine z_aload_0 dX2_readNumber_35 ?_
        refine z_iconst (v := 2) dX2_readNumber_36 rfl ?_
        refine Z.call0n (zRun.V (ρ := fun i => i) (k_c_2_expect c (2) S TU (by first | exact hS | exact fail_sc hS)) dX2_readNumber_37 zy_X2_expect zm_X2_90 rfl rfl rfl rfl (Nat.le_of_ble_eq_true rfl) (by decide) (by decide)) (zlen2 18 rfl rfl) ?_
        refine z_iload_3 dX2_readNumber_40 ?_
        rw [g_c_2_readNumber, if_pos c17, if_neg c22, if_pos c27]
        exact z_iret dX2_readNumber_41 rfl (zint _) rfl rfl
      · refine z_aload_0 dX2_readNumber_30 ?_
        refine z_iconst (v := 2) dX2_readNumber_31 rfl ?_
        refine Z.call0n (zRun.V (ρ := fun i => i) (k_c_2_fail (2) S TU ) dX2_readNumber_32 zy_X2_fail zm_X2_83 rfl rfl rfl rfl (Nat.le_of_ble_eq_true rfl) (by decide) (by decide)) (zlen2 18 rfl rfl) ?_
        refine z_aload_0 dX2_readNumber_35 ?_
        refine z_iconst (v := 2) dX2_readNumber_36 rfl ?_
        refine Z.call0n (zRun.V (ρ := fun i => i) (k_c_2_expect c (2) (g_c_2_fail (2) S TU) TU (by first | exact hS | exact fail_sc hS)) dX2_readNumber_37 zy_X2_expect zm_X2_90 rfl rfl rfl rfl (Nat.le_of_ble_eq_true rfl) (by decide) (by decide)) (zlen2 18 rfl rfl) ?_
        refine z_iload_3 dX2_readNumber_40 ?_
        rw [g_c_2_readNumber, if_pos c17, if_neg c22, if_neg c27]
        exact z_iret dX2_readNumber_41 rfl (zint _) rfl rfl
noncomputable def g_c_2_ends (c : Nat) (b : Bool) (S : ZS) (TU : TS) : Bool × ZS := (if ((g_c_2_isAt c (6) S TU)) = true then (if b = true then (if ((g_c_2_expect c (6) S TU)).1 7 = 0 then (true, (g_c_2_expect c (6) S TU)) else (false, (g_c_2_expect c (6) S TU))) else (if ((g_c_2_expect c (6) (g_c_2_fail (4) S TU) TU)).1 7 = 0 then (true, (g_c_2_expect c (6) (g_c_2_fail (4) S TU) TU)) else (false, (g_c_2_expect c (6) (g_c_2_fail (4) S TU) TU)))) else (if ((g_c_2_expect c (6) S TU)).1 7 = 0 then (true, (g_c_2_expect c (6) S TU)) else (false, (g_c_2_expect c (6) S TU))))
theorem k_c_2_ends (c : Nat) (b : Bool) (S : ZS) (TU : TS) (hS : scO c S) : zM sc yX2_ends cX2_ends 2 (some .boolean) 2 0 0 [.ref 0, .int (zb (b))] (sho 0 S TU) (.inl (some (.int (zb (g_c_2_ends c b S TU).1)))) (sho 0 (g_c_2_ends c b S TU).2 TU) := by
  refine zM.at (ls := [some (.ref 0), some (.int (zb (b)))]) zy_X2_ends.2.2.2.2.2 (Nat.le_of_ble_eq_true rfl) rfl ?_
  refine z_aload_0 dX2_ends_0 ?_
  refine z_bipush (v := 6) dX2_ends_1 rfl ?_
  refine Z.call0s (zRun.V (ρ := fun i => i) (k_c_2_isAt c (6) S TU hS) dX2_ends_3 zy_X2_isAt zm_X2_86 rfl rfl rfl rfl (Nat.le_of_ble_eq_true rfl) (by decide) (by decide)) (zlen2 18 rfl rfl) ?_
  refine z_ifB_eq (tgt := 18) dX2_ends_6 (by decide) (fun c6 => ?_) (fun c6 => ?_)
  · refine z_aload_0 dX2_ends_18 ?_
    refine z_bipush (v := 6) dX2_ends_19 rfl ?_
    refine Z.call0n (zRun.V (ρ := fun i => i) (k_c_2_expect c (6) S TU (by first | exact hS | exact fail_sc hS)) dX2_ends_21 zy_X2_expect zm_X2_90 rfl rfl rfl rfl (Nat.le_of_ble_eq_true rfl) (by decide) (by decide)) (zlen2 18 rfl rfl) ?_
    refine z_aload_0 dX2_ends_24 ?_
    refine z_get (k := 5) (v := .int (((g_c_2_expect c (6) S TU)).1 7)) dX2_ends_25 rfl rfl rfl (by decide) zf_X2_36 zw_in2 ?_
    refine z_if_ne (tgt := 35) dX2_ends_28 (by decide) (fun c28 => ?_) (fun c28 => ?_)
    · refine z_iconst (v := 0) dX2_ends_35 rfl ?_
      rw [g_c_2_ends, if_neg c6, if_neg c28]
      exact z_iret dX2_ends_36 rfl rfl rfl rfl
    · refine z_iconst (v := 1) dX2_ends_31 rfl ?_
      refine z_goto (tgt := 36) dX2_ends_32 (by decide) ?_
      rw [g_c_2_ends, if_neg c6, if_pos c28]
      exact z_iret dX2_ends_36 rfl rfl rfl rfl
  · refine z_iload_1 dX2_ends_9 ?_
    refine z_ifB_ne (tgt := 18) dX2_ends_10 (by decide) (fun c10 => ?_) (fun c10 => ?_)
    · refine z_aload_0 dX2_ends_18 ?_
      refine z_bipush (v := 6) dX2_ends_19 rfl ?_
      refine Z.call0n (zRun.V (ρ := fun i => i) (k_c_2_expect c (6) S TU (by first | exact hS | exact fail_sc hS)) dX2_ends_21 zy_X2_expect zm_X2_90 rfl rfl rfl rfl (Nat.le_of_ble_eq_true rfl) (by decide) (by decide)) (zlen2 18 rfl rfl) ?_
      refine z_aload_0 dX2_ends_24 ?_
      refine z_get (k := 5) (v := .int (((g_c_2_expect c (6) S TU)).1 7)) dX2_ends_25 rfl rfl rfl (by decide) zf_X2_36 zw_in2 ?_
      refine z_if_ne (tgt := 35) dX2_ends_28 (by decide) (fun c28 => ?_) (fun c28 => ?_)
      · refine z_iconst (v := 0) dX2_ends_35 rfl ?_
        rw [g_c_2_ends, if_pos c6, if_pos c10, if_neg c28]
        exact z_iret dX2_ends_36 rfl rfl rfl rfl
      · refine z_iconst (v := 1) dX2_ends_31 rfl ?_
        refine z_goto (tgt := 36) dX2_ends_32 (by decide) ?_
        rw [g_c_2_ends, if_pos c6, if_pos c10, if_pos c28]
        exact z_iret dX2_ends_36 rfl rfl rfl rfl
    · refine z_aload_0 dX2_ends_13 ?_
      refine z_iconst (v := 4) dX2_ends_14 rfl ?_
      refine Z.call0n (zRun.V (ρ := fun i => i) (k_c_2_fail (4) S TU ) dX2_ends_15 zy_X2_fail zm_X2_83 rfl rfl rfl rfl (Nat.le_of_ble_eq_true rfl) (by decide) (by decide)) (zlen2 18 rfl rfl) ?_
      refine z_aload_0 dX2_ends_18 ?_
      refine z_bipush (v := 6) dX2_ends_19 rfl ?_
      refine Z.call0n (zRun.V (ρ := fun i => i) (k_c_2_expect c (6) (g_c_2_fail (4) S TU) TU (by first | exact hS | exact fail_sc hS)) dX2_ends_21 zy_X2_expect zm_X2_90 rfl rfl rfl rfl (Nat.le_of_ble_eq_true rfl) (by decide) (by decide)) (zlen2 18 rfl rfl) ?_
      refine z_aload_0 dX2_ends_24 ?_
      refine z_get (k := 5) (v := .int (((g_c_2_expect c (6) (g_c_2_fail (4) S TU) TU)).1 7)) dX2_ends_25 rfl rfl rfl (by decide) zf_X2_36 zw_in2 ?_
      refine z_if_ne (tgt := 35) dX2_ends_28 (by decide) (fun c28 => ?_) (fun c28 => ?_)
      · refine z_iconst (v := 0) dX2_ends_35 rfl ?_
        rw [g_c_2_ends, if_pos c6, if_neg c10, if_neg c28]
        exact z_iret dX2_ends_36 rfl rfl rfl rfl
      · refine z_iconst (v := 1) dX2_ends_31 rfl ?_
        refine z_goto (tgt := 36) dX2_ends_32 (by decide) ?_
        rw [g_c_2_ends, if_pos c6, if_neg c10, if_pos c28]
        exact z_iret dX2_ends_36 rfl rfl rfl rfl
theorem num_sc {c : Nat} {x z : Int32} {S : ZS} {TU : TS} (h : scO c S) : scO c (g_c_2_readNumber c x z S TU).2 := by
  rw [g_c_2_readNumber]
  repeat' split
  all_goals first | exact exp_sc h (by decide) | exact exp_sc (fail_sc h) (by decide)
theorem ends_sc {c : Nat} {b : Bool} {S : ZS} {TU : TS} (h : scO c S) : scO c (g_c_2_ends c b S TU).2 := by
  rw [g_c_2_ends]
  repeat' split
  all_goals first | exact exp_sc h (by decide) | exact exp_sc (fail_sc h) (by decide)
