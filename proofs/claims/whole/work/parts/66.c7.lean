variable {sc : SC}

noncomputable def g_c_6_isLeaf (k : Nat) (_S : ZS) (_X : ZS) (_R : ZS) (T : TS) : Bool := (if (decide (tIn T k)) = true then false else true)
theorem k_c_6_isLeaf (k : Nat) (S : ZS) (X : ZS) (R : ZS) (T : TS) (h1 : 1 ≤ k) (h2 : k < 128) (h3 : ¬ tF T k = -1) : zM sc yX6_isLeaf cX6_isLeaf 2 (some .boolean) 2 0 0 [.ref 0, .int (nI (k))] (qh S X R T) (.inl (some (.int (zb (g_c_6_isLeaf k S X R T))))) (qh S X R T) := by
  refine zM.at (ls := [some (.ref 0), some (.int (nI (k)))]) zy_X6_isLeaf.2.2.2.2.2 (Nat.le_of_ble_eq_true rfl) rfl ?_
  refine z_aload_0 dX6_isLeaf_0 ?_
  refine z_iload_1 dX6_isLeaf_1 ?_
  refine Z.call0n (zRun.V (ρ := fun i => i) (k_c_6_checkNode k S X R T (by first | omega | assumption) (by first | omega | assumption) (by first | omega | assumption)) dX6_isLeaf_2 zy_X6_checkNode zm_X6_118 rfl rfl rfl rfl (Nat.le_of_ble_eq_true rfl) (by decide) (by decide)) (zlen2 14 rfl rfl) ?_
  refine z_aload_0 dX6_isLeaf_5 ?_
  refine z_get (k := 0) (v := .ref 1) dX6_isLeaf_6 rfl rfl rfl (by decide) zf_X6_10 zw_in6 ?_
  refine z_iload_1 dX6_isLeaf_9 ?_
  refine Z.shs (qh S X R T) (zRun.V (ρ := zsh 1) (k_isInner' T k (by first | omega | assumption) (by first | omega | assumption)) dX6_isLeaf_10 zy_X5_isInner zm_X6_121 rfl rfl rfl rfl (Nat.le_of_ble_eq_true rfl) (by decide) (by decide) (zsh_fix 1)) (zsh_inj (Nat.le_of_ble_eq_true rfl)) ⟨rfl, rfl, rfl, rfl, rfl, rfl, rfl, rfl, rfl, trivial⟩ (zlen2 9 rfl rfl) rfl rfl ?_
  refine z_ifB_ne (tgt := 20) dX6_isLeaf_13 (by decide) (fun c13 => ?_) (fun c13 => ?_)
  · refine z_iconst (v := 0) dX6_isLeaf_20 rfl ?_
    rw [g_c_6_isLeaf, if_pos c13]
    exact z_iret dX6_isLeaf_21 rfl rfl rfl rfl
  · refine z_iconst (v := 1) dX6_isLeaf_16 rfl ?_
    refine z_goto (tgt := 21) dX6_isLeaf_17 (by decide) ?_
    rw [g_c_6_isLeaf, if_neg c13]
    exact z_iret dX6_isLeaf_21 rfl rfl rfl rfl
theorem k_c_6_isLeaf_x1 (x : Int32) (S : ZS) (X : ZS) (R : ZS) (T : TS) (hx : ¬ tHas T x) : zM sc yX6_isLeaf cX6_isLeaf 2 (some .boolean) 9 1 6 [.ref 0, .int (x)] (qh S X R T) (.inr "java/lang/IndexOutOfBoundsException") (qh S X R T) := by
  refine zM.at (ls := [some (.ref 0), some (.int (x))]) zy_X6_isLeaf.2.2.2.2.2 (Nat.le_of_ble_eq_true rfl) rfl ?_
  refine z_aload_0 dX6_isLeaf_0 ?_
  refine z_iload_1 dX6_isLeaf_1 ?_
  exact Z.callX0 (zRun.V (ρ := fun i => i) (k_c_6_checkNode_x1 (x) S X R T hx) dX6_isLeaf_2 zy_X6_checkNode zm_X6_118 rfl rfl rfl rfl (Nat.le_of_ble_eq_true rfl) (by decide) (by decide)) (zlen2 14 rfl rfl) rfl rfl
noncomputable def g_c_6_firstIndex (k : Nat) (_S : ZS) (_X : ZS) (_R : ZS) (T : TS) : Int32 := tF T k
theorem k_c_6_firstIndex (k : Nat) (S : ZS) (X : ZS) (R : ZS) (T : TS) (h1 : 1 ≤ k) (h2 : k < 128) (h3 : ¬ tF T k = -1) : zM sc yX6_firstIndex cX6_firstIndex 2 (some .int) 2 0 0 [.ref 0, .int (nI (k))] (qh S X R T) (.inl (some (.int (g_c_6_firstIndex k S X R T)))) (qh S X R T) := by
  refine zM.at (ls := [some (.ref 0), some (.int (nI (k)))]) zy_X6_firstIndex.2.2.2.2.2 (Nat.le_of_ble_eq_true rfl) rfl ?_
  refine z_aload_0 dX6_firstIndex_0 ?_
  refine z_iload_1 dX6_firstIndex_1 ?_
  refine Z.call0n (zRun.V (ρ := fun i => i) (k_c_6_checkNode k S X R T (by first | omega | assumption) (by first | omega | assumption) (by first | omega | assumption)) dX6_firstIndex_2 zy_X6_checkNode zm_X6_118 rfl rfl rfl rfl (Nat.le_of_ble_eq_true rfl) (by decide) (by decide)) (zlen2 14 rfl rfl) ?_
  refine z_aload_0 dX6_firstIndex_5 ?_
  refine z_get (k := 0) (v := .ref 1) dX6_firstIndex_6 rfl rfl rfl (by decide) zf_X6_10 zw_in6 ?_
  refine z_iload_1 dX6_firstIndex_9 ?_
  refine Z.shs (qh S X R T) (zRun.V (ρ := zsh 1) (k_firstUnder T k (by first | omega | assumption) (by first | omega | assumption)) dX6_firstIndex_10 zy_X5_firstUnder zm_X6_202 rfl rfl rfl rfl (Nat.le_of_ble_eq_true rfl) (by decide) (by decide) (zsh_fix 1)) (zsh_inj (Nat.le_of_ble_eq_true rfl)) ⟨rfl, rfl, rfl, rfl, rfl, rfl, rfl, rfl, rfl, trivial⟩ (zlen2 9 rfl rfl) rfl rfl ?_
  rw [g_c_6_firstIndex]
  exact z_iret dX6_firstIndex_13 rfl (zint _) rfl rfl
theorem k_c_6_firstIndex_x1 (x : Int32) (S : ZS) (X : ZS) (R : ZS) (T : TS) (hx : ¬ tHas T x) : zM sc yX6_firstIndex cX6_firstIndex 2 (some .int) 9 1 6 [.ref 0, .int (x)] (qh S X R T) (.inr "java/lang/IndexOutOfBoundsException") (qh S X R T) := by
  refine zM.at (ls := [some (.ref 0), some (.int (x))]) zy_X6_firstIndex.2.2.2.2.2 (Nat.le_of_ble_eq_true rfl) rfl ?_
  refine z_aload_0 dX6_firstIndex_0 ?_
  refine z_iload_1 dX6_firstIndex_1 ?_
  exact Z.callX0 (zRun.V (ρ := fun i => i) (k_c_6_checkNode_x1 (x) S X R T hx) dX6_firstIndex_2 zy_X6_checkNode zm_X6_118 rfl rfl rfl rfl (Nat.le_of_ble_eq_true rfl) (by decide) (by decide)) (zlen2 14 rfl rfl) rfl rfl
noncomputable def g_c_6_lastIndex (k : Nat) (_S : ZS) (_X : ZS) (_R : ZS) (T : TS) : Int32 := tL T k
theorem k_c_6_lastIndex (k : Nat) (S : ZS) (X : ZS) (R : ZS) (T : TS) (h1 : 1 ≤ k) (h2 : k < 128) (h3 : ¬ tF T k = -1) : zM sc yX6_lastIndex cX6_lastIndex 2 (some .int) 2 0 0 [.ref 0, .int (nI (k))] (qh S X R T) (.inl (some (.int (g_c_6_lastIndex k S X R T)))) (qh S X R T) := by
  refine zM.at (ls := [some (.ref 0), some (.int (nI (k)))]) zy_X6_lastIndex.2.2.2.2.2 (Nat.le_of_ble_eq_true rfl) rfl ?_
  refine z_aload_0 dX6_lastIndex_0 ?_
  refine z_iload_1 dX6_lastIndex_1 ?_
  refine Z.call0n (zRun.V (ρ := fun i => i) (k_c_6_checkNode k S X R T (by first | omega | assumption) (by first | omega | assumption) (by first | omega | assumption)) dX6_lastIndex_2 zy_X6_checkNode zm_X6_118 rfl rfl rfl rfl (Nat.le_of_ble_eq_true rfl) (by decide) (by decide)) (zlen2 14 rfl rfl) ?_
  refine z_aload_0 dX6_lastIndex_5 ?_
  refine z_get (k := 0) (v := .ref 1) dX6_lastIndex_6 rfl rfl rfl (by decide) zf_X6_10 zw_in6 ?_
  refine z_iload_1 dX6_lastIndex_9 ?_
  refine Z.shs (qh S X R T) (zRun.V (ρ := zsh 1) (k_lastUnder T k (by first | omega | assumption) (by first | omega | assumption)) dX6_lastIndex_10 zy_X5_lastUnder zm_X6_205 rfl rfl rfl rfl (Nat.le_of_ble_eq_true rfl) (by decide) (by decide) (zsh_fix 1)) (zsh_inj (Nat.le_of_ble_eq_true rfl)) ⟨rfl, rfl, rfl, rfl, rfl, rfl, rfl, rfl, rfl, trivial⟩ (zlen2 9 rfl rfl) rfl rfl ?_
  rw [g_c_6_lastIndex]
  exact z_iret dX6_lastIndex_13 rfl (zint _) rfl rfl
theorem k_c_6_lastIndex_x1 (x : Int32) (S : ZS) (X : ZS) (R : ZS) (T : TS) (hx : ¬ tHas T x) : zM sc yX6_lastIndex cX6_lastIndex 2 (some .int) 9 1 6 [.ref 0, .int (x)] (qh S X R T) (.inr "java/lang/IndexOutOfBoundsException") (qh S X R T) := by
  refine zM.at (ls := [some (.ref 0), some (.int (x))]) zy_X6_lastIndex.2.2.2.2.2 (Nat.le_of_ble_eq_true rfl) rfl ?_
  refine z_aload_0 dX6_lastIndex_0 ?_
  refine z_iload_1 dX6_lastIndex_1 ?_
  exact Z.callX0 (zRun.V (ρ := fun i => i) (k_c_6_checkNode_x1 (x) S X R T hx) dX6_lastIndex_2 zy_X6_checkNode zm_X6_118 rfl rfl rfl rfl (Nat.le_of_ble_eq_true rfl) (by decide) (by decide)) (zlen2 14 rfl rfl) rfl rfl
noncomputable def g_c_6_storedSum (k : Nat) (_S : ZS) (_X : ZS) (_R : ZS) (T : TS) : Int64 := tS T k
theorem k_c_6_storedSum (k : Nat) (S : ZS) (X : ZS) (R : ZS) (T : TS) (h1 : 1 ≤ k) (h2 : k < 128) (h3 : ¬ tF T k = -1) : zM sc yX6_storedSum cX6_storedSum 2 (some .long) 2 0 0 [.ref 0, .int (nI (k))] (qh S X R T) (.inl (some (.long (g_c_6_storedSum k S X R T)))) (qh S X R T) := by
  refine zM.at (ls := [some (.ref 0), some (.int (nI (k)))]) zy_X6_storedSum.2.2.2.2.2 (Nat.le_of_ble_eq_true rfl) rfl ?_
  refine z_aload_0 dX6_storedSum_0 ?_
  refine z_iload_1 dX6_storedSum_1 ?_
  refine Z.call0n (zRun.V (ρ := fun i => i) (k_c_6_checkNode k S X R T (by first | omega | assumption) (by first | omega | assumption) (by first | omega | assumption)) dX6_storedSum_2 zy_X6_checkNode zm_X6_118 rfl rfl rfl rfl (Nat.le_of_ble_eq_true rfl) (by decide) (by decide)) (zlen2 14 rfl rfl) ?_
  refine z_aload_0 dX6_storedSum_5 ?_
  refine z_get (k := 0) (v := .ref 1) dX6_storedSum_6 rfl rfl rfl (by decide) zf_X6_10 zw_in6 ?_
  refine z_iload_1 dX6_storedSum_9 ?_
  refine Z.shs (qh S X R T) (zRun.V (ρ := zsh 1) (k_sumAt T k (by first | omega | assumption) (by first | omega | assumption)) dX6_storedSum_10 zy_X5_sumAt zm_X6_208 rfl rfl rfl rfl (Nat.le_of_ble_eq_true rfl) (by decide) (by decide) (zsh_fix 1)) (zsh_inj (Nat.le_of_ble_eq_true rfl)) ⟨rfl, rfl, rfl, rfl, rfl, rfl, rfl, rfl, rfl, trivial⟩ (zlen2 9 rfl rfl) rfl rfl ?_
  rw [g_c_6_storedSum]
  exact z_lret dX6_storedSum_13 rfl rfl rfl
theorem k_c_6_storedSum_x1 (x : Int32) (S : ZS) (X : ZS) (R : ZS) (T : TS) (hx : ¬ tHas T x) : zM sc yX6_storedSum cX6_storedSum 2 (some .long) 9 1 6 [.ref 0, .int (x)] (qh S X R T) (.inr "java/lang/IndexOutOfBoundsException") (qh S X R T) := by
  refine zM.at (ls := [some (.ref 0), some (.int (x))]) zy_X6_storedSum.2.2.2.2.2 (Nat.le_of_ble_eq_true rfl) rfl ?_
  refine z_aload_0 dX6_storedSum_0 ?_
  refine z_iload_1 dX6_storedSum_1 ?_
  exact Z.callX0 (zRun.V (ρ := fun i => i) (k_c_6_checkNode_x1 (x) S X R T hx) dX6_storedSum_2 zy_X6_checkNode zm_X6_118 rfl rfl rfl rfl (Nat.le_of_ble_eq_true rfl) (by decide) (by decide)) (zlen2 14 rfl rfl) rfl rfl
noncomputable def g_c_6_storedLeast (k : Nat) (_S : ZS) (_X : ZS) (_R : ZS) (T : TS) : Int32 := tlo T k
theorem k_c_6_storedLeast (k : Nat) (S : ZS) (X : ZS) (R : ZS) (T : TS) (h1 : 1 ≤ k) (h2 : k < 128) (h3 : ¬ tF T k = -1) : zM sc yX6_storedLeast cX6_storedLeast 2 (some .int) 2 0 0 [.ref 0, .int (nI (k))] (qh S X R T) (.inl (some (.int (g_c_6_storedLeast k S X R T)))) (qh S X R T) := by
  refine zM.at (ls := [some (.ref 0), some (.int (nI (k)))]) zy_X6_storedLeast.2.2.2.2.2 (Nat.le_of_ble_eq_true rfl) rfl ?_
  refine z_aload_0 dX6_storedLeast_0 ?_
  refine z_iload_1 dX6_storedLeast_1 ?_
  refine Z.call0n (zRun.V (ρ := fun i => i) (k_c_6_checkNode k S X R T (by first | omega | assumption) (by first | omega | assumption) (by first | omega | assumption)) dX6_storedLeast_2 zy_X6_checkNode zm_X6_118 rfl rfl rfl rfl (Nat.le_of_ble_eq_true rfl) (by decide) (by decide)) (zlen2 14 rfl rfl) ?_
  refine z_aload_0 dX6_storedLeast_5 ?_
  refine z_get (k := 0) (v := .ref 1) dX6_storedLeast_6 rfl rfl rfl (by decide) zf_X6_10 zw_in6 ?_
  refine z_iload_1 dX6_storedLeast_9 ?_
  refine Z.shs (qh S X R T) (zRun.V (ρ := zsh 1) (k_lowAt T k (by first | omega | assumption) (by first | omega | assumption)) dX6_storedLeast_10 zy_X5_lowAt zm_X6_212 rfl rfl rfl rfl (Nat.le_of_ble_eq_true rfl) (by decide) (by decide) (zsh_fix 1)) (zsh_inj (Nat.le_of_ble_eq_true rfl)) ⟨rfl, rfl, rfl, rfl, rfl, rfl, rfl, rfl, rfl, trivial⟩ (zlen2 9 rfl rfl) rfl rfl ?_
  rw [g_c_6_storedLeast]
  exact z_iret dX6_storedLeast_13 rfl (zint _) rfl rfl
theorem k_c_6_storedLeast_x1 (x : Int32) (S : ZS) (X : ZS) (R : ZS) (T : TS) (hx : ¬ tHas T x) : zM sc yX6_storedLeast cX6_storedLeast 2 (some .int) 9 1 6 [.ref 0, .int (x)] (qh S X R T) (.inr "java/lang/IndexOutOfBoundsException") (qh S X R T) := by
  refine zM.at (ls := [some (.ref 0), some (.int (x))]) zy_X6_storedLeast.2.2.2.2.2 (Nat.le_of_ble_eq_true rfl) rfl ?_
  refine z_aload_0 dX6_storedLeast_0 ?_
  refine z_iload_1 dX6_storedLeast_1 ?_
  exact Z.callX0 (zRun.V (ρ := fun i => i) (k_c_6_checkNode_x1 (x) S X R T hx) dX6_storedLeast_2 zy_X6_checkNode zm_X6_118 rfl rfl rfl rfl (Nat.le_of_ble_eq_true rfl) (by decide) (by decide)) (zlen2 14 rfl rfl) rfl rfl
noncomputable def g_c_6_storedGreatest (k : Nat) (_S : ZS) (_X : ZS) (_R : ZS) (T : TS) : Int32 := thi T k
theorem k_c_6_storedGreatest (k : Nat) (S : ZS) (X : ZS) (R : ZS) (T : TS) (h1 : 1 ≤ k) (h2 : k < 128) (h3 : ¬ tF T k = -1) : zM sc yX6_storedGreatest cX6_storedGreatest 2 (some .int) 2 0 0 [.ref 0, .int (nI (k))] (qh S X R T) (.inl (some (.int (g_c_6_storedGreatest k S X R T)))) (qh S X R T) := by
  refine zM.at (ls := [some (.ref 0), some (.int (nI (k)))]) zy_X6_storedGreatest.2.2.2.2.2 (Nat.le_of_ble_eq_true rfl) rfl ?_
  refine z_aload_0 dX6_storedGreatest_0 ?_
  refine z_iload_1 dX6_storedGreatest_1 ?_
  refine Z.call0n (zRun.V (ρ := fun i => i) (k_c_6_checkNode k S X R T (by first | omega | assumption) (by first | omega | assumption) (by first | omega | assumption)) dX6_storedGreatest_2 zy_X6_checkNode zm_X6_118 rfl rfl rfl rfl (Nat.le_of_ble_eq_true rfl) (by decide) (by decide)) (zlen2 14 rfl rfl) ?_
  refine z_aload_0 dX6_storedGreatest_5 ?_
  refine z_get (k := 0) (v := .ref 1) dX6_storedGreatest_6 rfl rfl rfl (by decide) zf_X6_10 zw_in6 ?_
  refine z_iload_1 dX6_storedGreatest_9 ?_
  refine Z.shs (qh S X R T) (zRun.V (ρ := zsh 1) (k_highAt T k (by first | omega | assumption) (by first | omega | assumption)) dX6_storedGreatest_10 zy_X5_highAt zm_X6_215 rfl rfl rfl rfl (Nat.le_of_ble_eq_true rfl) (by decide) (by decide) (zsh_fix 1)) (zsh_inj (Nat.le_of_ble_eq_true rfl)) ⟨rfl, rfl, rfl, rfl, rfl, rfl, rfl, rfl, rfl, trivial⟩ (zlen2 9 rfl rfl) rfl rfl ?_
  rw [g_c_6_storedGreatest]
  exact z_iret dX6_storedGreatest_13 rfl (zint _) rfl rfl
theorem k_c_6_storedGreatest_x1 (x : Int32) (S : ZS) (X : ZS) (R : ZS) (T : TS) (hx : ¬ tHas T x) : zM sc yX6_storedGreatest cX6_storedGreatest 2 (some .int) 9 1 6 [.ref 0, .int (x)] (qh S X R T) (.inr "java/lang/IndexOutOfBoundsException") (qh S X R T) := by
  refine zM.at (ls := [some (.ref 0), some (.int (x))]) zy_X6_storedGreatest.2.2.2.2.2 (Nat.le_of_ble_eq_true rfl) rfl ?_
  refine z_aload_0 dX6_storedGreatest_0 ?_
  refine z_iload_1 dX6_storedGreatest_1 ?_
  exact Z.callX0 (zRun.V (ρ := fun i => i) (k_c_6_checkNode_x1 (x) S X R T hx) dX6_storedGreatest_2 zy_X6_checkNode zm_X6_118 rfl rfl rfl rfl (Nat.le_of_ble_eq_true rfl) (by decide) (by decide)) (zlen2 14 rfl rfl) rfl rfl
noncomputable def g_c_6_markFactor (k : Nat) (_S : ZS) (_X : ZS) (_R : ZS) (T : TS) : Int32 := tfa T k
theorem k_c_6_markFactor (k : Nat) (S : ZS) (X : ZS) (R : ZS) (T : TS) (h1 : 1 ≤ k) (h2 : k < 128) (h3 : ¬ tF T k = -1) : zM sc yX6_markFactor cX6_markFactor 2 (some .int) 2 0 0 [.ref 0, .int (nI (k))] (qh S X R T) (.inl (some (.int (g_c_6_markFactor k S X R T)))) (qh S X R T) := by
  refine zM.at (ls := [some (.ref 0), some (.int (nI (k)))]) zy_X6_markFactor.2.2.2.2.2 (Nat.le_of_ble_eq_true rfl) rfl ?_
  refine z_aload_0 dX6_markFactor_0 ?_
  refine z_iload_1 dX6_markFactor_1 ?_
  refine Z.call0n (zRun.V (ρ := fun i => i) (k_c_6_checkNode k S X R T (by first | omega | assumption) (by first | omega | assumption) (by first | omega | assumption)) dX6_markFactor_2 zy_X6_checkNode zm_X6_118 rfl rfl rfl rfl (Nat.le_of_ble_eq_true rfl) (by decide) (by decide)) (zlen2 14 rfl rfl) ?_
  refine z_aload_0 dX6_markFactor_5 ?_
  refine z_get (k := 0) (v := .ref 1) dX6_markFactor_6 rfl rfl rfl (by decide) zf_X6_10 zw_in6 ?_
  refine z_iload_1 dX6_markFactor_9 ?_
  refine Z.shs (qh S X R T) (zRun.V (ρ := zsh 1) (k_factorAt T k (by first | omega | assumption) (by first | omega | assumption)) dX6_markFactor_10 zy_X5_factorAt zm_X6_218 rfl rfl rfl rfl (Nat.le_of_ble_eq_true rfl) (by decide) (by decide) (zsh_fix 1)) (zsh_inj (Nat.le_of_ble_eq_true rfl)) ⟨rfl, rfl, rfl, rfl, rfl, rfl, rfl, rfl, rfl, trivial⟩ (zlen2 9 rfl rfl) rfl rfl ?_
  rw [g_c_6_markFactor]
  exact z_iret dX6_markFactor_13 rfl (zint _) rfl rfl
theorem k_c_6_markFactor_x1 (x : Int32) (S : ZS) (X : ZS) (R : ZS) (T : TS) (hx : ¬ tHas T x) : zM sc yX6_markFactor cX6_markFactor 2 (some .int) 9 1 6 [.ref 0, .int (x)] (qh S X R T) (.inr "java/lang/IndexOutOfBoundsException") (qh S X R T) := by
  refine zM.at (ls := [some (.ref 0), some (.int (x))]) zy_X6_markFactor.2.2.2.2.2 (Nat.le_of_ble_eq_true rfl) rfl ?_
  refine z_aload_0 dX6_markFactor_0 ?_
  refine z_iload_1 dX6_markFactor_1 ?_
  exact Z.callX0 (zRun.V (ρ := fun i => i) (k_c_6_checkNode_x1 (x) S X R T hx) dX6_markFactor_2 zy_X6_checkNode zm_X6_118 rfl rfl rfl rfl (Nat.le_of_ble_eq_true rfl) (by decide) (by decide)) (zlen2 14 rfl rfl) rfl rfl
noncomputable def g_c_6_markOffset (k : Nat) (_S : ZS) (_X : ZS) (_R : ZS) (T : TS) : Int32 := tog T k
theorem k_c_6_markOffset (k : Nat) (S : ZS) (X : ZS) (R : ZS) (T : TS) (h1 : 1 ≤ k) (h2 : k < 128) (h3 : ¬ tF T k = -1) : zM sc yX6_markOffset cX6_markOffset 2 (some .int) 2 0 0 [.ref 0, .int (nI (k))] (qh S X R T) (.inl (some (.int (g_c_6_markOffset k S X R T)))) (qh S X R T) := by
  refine zM.at (ls := [some (.ref 0), some (.int (nI (k)))]) zy_X6_markOffset.2.2.2.2.2 (Nat.le_of_ble_eq_true rfl) rfl ?_
  refine z_aload_0 dX6_markOffset_0 ?_
  refine z_iload_1 dX6_markOffset_1 ?_
  refine Z.call0n (zRun.V (ρ := fun i => i) (k_c_6_checkNode k S X R T (by first | omega | assumption) (by first | omega | assumption) (by first | omega | assumption)) dX6_markOffset_2 zy_X6_checkNode zm_X6_118 rfl rfl rfl rfl (Nat.le_of_ble_eq_true rfl) (by decide) (by decide)) (zlen2 14 rfl rfl) ?_
  refine z_aload_0 dX6_markOffset_5 ?_
  refine z_get (k := 0) (v := .ref 1) dX6_markOffset_6 rfl rfl rfl (by decide) zf_X6_10 zw_in6 ?_
  refine z_iload_1 dX6_markOffset_9 ?_
  refine Z.shs (qh S X R T) (zRun.V (ρ := zsh 1) (k_offsetAt T k (by first | omega | assumption) (by first | omega | assumption)) dX6_markOffset_10 zy_X5_offsetAt zm_X6_221 rfl rfl rfl rfl (Nat.le_of_ble_eq_true rfl) (by decide) (by decide) (zsh_fix 1)) (zsh_inj (Nat.le_of_ble_eq_true rfl)) ⟨rfl, rfl, rfl, rfl, rfl, rfl, rfl, rfl, rfl, trivial⟩ (zlen2 9 rfl rfl) rfl rfl ?_
  rw [g_c_6_markOffset]
  exact z_iret dX6_markOffset_13 rfl (zint _) rfl rfl
theorem k_c_6_markOffset_x1 (x : Int32) (S : ZS) (X : ZS) (R : ZS) (T : TS) (hx : ¬ tHas T x) : zM sc yX6_markOffset cX6_markOffset 2 (some .int) 9 1 6 [.ref 0, .int (x)] (qh S X R T) (.inr "java/lang/IndexOutOfBoundsException") (qh S X R T) := by
  refine zM.at (ls := [some (.ref 0), some (.int (x))]) zy_X6_markOffset.2.2.2.2.2 (Nat.le_of_ble_eq_true rfl) rfl ?_
  refine z_aload_0 dX6_markOffset_0 ?_
  refine z_iload_1 dX6_markOffset_1 ?_
  exact Z.callX0 (zRun.V (ρ := fun i => i) (k_c_6_checkNode_x1 (x) S X R T hx) dX6_markOffset_2 zy_X6_checkNode zm_X6_118 rfl rfl rfl rfl (Nat.le_of_ble_eq_true rfl) (by decide) (by decide)) (zlen2 14 rfl rfl) rfl rfl
noncomputable def g_c_6_mean (_n : Nat) (a : Nat) (b : Nat) (S : ZS) (X : ZS) (R : ZS) (T : TS) : UInt64 := FP.ddiv (FP.l2d (g_c_6_totalOf a b S X R T)) (FP.i2d (nI ((b - a) + 1)))
theorem k_c_6_mean (n : Nat) (a : Nat) (b : Nat) (S : ZS) (X : ZS) (R : ZS) (T : TS) (hn : tn T = nI n) (h40 : n ≤ 40) (hab : a ≤ b) (hbn : b < n) (hnan : vf_n64 (FP.ddiv (FP.l2d (g_c_6_totalOf a b S X R T)) (FP.i2d (nI (b - a + 1))))) : zM sc yX6_mean cX6_mean 3 (some .double) 3 0 0 [.ref 0, .int (nI (a)), .int (nI (b))] (qh S X R T) (.inl (some (.double (g_c_6_mean n a b S X R T)))) (qh S X R T) := by
  refine zM.at (ls := [some (.ref 0), some (.int (nI (a))), some (.int (nI (b)))]) zy_X6_mean.2.2.2.2.2 (Nat.le_of_ble_eq_true rfl) rfl ?_
  refine z_aload_0 dX6_mean_0 ?_
  refine z_iload_1 dX6_mean_1 ?_
  refine z_iload_2 dX6_mean_2 ?_
  refine Z.call0n (zRun.V (ρ := fun i => i) (k_c_6_checkRange n a b S X R T (by first | omega | assumption) (by first | omega | assumption) (by first | omega | assumption) (by first | omega | assumption)) dX6_mean_3 zy_X6_checkRange zm_X6_102 rfl rfl rfl rfl (Nat.le_of_ble_eq_true rfl) (by decide) (by decide)) (zlen2 14 rfl rfl) ?_
  refine z_aload_0 dX6_mean_6 ?_
  refine z_iload_1 dX6_mean_7 ?_
  refine z_iload_2 dX6_mean_8 ?_
  refine Z.call0s (zRun.V (ρ := fun i => i) (k_c_6_totalOf a b S X R T (by omega) (by omega)) dX6_mean_9 zy_X6_totalOf zm_X6_167 rfl rfl rfl rfl (Nat.le_of_ble_eq_true rfl) (by decide) (by decide)) (zlen2 14 rfl rfl) ?_
  refine z_l2d dX6_mean_12 ?_
  refine z_iload_2 dX6_mean_13 ?_
  refine z_iload_1 dX6_mean_14 ?_
  refine z_isub dX6_mean_15 ?_
  refine z_topi (w := nI (b - a)) (pk_sub (a := b) (b := a) (by first | omega | assumption)) ?_
  refine z_iconst (v := 1) dX6_mean_16 rfl ?_
  refine z_iadd dX6_mean_17 ?_
  refine z_topi (w := nI ((b - a) + 1)) (nI_add _ _) ?_
  refine z_i2d dX6_mean_18 ?_
  refine z_ddiv (hn := hnan) dX6_mean_19 ?_
  rw [g_c_6_mean]
  exact z_dret dX6_mean_20 rfl rfl rfl
theorem k_c_6_mean_x1 (n : Nat) (x : Int32) (z : Int32) (S : ZS) (X : ZS) (R : ZS) (T : TS) (hn : tn T = nI n) (h40 : n ≤ 40) (hx : ¬ (tIx T x ∧ tIx T z)) : zM sc yX6_mean cX6_mean 3 (some .double) 10 1 6 [.ref 0, .int (x), .int (z)] (qh S X R T) (.inr "java/lang/IndexOutOfBoundsException") (qh S X R T) := by
  refine zM.at (ls := [some (.ref 0), some (.int (x)), some (.int (z))]) zy_X6_mean.2.2.2.2.2 (Nat.le_of_ble_eq_true rfl) rfl ?_
  refine z_aload_0 dX6_mean_0 ?_
  refine z_iload_1 dX6_mean_1 ?_
  refine z_iload_2 dX6_mean_2 ?_
  exact Z.callX0 (zRun.V (ρ := fun i => i) (k_c_6_checkRange_x1 n (x) (z) S X R T hn h40 hx) dX6_mean_3 zy_X6_checkRange zm_X6_102 rfl rfl rfl rfl (Nat.le_of_ble_eq_true rfl) (by decide) (by decide)) (zlen2 14 rfl rfl) rfl rfl
theorem k_c_6_mean_x2 (n : Nat) (x : Int32) (z : Int32) (S : ZS) (X : ZS) (R : ZS) (T : TS) (hn : tn T = nI n) (h40 : n ≤ 40) (hx : tIx T x) (hz : tIx T z) (hzx : z < x) : zM sc yX6_mean cX6_mean 3 (some .double) 10 1 6 [.ref 0, .int (x), .int (z)] (qh S X R T) (.inr "java/lang/IllegalArgumentException") (qh S X R T) := by
  refine zM.at (ls := [some (.ref 0), some (.int (x)), some (.int (z))]) zy_X6_mean.2.2.2.2.2 (Nat.le_of_ble_eq_true rfl) rfl ?_
  refine z_aload_0 dX6_mean_0 ?_
  refine z_iload_1 dX6_mean_1 ?_
  refine z_iload_2 dX6_mean_2 ?_
  exact Z.callX0 (zRun.V (ρ := fun i => i) (k_c_6_checkRange_x2 n (x) (z) S X R T hn h40 hx hz hzx) dX6_mean_3 zy_X6_checkRange zm_X6_102 rfl rfl rfl rfl (Nat.le_of_ble_eq_true rfl) (by decide) (by decide)) (zlen2 14 rfl rfl) rfl rfl
noncomputable def g_c_6_greatestShare (_n : Nat) (a : Nat) (b : Nat) (S : ZS) (X : ZS) (R : ZS) (T : TS) : UInt32 := FP.fdiv (FP.i2f ((g_c_6_countOf a b (tMaxF (tva T) (b - a) (a + 1) (tva T a)) S X R T))) (FP.i2f (nI ((b - a) + 1)))
theorem k_c_6_greatestShare (n : Nat) (a : Nat) (b : Nat) (S : ZS) (X : ZS) (R : ZS) (T : TS) (hn : tn T = nI n) (h40 : n ≤ 40) (hab : a ≤ b) (hbn : b < n) (hnan : vf_n32 (FP.fdiv (FP.i2f (g_c_6_countOf a b (tMaxF (tva T) (b - a) (a + 1) (tva T a)) S X R T)) (FP.i2f (nI (b - a + 1))))) : zM sc yX6_greatestShare cX6_greatestShare 4 (some .float) 3 0 0 [.ref 0, .int (nI (a)), .int (nI (b))] (qh S X R T) (.inl (some (.float (g_c_6_greatestShare n a b S X R T)))) (qh S X R T) := by
  refine zM.at (ls := [some (.ref 0), some (.int (nI (a))), some (.int (nI (b))), none]) zy_X6_greatestShare.2.2.2.2.2 (Nat.le_of_ble_eq_true rfl) rfl ?_
  refine z_aload_0 dX6_greatestShare_0 ?_
  refine z_iload_1 dX6_greatestShare_1 ?_
  refine z_iload_2 dX6_greatestShare_2 ?_
  refine Z.call0n (zRun.V (ρ := fun i => i) (k_c_6_checkRange n a b S X R T (by first | omega | assumption) (by first | omega | assumption) (by first | omega | assumption) (by first | omega | assumption)) dX6_greatestShare_3 zy_X6_checkRange zm_X6_102 rfl rfl rfl rfl (Nat.le_of_ble_eq_true rfl) (by decide) (by decide)) (zlen2 14 rfl rfl) ?_
  refine z_aload_0 dX6_greatestShare_6 ?_
  refine z_iload_1 dX6_greatestShare_7 ?_
  refine z_iload_2 dX6_greatestShare_8 ?_
  refine z_aload_0 dX6_greatestShare_9 ?_
  refine z_get (k := 0) (v := .ref 1) dX6_greatestShare_10 rfl rfl rfl (by decide) zf_X6_10 zw_in6 ?_
  refine z_iload_1 dX6_greatestShare_13 ?_
  refine z_iload_2 dX6_greatestShare_14 ?_
  refine Z.shs (qh S X R T) (zRun.V (ρ := zsh 1) (k_greatestOf T a b (by first | omega | assumption) (by first | omega | assumption)) dX6_greatestShare_15 zy_X5_greatestOf zm_X6_175 rfl rfl rfl rfl (Nat.le_of_ble_eq_true rfl) (by decide) (by decide) (zsh_fix 1)) (zsh_inj (Nat.le_of_ble_eq_true rfl)) ⟨rfl, rfl, rfl, rfl, rfl, rfl, rfl, rfl, rfl, trivial⟩ (zlen2 9 rfl rfl) rfl rfl ?_
  refine Z.call0s (zRun.V (ρ := fun i => i) (k_c_6_countOf a b (tMaxF (tva T) (b - a) (a + 1) (tva T a)) S X R T (by omega) (by omega)) dX6_greatestShare_18 zy_X6_countOf zm_X6_182 rfl rfl rfl rfl (Nat.le_of_ble_eq_true rfl) (by decide) (by decide)) (zlen2 14 rfl rfl) ?_
  refine z_istore_3 dX6_greatestShare_21 rfl (by decide) ?_
  refine z_iload_3 dX6_greatestShare_22 ?_
  refine z_i2f dX6_greatestShare_23 ?_
  refine z_iload_2 dX6_greatestShare_24 ?_
  refine z_iload_1 dX6_greatestShare_25 ?_
  refine z_isub dX6_greatestShare_26 ?_
  refine z_topi (w := nI (b - a)) (pk_sub (a := b) (b := a) (by first | omega | assumption)) ?_
  refine z_iconst (v := 1) dX6_greatestShare_27 rfl ?_
  refine z_iadd dX6_greatestShare_28 ?_
  refine z_topi (w := nI ((b - a) + 1)) (nI_add _ _) ?_
  refine z_i2f dX6_greatestShare_29 ?_
  refine z_fdiv (hn := hnan) dX6_greatestShare_30 ?_
  rw [g_c_6_greatestShare]
  exact z_fret dX6_greatestShare_31 rfl rfl rfl
theorem k_c_6_greatestShare_x1 (n : Nat) (x : Int32) (z : Int32) (S : ZS) (X : ZS) (R : ZS) (T : TS) (hn : tn T = nI n) (h40 : n ≤ 40) (hx : ¬ (tIx T x ∧ tIx T z)) : zM sc yX6_greatestShare cX6_greatestShare 4 (some .float) 10 1 6 [.ref 0, .int (x), .int (z)] (qh S X R T) (.inr "java/lang/IndexOutOfBoundsException") (qh S X R T) := by
  refine zM.at (ls := [some (.ref 0), some (.int (x)), some (.int (z)), none]) zy_X6_greatestShare.2.2.2.2.2 (Nat.le_of_ble_eq_true rfl) rfl ?_
  refine z_aload_0 dX6_greatestShare_0 ?_
  refine z_iload_1 dX6_greatestShare_1 ?_
  refine z_iload_2 dX6_greatestShare_2 ?_
  exact Z.callX0 (zRun.V (ρ := fun i => i) (k_c_6_checkRange_x1 n (x) (z) S X R T hn h40 hx) dX6_greatestShare_3 zy_X6_checkRange zm_X6_102 rfl rfl rfl rfl (Nat.le_of_ble_eq_true rfl) (by decide) (by decide)) (zlen2 14 rfl rfl) rfl rfl
theorem k_c_6_greatestShare_x2 (n : Nat) (x : Int32) (z : Int32) (S : ZS) (X : ZS) (R : ZS) (T : TS) (hn : tn T = nI n) (h40 : n ≤ 40) (hx : tIx T x) (hz : tIx T z) (hzx : z < x) : zM sc yX6_greatestShare cX6_greatestShare 4 (some .float) 10 1 6 [.ref 0, .int (x), .int (z)] (qh S X R T) (.inr "java/lang/IllegalArgumentException") (qh S X R T) := by
  refine zM.at (ls := [some (.ref 0), some (.int (x)), some (.int (z)), none]) zy_X6_greatestShare.2.2.2.2.2 (Nat.le_of_ble_eq_true rfl) rfl ?_
  refine z_aload_0 dX6_greatestShare_0 ?_
  refine z_iload_1 dX6_greatestShare_1 ?_
  refine z_iload_2 dX6_greatestShare_2 ?_
  exact Z.callX0 (zRun.V (ρ := fun i => i) (k_c_6_checkRange_x2 n (x) (z) S X R T hn h40 hx hz hzx) dX6_greatestShare_3 zy_X6_checkRange zm_X6_102 rfl rfl rfl rfl (Nat.le_of_ble_eq_true rfl) (by decide) (by decide)) (zlen2 14 rfl rfl) rfl rfl
