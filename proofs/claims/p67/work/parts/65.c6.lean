variable {sc : SC}
noncomputable def g_c_6_element (_n : Nat) (f : Nat) (_S : ZS) (_X : ZS) (_R : ZS) (T : TS) : Int32 := tva T f
theorem k_c_6_element (n : Nat) (f : Nat) (S : ZS) (X : ZS) (R : ZS) (T : TS) (hn : tn T = nI n) (h40 : n ≤ 40) (hf : f < n) : zM sc yX6_element cX6_element 2 (some .int) 2 0 0 [.ref 0, .int (nI (f))] (qh S X R T) (.inl (some (.int (g_c_6_element n f S X R T)))) (qh S X R T) := by
  refine zM.at (ls := [some (.ref 0), some (.int (nI (f)))]) zy_X6_element.2.2.2.2.2 (Nat.le_of_ble_eq_true rfl) rfl ?_
  refine z_aload_0 dX6_element_0 ?_
  refine z_iload_1 dX6_element_1 ?_
  refine Z.call0n (zRun.V (ρ := fun i => i) (k_c_6_checkIndex n f S X R T (by first | omega | assumption) (by first | omega | assumption) (by first | omega | assumption)) dX6_element_2 zy_X6_checkIndex zm_X6_164 rfl rfl rfl rfl (Nat.le_of_ble_eq_true rfl) (by decide) (by decide)) (zlen2 14 rfl rfl) ?_
  refine z_aload_0 dX6_element_5 ?_
  refine z_get (k := 0) (v := .ref 1) dX6_element_6 rfl rfl rfl (by decide) zf_X6_10 zw_in6 ?_
  refine z_iload_1 dX6_element_9 ?_
  refine Z.shs (qh S X R T) (zRun.V (ρ := zsh 1) (k_valueAt T f (by first | omega | assumption)) dX6_element_10 zy_X5_valueAt zm_X6_140 rfl rfl rfl rfl (Nat.le_of_ble_eq_true rfl) (by decide) (by decide) (zsh_fix 1)) (zsh_inj (Nat.le_of_ble_eq_true rfl)) ⟨rfl, rfl, rfl, rfl, rfl, rfl, rfl, rfl, rfl, trivial⟩ (zlen2 9 rfl rfl) rfl rfl ?_
  rw [g_c_6_element]
  exact z_iret dX6_element_13 rfl (zint _) rfl rfl
noncomputable def g_c_6_leafOf (_n : Nat) (f : Nat) (_S : ZS) (_X : ZS) (_R : ZS) (T : TS) : Nat := tLeaf T (nI (f))
theorem k_c_6_leafOf (n : Nat) (f : Nat) (S : ZS) (X : ZS) (R : ZS) (T : TS) (hn : tn T = nI n) (h40 : n ≤ 40) (hf : f < n) : zM sc yX6_leafOf cX6_leafOf 2 (some .int) 2 0 0 [.ref 0, .int (nI (f))] (qh S X R T) (.inl (some (.int (nI (g_c_6_leafOf n f S X R T))))) (qh S X R T) := by
  refine zM.at (ls := [some (.ref 0), some (.int (nI (f)))]) zy_X6_leafOf.2.2.2.2.2 (Nat.le_of_ble_eq_true rfl) rfl ?_
  refine z_aload_0 dX6_leafOf_0 ?_
  refine z_iload_1 dX6_leafOf_1 ?_
  refine Z.call0n (zRun.V (ρ := fun i => i) (k_c_6_checkIndex n f S X R T (by first | omega | assumption) (by first | omega | assumption) (by first | omega | assumption)) dX6_leafOf_2 zy_X6_checkIndex zm_X6_164 rfl rfl rfl rfl (Nat.le_of_ble_eq_true rfl) (by decide) (by decide)) (zlen2 14 rfl rfl) ?_
  refine z_aload_0 dX6_leafOf_5 ?_
  refine z_get (k := 0) (v := .ref 1) dX6_leafOf_6 rfl rfl rfl (by decide) zf_X6_10 zw_in6 ?_
  refine z_iload_1 dX6_leafOf_9 ?_
  refine Z.shs (qh S X R T) (zRun.V (ρ := zsh 1) (k_leafAt T (nI (f))) dX6_leafOf_10 zy_X5_leafAt zm_X6_196 rfl rfl rfl rfl (Nat.le_of_ble_eq_true rfl) (by decide) (by decide) (zsh_fix 1)) (zsh_inj (Nat.le_of_ble_eq_true rfl)) ⟨rfl, rfl, rfl, rfl, rfl, rfl, rfl, rfl, rfl, trivial⟩ (zlen2 9 rfl rfl) rfl rfl ?_
  rw [g_c_6_leafOf]
  exact z_iret dX6_leafOf_13 rfl (zint _) rfl rfl
noncomputable def g_c_6_marksAbove_L (n : Nat) (f : Nat) : Nat → Nat → Int32 → ZS → ZS → ZS → TS → Int32
  | 0, _, c, _, _, _, _ => c
  | fu + 1, m, c, S, X, R, T => (if m < 1 then c else (if (decide (¬ tfa T m = 1 ∨ ¬ tog T m = 0)) = true then g_c_6_marksAbove_L n f fu (m / 2) (c + 1) S X R T else g_c_6_marksAbove_L n f fu (m / 2) c S X R T))
theorem l_g_c_6_marksAbove_L (n : Nat) (f : Nat) : ∀ (fu : Nat) (m : Nat) (c : Int32) (S : ZS) (X : ZS) (R : ZS) (T : TS) , (m < 2 ^ fu) → (m < 128) → Z sc yX6_marksAbove cX6_marksAbove 4 (some .int) 2 0 0 18 [some (.ref 0), some (.int (nI (f))), some (.int (c)), some (.int (nI (m)))] [] (qh S X R T) (.inl (some (.int (g_c_6_marksAbove_L n f fu m c S X R T)))) (qh S X R T) := by
  intro fu
  induction fu with
  | zero =>
    intro m c S X R T hm hm8
    refine z_iload_3 dX6_marksAbove_18 ?_
    refine z_iconst (v := 1) dX6_marksAbove_19 rfl ?_
    refine z_icmpN_lt_t (tgt := 44) dX6_marksAbove_20 (by decide) (x := m) (z := 1) (by first | omega | assumption) (by first | omega | assumption) (show m < 1 from hm) ?_
    refine z_iload_2 dX6_marksAbove_44 ?_
    rw [g_c_6_marksAbove_L]
    exact z_iret dX6_marksAbove_45 rfl (zint _) rfl rfl
  | succ fu ih =>
    intro m c S X R T hm hm8
    refine z_iload_3 dX6_marksAbove_18 ?_
    refine z_iconst (v := 1) dX6_marksAbove_19 rfl ?_
    refine z_icmpN_lt (tgt := 44) dX6_marksAbove_20 (by decide) (x := m) (z := 1) (by first | omega | assumption) (by first | omega | assumption) (fun c20 => ?_) (fun c20 => ?_)
    · refine z_iload_2 dX6_marksAbove_44 ?_
      rw [g_c_6_marksAbove_L, if_pos c20]
      exact z_iret dX6_marksAbove_45 rfl (zint _) rfl rfl
    · refine z_aload_0 dX6_marksAbove_23 ?_
      refine z_get (k := 0) (v := .ref 1) dX6_marksAbove_24 rfl rfl rfl (by decide) zf_X6_10 zw_in6 ?_
      refine z_iload_3 dX6_marksAbove_27 ?_
      refine Z.shs (qh S X R T) (zRun.V (ρ := zsh 1) (k_isMarked T m (by first | omega | assumption) (by first | omega | assumption)) dX6_marksAbove_28 zy_X5_isMarked zm_X6_224 rfl rfl rfl rfl (Nat.le_of_ble_eq_true rfl) (by decide) (by decide) (zsh_fix 1)) (zsh_inj (Nat.le_of_ble_eq_true rfl)) ⟨rfl, rfl, rfl, rfl, rfl, rfl, rfl, rfl, rfl, trivial⟩ (zlen2 9 rfl rfl) rfl rfl ?_
      refine z_ifB_eq (tgt := 37) dX6_marksAbove_31 (by decide) (fun c31 => ?_) (fun c31 => ?_)
      · refine z_iload_3 dX6_marksAbove_37 ?_
        refine z_iconst (v := 2) dX6_marksAbove_38 rfl ?_
        refine z_idiv dX6_marksAbove_39 (by decide) ?_
        refine z_topi (w := nI (m / 2)) (pk_div (by first | omega | assumption) (by decide) (by decide)) ?_
        refine z_istore_3 dX6_marksAbove_40 rfl (by decide) ?_
        refine z_goto (tgt := 18) dX6_marksAbove_41 (by decide) ?_
        rw [g_c_6_marksAbove_L, if_neg c20, if_neg c31]
        exact ih (m / 2) c S X R T (by rw [Nat.pow_succ] at hm; omega) (by first | omega | assumption)
      · refine z_iinc_2 (v := c + 1) dX6_marksAbove_34 rfl rfl (by decide) ?_
        refine z_iload_3 dX6_marksAbove_37 ?_
        refine z_iconst (v := 2) dX6_marksAbove_38 rfl ?_
        refine z_idiv dX6_marksAbove_39 (by decide) ?_
        refine z_topi (w := nI (m / 2)) (pk_div (by first | omega | assumption) (by decide) (by decide)) ?_
        refine z_istore_3 dX6_marksAbove_40 rfl (by decide) ?_
        refine z_goto (tgt := 18) dX6_marksAbove_41 (by decide) ?_
        rw [g_c_6_marksAbove_L, if_neg c20, if_pos c31]
        exact ih (m / 2) (c + 1) S X R T (by rw [Nat.pow_succ] at hm; omega) (by first | omega | assumption)
noncomputable def g_c_6_marksAbove (n : Nat) (f : Nat) (S : ZS) (X : ZS) (R : ZS) (T : TS) : Int32 := g_c_6_marksAbove_L n f 7 ((tLeaf T (nI (f))) / 2) 0 S X R T
theorem k_c_6_marksAbove (n : Nat) (f : Nat) (S : ZS) (X : ZS) (R : ZS) (T : TS) (hn : tn T = nI n) (h40 : n ≤ 40) (hf : f < n) : zM sc yX6_marksAbove cX6_marksAbove 4 (some .int) 2 0 0 [.ref 0, .int (nI (f))] (qh S X R T) (.inl (some (.int (g_c_6_marksAbove n f S X R T)))) (qh S X R T) := by
  refine zM.at (ls := [some (.ref 0), some (.int (nI (f))), none, none]) zy_X6_marksAbove.2.2.2.2.2 (Nat.le_of_ble_eq_true rfl) rfl ?_
  have h9 := (tLeaf_in T (nI f)).2
  refine z_aload_0 dX6_marksAbove_0 ?_
  refine z_iload_1 dX6_marksAbove_1 ?_
  refine Z.call0n (zRun.V (ρ := fun i => i) (k_c_6_checkIndex n f S X R T (by first | omega | assumption) (by first | omega | assumption) (by first | omega | assumption)) dX6_marksAbove_2 zy_X6_checkIndex zm_X6_164 rfl rfl rfl rfl (Nat.le_of_ble_eq_true rfl) (by decide) (by decide)) (zlen2 14 rfl rfl) ?_
  refine z_iconst (v := 0) dX6_marksAbove_5 rfl ?_
  refine z_istore_2 dX6_marksAbove_6 rfl (by decide) ?_
  refine z_aload_0 dX6_marksAbove_7 ?_
  refine z_get (k := 0) (v := .ref 1) dX6_marksAbove_8 rfl rfl rfl (by decide) zf_X6_10 zw_in6 ?_
  refine z_iload_1 dX6_marksAbove_11 ?_
  refine Z.shs (qh S X R T) (zRun.V (ρ := zsh 1) (k_leafAt T (nI (f))) dX6_marksAbove_12 zy_X5_leafAt zm_X6_196 rfl rfl rfl rfl (Nat.le_of_ble_eq_true rfl) (by decide) (by decide) (zsh_fix 1)) (zsh_inj (Nat.le_of_ble_eq_true rfl)) ⟨rfl, rfl, rfl, rfl, rfl, rfl, rfl, rfl, rfl, trivial⟩ (zlen2 9 rfl rfl) rfl rfl ?_
  refine z_iconst (v := 2) dX6_marksAbove_15 rfl ?_
  refine z_idiv dX6_marksAbove_16 (by decide) ?_
  refine z_topi (w := nI ((tLeaf T (nI (f))) / 2)) (pk_div (by first | omega | assumption) (by decide) (by decide)) ?_
  refine z_istore_3 dX6_marksAbove_17 rfl (by decide) ?_
  rw [g_c_6_marksAbove]
  exact l_g_c_6_marksAbove_L n f 7 ((tLeaf T (nI (f))) / 2) 0 S X R T (by have := (tLeaf_in T (nI f)).2; omega) (by have := (tLeaf_in T (nI f)).2; omega)
noncomputable def g_c_6_elementCount (n : Nat) (_S : ZS) (_X : ZS) (_R : ZS) (_T : TS) : Int32 := nI (n)
theorem k_c_6_elementCount (n : Nat) (S : ZS) (X : ZS) (R : ZS) (T : TS) (hn : tn T = nI n) (h40 : n ≤ 40) : zM sc yX6_elementCount cX6_elementCount 1 (some .int) 1 0 0 [.ref 0] (qh S X R T) (.inl (some (.int (g_c_6_elementCount n S X R T)))) (qh S X R T) := by
  refine zM.at (ls := [some (.ref 0)]) zy_X6_elementCount.2.2.2.2.2 (Nat.le_of_ble_eq_true rfl) rfl ?_
  refine z_aload_0 dX6_elementCount_0 ?_
  refine z_get (k := 0) (v := .ref 1) dX6_elementCount_1 rfl rfl rfl (by decide) zf_X6_10 zw_in6 ?_
  refine Z.shs (qh S X R T) (zRun.V (ρ := zsh 1) (k_size T) dX6_elementCount_4 zy_X5_size zm_X6_99 rfl rfl rfl rfl (Nat.le_of_ble_eq_true rfl) (by decide) (by decide) (zsh_fix 1)) (zsh_inj (Nat.le_of_ble_eq_true rfl)) ⟨rfl, rfl, rfl, rfl, rfl, rfl, rfl, rfl, rfl, trivial⟩ (zlen2 9 rfl rfl) rfl rfl ?_
  refine z_topi (w := nI (n)) hn ?_
  rw [g_c_6_elementCount]
  exact z_iret dX6_elementCount_7 rfl (zint _) rfl rfl
noncomputable def g_c_6_markedNodes_L (n : Nat) : Nat → Int32 → Nat → ZS → ZS → ZS → TS → Int32
  | 0, c, _, _, _, _, _ => c
  | fu + 1, c, k, S, X, R, T => (if (decide (¬ tfa T k = 1 ∨ ¬ tog T k = 0)) = true then g_c_6_markedNodes_L n fu (c + 1) (k + 1) S X R T else g_c_6_markedNodes_L n fu c (k + 1) S X R T)
theorem l_g_c_6_markedNodes_L (n : Nat) : ∀ (fu : Nat) (c : Int32) (k : Nat) (S : ZS) (X : ZS) (R : ZS) (T : TS) , (k + fu = 128) → (1 ≤ k) → Z sc yX6_markedNodes cX6_markedNodes 3 (some .int) 1 0 0 4 [some (.ref 0), some (.int (c)), some (.int (nI (k)))] [] (qh S X R T) (.inl (some (.int (g_c_6_markedNodes_L n fu c k S X R T)))) (qh S X R T) := by
  intro fu
  induction fu with
  | zero =>
    intro c k S X R T hk hk1
    refine z_iload_2 dX6_markedNodes_4 ?_
    refine z_sipush (v := 128) dX6_markedNodes_5 rfl ?_
    refine z_icmpN_ge_t (tgt := 31) dX6_markedNodes_8 (by decide) (x := k) (z := 128) (by first | omega | assumption) (by first | omega | assumption) (by omega) ?_
    refine z_iload_1 dX6_markedNodes_31 ?_
    rw [g_c_6_markedNodes_L]
    exact z_iret dX6_markedNodes_32 rfl (zint _) rfl rfl
  | succ fu ih =>
    intro c k S X R T hk hk1
    refine z_iload_2 dX6_markedNodes_4 ?_
    refine z_sipush (v := 128) dX6_markedNodes_5 rfl ?_
    refine z_icmpN_ge_f (tgt := 31) dX6_markedNodes_8 (by decide) (x := k) (z := 128) (by first | omega | assumption) (by first | omega | assumption) (by omega) ?_
    refine z_aload_0 dX6_markedNodes_11 ?_
    refine z_get (k := 0) (v := .ref 1) dX6_markedNodes_12 rfl rfl rfl (by decide) zf_X6_10 zw_in6 ?_
    refine z_iload_2 dX6_markedNodes_15 ?_
    refine Z.shs (qh S X R T) (zRun.V (ρ := zsh 1) (k_isMarked T k (by first | omega | assumption) (by first | omega | assumption)) dX6_markedNodes_16 zy_X5_isMarked zm_X6_224 rfl rfl rfl rfl (Nat.le_of_ble_eq_true rfl) (by decide) (by decide) (zsh_fix 1)) (zsh_inj (Nat.le_of_ble_eq_true rfl)) ⟨rfl, rfl, rfl, rfl, rfl, rfl, rfl, rfl, rfl, trivial⟩ (zlen2 9 rfl rfl) rfl rfl ?_
    refine z_ifB_eq (tgt := 25) dX6_markedNodes_19 (by decide) (fun c19 => ?_) (fun c19 => ?_)
    · refine z_iinc_2 (v := nI (k + 1)) dX6_markedNodes_25 (nI_add _ 1) rfl (by decide) ?_
      refine z_goto (tgt := 4) dX6_markedNodes_28 (by decide) ?_
      rw [g_c_6_markedNodes_L, if_neg c19]
      exact ih c (k + 1) S X R T (by first | omega | assumption) (by first | omega | assumption)
    · refine z_iinc_1 (v := c + 1) dX6_markedNodes_22 rfl rfl (by decide) ?_
      refine z_iinc_2 (v := nI (k + 1)) dX6_markedNodes_25 (nI_add _ 1) rfl (by decide) ?_
      refine z_goto (tgt := 4) dX6_markedNodes_28 (by decide) ?_
      rw [g_c_6_markedNodes_L, if_pos c19]
      exact ih (c + 1) (k + 1) S X R T (by first | omega | assumption) (by first | omega | assumption)
noncomputable def g_c_6_markedNodes (n : Nat) (S : ZS) (X : ZS) (R : ZS) (T : TS) : Int32 := g_c_6_markedNodes_L n 127 0 1 S X R T
theorem k_c_6_markedNodes (n : Nat) (S : ZS) (X : ZS) (R : ZS) (T : TS) (hn : tn T = nI n) (h40 : n ≤ 40) : zM sc yX6_markedNodes cX6_markedNodes 3 (some .int) 1 0 0 [.ref 0] (qh S X R T) (.inl (some (.int (g_c_6_markedNodes n S X R T)))) (qh S X R T) := by
  refine zM.at (ls := [some (.ref 0), none, none]) zy_X6_markedNodes.2.2.2.2.2 (Nat.le_of_ble_eq_true rfl) rfl ?_
  refine z_iconst (v := 0) dX6_markedNodes_0 rfl ?_
  refine z_istore_1 dX6_markedNodes_1 rfl (by decide) ?_
  refine z_iconst (v := 1) dX6_markedNodes_2 rfl ?_
  refine z_istore_2 dX6_markedNodes_3 rfl (by decide) ?_
  rw [g_c_6_markedNodes]
  exact l_g_c_6_markedNodes_L n 127 0 1 S X R T (by first | omega | assumption) (by first | omega | assumption)
noncomputable def g_c_6_nodeCount (n : Nat) (_S : ZS) (_X : ZS) (_R : ZS) (_T : TS) : Nat := (2 * n) - 1
theorem k_c_6_nodeCount (n : Nat) (S : ZS) (X : ZS) (R : ZS) (T : TS) (hn : tn T = nI n) (h40 : n ≤ 40) (h1 : 1 ≤ n) : zM sc yX6_nodeCount cX6_nodeCount 1 (some .int) 1 0 0 [.ref 0] (qh S X R T) (.inl (some (.int (nI (g_c_6_nodeCount n S X R T))))) (qh S X R T) := by
  refine zM.at (ls := [some (.ref 0)]) zy_X6_nodeCount.2.2.2.2.2 (Nat.le_of_ble_eq_true rfl) rfl ?_
  refine z_iconst (v := 2) dX6_nodeCount_0 rfl ?_
  refine z_aload_0 dX6_nodeCount_1 ?_
  refine z_get (k := 0) (v := .ref 1) dX6_nodeCount_2 rfl rfl rfl (by decide) zf_X6_10 zw_in6 ?_
  refine Z.shs (qh S X R T) (zRun.V (ρ := zsh 1) (k_size T) dX6_nodeCount_5 zy_X5_size zm_X6_99 rfl rfl rfl rfl (Nat.le_of_ble_eq_true rfl) (by decide) (by decide) (zsh_fix 1)) (zsh_inj (Nat.le_of_ble_eq_true rfl)) ⟨rfl, rfl, rfl, rfl, rfl, rfl, rfl, rfl, rfl, trivial⟩ (zlen2 9 rfl rfl) rfl rfl ?_
  refine z_topi (w := nI (n)) hn ?_
  refine z_imul dX6_nodeCount_8 ?_
  refine z_topi (w := nI (2 * n)) (pk_mul _ _) ?_
  refine z_iconst (v := 1) dX6_nodeCount_9 rfl ?_
  refine z_isub dX6_nodeCount_10 ?_
  refine z_topi (w := nI ((2 * n) - 1)) (pk_sub (a := 2 * n) (b := 1) (by first | omega | assumption)) ?_
  rw [g_c_6_nodeCount]
  exact z_iret dX6_nodeCount_11 rfl (zint _) rfl rfl
noncomputable def g_c_6_updateCount (_n : Nat) (_S : ZS) (_X : ZS) (_R : ZS) (T : TS) : Int32 := tu T
theorem k_c_6_updateCount (n : Nat) (S : ZS) (X : ZS) (R : ZS) (T : TS) (hn : tn T = nI n) (h40 : n ≤ 40) : zM sc yX6_updateCount cX6_updateCount 1 (some .int) 1 0 0 [.ref 0] (qh S X R T) (.inl (some (.int (g_c_6_updateCount n S X R T)))) (qh S X R T) := by
  refine zM.at (ls := [some (.ref 0)]) zy_X6_updateCount.2.2.2.2.2 (Nat.le_of_ble_eq_true rfl) rfl ?_
  refine z_aload_0 dX6_updateCount_0 ?_
  refine z_get (k := 0) (v := .ref 1) dX6_updateCount_1 rfl rfl rfl (by decide) zf_X6_10 zw_in6 ?_
  refine Z.shs (qh S X R T) (zRun.V (ρ := zsh 1) (k_updates T) dX6_updateCount_4 zy_X5_updates zm_X6_243 rfl rfl rfl rfl (Nat.le_of_ble_eq_true rfl) (by decide) (by decide) (zsh_fix 1)) (zsh_inj (Nat.le_of_ble_eq_true rfl)) ⟨rfl, rfl, rfl, rfl, rfl, rfl, rfl, rfl, rfl, trivial⟩ (zlen2 9 rfl rfl) rfl rfl ?_
  rw [g_c_6_updateCount]
  exact z_iret dX6_updateCount_7 rfl (zint _) rfl rfl
noncomputable def g_c_6_pushCount (_n : Nat) (_S : ZS) (_X : ZS) (_R : ZS) (T : TS) : Int32 := tp T
theorem k_c_6_pushCount (n : Nat) (S : ZS) (X : ZS) (R : ZS) (T : TS) (hn : tn T = nI n) (h40 : n ≤ 40) : zM sc yX6_pushCount cX6_pushCount 1 (some .int) 1 0 0 [.ref 0] (qh S X R T) (.inl (some (.int (g_c_6_pushCount n S X R T)))) (qh S X R T) := by
  refine zM.at (ls := [some (.ref 0)]) zy_X6_pushCount.2.2.2.2.2 (Nat.le_of_ble_eq_true rfl) rfl ?_
  refine z_aload_0 dX6_pushCount_0 ?_
  refine z_get (k := 0) (v := .ref 1) dX6_pushCount_1 rfl rfl rfl (by decide) zf_X6_10 zw_in6 ?_
  refine Z.shs (qh S X R T) (zRun.V (ρ := zsh 1) (k_pushes T) dX6_pushCount_4 zy_X5_pushes zm_X6_246 rfl rfl rfl rfl (Nat.le_of_ble_eq_true rfl) (by decide) (by decide) (zsh_fix 1)) (zsh_inj (Nat.le_of_ble_eq_true rfl)) ⟨rfl, rfl, rfl, rfl, rfl, rfl, rfl, rfl, rfl, trivial⟩ (zlen2 9 rfl rfl) rfl rfl ?_
  rw [g_c_6_pushCount]
  exact z_iret dX6_pushCount_7 rfl (zint _) rfl rfl
noncomputable def g_c_6_appliedCount (_n : Nat) (_S : ZS) (_X : ZS) (_R : ZS) (T : TS) : Int32 := ta T
theorem k_c_6_appliedCount (n : Nat) (S : ZS) (X : ZS) (R : ZS) (T : TS) (hn : tn T = nI n) (h40 : n ≤ 40) : zM sc yX6_appliedCount cX6_appliedCount 1 (some .int) 1 0 0 [.ref 0] (qh S X R T) (.inl (some (.int (g_c_6_appliedCount n S X R T)))) (qh S X R T) := by
  refine zM.at (ls := [some (.ref 0)]) zy_X6_appliedCount.2.2.2.2.2 (Nat.le_of_ble_eq_true rfl) rfl ?_
  refine z_aload_0 dX6_appliedCount_0 ?_
  refine z_get (k := 0) (v := .ref 1) dX6_appliedCount_1 rfl rfl rfl (by decide) zf_X6_10 zw_in6 ?_
  refine Z.shs (qh S X R T) (zRun.V (ρ := zsh 1) (k_applications T) dX6_appliedCount_4 zy_X5_applications zm_X6_249 rfl rfl rfl rfl (Nat.le_of_ble_eq_true rfl) (by decide) (by decide) (zsh_fix 1)) (zsh_inj (Nat.le_of_ble_eq_true rfl)) ⟨rfl, rfl, rfl, rfl, rfl, rfl, rfl, rfl, rfl, trivial⟩ (zlen2 9 rfl rfl) rfl rfl ?_
  rw [g_c_6_appliedCount]
  exact z_iret dX6_appliedCount_7 rfl (zint _) rfl rfl
