variable {sc : SC}
theorem k_c_6_checkIndex (n : Nat) (k : Nat) (S : ZS) (X : ZS) (R : ZS) (T : TS) (hn : tn T = nI n) (h40 : n ≤ 40) (hk : k < n) : zM sc yX6_checkIndex cX6_checkIndex 2 none 1 0 0 [.ref 0, .int (nI (k))] (qh S X R T) (.inl none) (qh S X R T) := by
  refine zM.at (ls := [some (.ref 0), some (.int (nI (k)))]) zy_X6_checkIndex.2.2.2.2.2 (Nat.le_of_ble_eq_true rfl) rfl ?_
  refine z_iload_1 dX6_checkIndex_0 ?_
  refine z_ifN_lt_f (tgt := 15) dX6_checkIndex_1 (by decide) (x := k) (by first | omega | assumption) (by omega) ?_
  refine z_iload_1 dX6_checkIndex_4 ?_
  refine z_aload_0 dX6_checkIndex_5 ?_
  refine z_get (k := 0) (v := .ref 1) dX6_checkIndex_6 rfl rfl rfl (by decide) zf_X6_10 zw_in6 ?_
  refine Z.shs (qh S X R T) (zRun.V (ρ := zsh 1) (k_size T) dX6_checkIndex_9 zy_X5_size zm_X6_99 rfl rfl rfl rfl (Nat.le_of_ble_eq_true rfl) (by decide) (by decide) (zsh_fix 1)) (zsh_inj (Nat.le_of_ble_eq_true rfl)) ⟨rfl, rfl, rfl, rfl, rfl, rfl, rfl, rfl, rfl, trivial⟩ (zlen2 9 rfl rfl) rfl rfl ?_
  refine z_topi (w := nI (n)) hn ?_
  refine z_icmpN_lt_t (tgt := 26) dX6_checkIndex_12 (by decide) (x := k) (z := n) (by first | omega | assumption) (by first | omega | assumption) (by omega) ?_
  exact z_vret dX6_checkIndex_26 rfl rfl rfl
theorem k_c_6_checkRange (n : Nat) (a : Nat) (b : Nat) (S : ZS) (X : ZS) (R : ZS) (T : TS) (hn : tn T = nI n) (h40 : n ≤ 40) (hab : a ≤ b) (hbn : b < n) : zM sc yX6_checkRange cX6_checkRange 3 none 2 0 0 [.ref 0, .int (nI (a)), .int (nI (b))] (qh S X R T) (.inl none) (qh S X R T) := by
  refine zM.at (ls := [some (.ref 0), some (.int (nI (a))), some (.int (nI (b)))]) zy_X6_checkRange.2.2.2.2.2 (Nat.le_of_ble_eq_true rfl) rfl ?_
  refine z_aload_0 dX6_checkRange_0 ?_
  refine z_iload_1 dX6_checkRange_1 ?_
  refine Z.call0n (zRun.V (ρ := fun i => i) (k_c_6_checkIndex n a S X R T (by first | omega | assumption) (by first | omega | assumption) (by first | omega | assumption)) dX6_checkRange_2 zy_X6_checkIndex zm_X6_164 rfl rfl rfl rfl (Nat.le_of_ble_eq_true rfl) (by decide) (by decide)) (zlen2 14 rfl rfl) ?_
  refine z_aload_0 dX6_checkRange_5 ?_
  refine z_iload_2 dX6_checkRange_6 ?_
  refine Z.call0n (zRun.V (ρ := fun i => i) (k_c_6_checkIndex n b S X R T (by first | omega | assumption) (by first | omega | assumption) (by first | omega | assumption)) dX6_checkRange_7 zy_X6_checkIndex zm_X6_164 rfl rfl rfl rfl (Nat.le_of_ble_eq_true rfl) (by decide) (by decide)) (zlen2 14 rfl rfl) ?_
  refine z_iload_2 dX6_checkRange_10 ?_
  refine z_iload_1 dX6_checkRange_11 ?_
  refine z_icmpN_ge_t (tgt := 26) dX6_checkRange_12 (by decide) (x := b) (z := a) (by first | omega | assumption) (by first | omega | assumption) (by omega) ?_
  exact z_vret dX6_checkRange_26 rfl rfl rfl
theorem k_c_6_checkValue (v : Int32) (S : ZS) (X : ZS) (R : ZS) (T : TS) (hv : -9999 ≤ v ∧ v ≤ 9999) : zM sc yX6_checkValue cX6_checkValue 2 none 0 0 0 [.ref 0, .int (v)] (qh S X R T) (.inl none) (qh S X R T) := by
  refine zM.at (ls := [some (.ref 0), some (.int (v))]) zy_X6_checkValue.2.2.2.2.2 (Nat.le_of_ble_eq_true rfl) rfl ?_
  refine z_iload_1 dX6_checkValue_0 ?_
  refine z_sipush (v := (-9999)) dX6_checkValue_1 rfl ?_
  refine z_icmp_lt_f (tgt := 14) dX6_checkValue_4 (by decide) (Int32.not_lt.mpr hv.1) ?_
  refine z_iload_1 dX6_checkValue_7 ?_
  refine z_sipush (v := 9999) dX6_checkValue_8 rfl ?_
  refine z_icmp_le_t (tgt := 25) dX6_checkValue_11 (by decide) hv.2 ?_
  exact z_vret dX6_checkValue_25 rfl rfl rfl
theorem k_c_6_checkNode (k : Nat) (S : ZS) (X : ZS) (R : ZS) (T : TS) (h1 : 1 ≤ k) (h2 : k < 128) (h3 : ¬ tF T k = -1) : zM sc yX6_checkNode cX6_checkNode 2 none 1 0 0 [.ref 0, .int (nI (k))] (qh S X R T) (.inl none) (qh S X R T) := by
  refine zM.at (ls := [some (.ref 0), some (.int (nI (k)))]) zy_X6_checkNode.2.2.2.2.2 (Nat.le_of_ble_eq_true rfl) rfl ?_
  refine z_aload_0 dX6_checkNode_0 ?_
  refine z_get (k := 0) (v := .ref 1) dX6_checkNode_1 rfl rfl rfl (by decide) zf_X6_10 zw_in6 ?_
  refine z_iload_1 dX6_checkNode_4 ?_
  refine Z.shs (qh S X R T) (zRun.V (ρ := zsh 1) (k_has T k (by first | omega | assumption) (by first | omega | assumption)) dX6_checkNode_5 zy_X5_has zm_X6_280 rfl rfl rfl rfl (Nat.le_of_ble_eq_true rfl) (by decide) (by decide) (zsh_fix 1)) (zsh_inj (Nat.le_of_ble_eq_true rfl)) ⟨rfl, rfl, rfl, rfl, rfl, rfl, rfl, rfl, rfl, trivial⟩ (zlen2 9 rfl rfl) rfl rfl ?_
  refine z_ifB_ne_t (tgt := 22) dX6_checkNode_8 (by decide) (decide_eq_true h3) ?_
  exact z_vret dX6_checkNode_22 rfl rfl rfl
noncomputable def g_c_6_totalOf_L (a : Nat) (b : Nat) : Nat → Nat → Int64 → ZS → ZS → ZS → TS → Int64
  | 0, _, x, _, _, _, _ => x
  | fu + 1, k, x, S, X, R, T => g_c_6_totalOf_L a b fu (k + 1) (x + ((tva T k).toInt64)) S X R T
theorem l_g_c_6_totalOf_L (a : Nat) (b : Nat) : ∀ (fu : Nat) (k : Nat) (x : Int64) (S : ZS) (X : ZS) (R : ZS) (T : TS) , (b < 40) → (k + fu = b + 1) → Z sc yX6_totalOf cX6_totalOf 6 (some .long) 1 0 0 5 [some (.ref 0), some (.int (nI (a))), some (.int (nI (b))), some (.long (x)), none, some (.int (nI (k)))] [] (qh S X R T) (.inl (some (.long (g_c_6_totalOf_L a b fu k x S X R T)))) (qh S X R T) := by
  intro fu
  induction fu with
  | zero =>
    intro k x S X R T h40 hk
    refine z_iload_5 dX6_totalOf_5 ?_
    refine z_iload_2 dX6_totalOf_7 ?_
    refine z_icmpN_gt_t (tgt := 30) dX6_totalOf_8 (by decide) (x := k) (z := b) (by first | omega | assumption) (by first | omega | assumption) (by omega) ?_
    refine z_lload_3 dX6_totalOf_30 ?_
    rw [g_c_6_totalOf_L]
    exact z_lret dX6_totalOf_31 rfl rfl rfl
  | succ fu ih =>
    intro k x S X R T h40 hk
    refine z_iload_5 dX6_totalOf_5 ?_
    refine z_iload_2 dX6_totalOf_7 ?_
    refine z_icmpN_gt_f (tgt := 30) dX6_totalOf_8 (by decide) (x := k) (z := b) (by first | omega | assumption) (by first | omega | assumption) (by omega) ?_
    refine z_lload_3 dX6_totalOf_11 ?_
    refine z_aload_0 dX6_totalOf_12 ?_
    refine z_get (k := 0) (v := .ref 1) dX6_totalOf_13 rfl rfl rfl (by decide) zf_X6_10 zw_in6 ?_
    refine z_iload_5 dX6_totalOf_16 ?_
    refine Z.shs (qh S X R T) (zRun.V (ρ := zsh 1) (k_valueAt T k (by first | omega | assumption)) dX6_totalOf_18 zy_X5_valueAt zm_X6_140 rfl rfl rfl rfl (Nat.le_of_ble_eq_true rfl) (by decide) (by decide) (zsh_fix 1)) (zsh_inj (Nat.le_of_ble_eq_true rfl)) ⟨rfl, rfl, rfl, rfl, rfl, rfl, rfl, rfl, rfl, trivial⟩ (zlen2 9 rfl rfl) rfl rfl ?_
    refine z_i2l dX6_totalOf_21 ?_
    refine z_ladd dX6_totalOf_22 ?_
    refine z_lstore_3 dX6_totalOf_23 rfl (by decide) ?_
    refine z_iinc_5 (v := nI (k + 1)) dX6_totalOf_24 (nI_add _ 1) rfl (by decide) ?_
    refine z_goto (tgt := 5) dX6_totalOf_27 (by decide) ?_
    rw [g_c_6_totalOf_L]
    exact ih (k + 1) (x + ((tva T k).toInt64)) S X R T (by first | omega | assumption) (by first | omega | assumption)
noncomputable def g_c_6_totalOf (a : Nat) (b : Nat) (S : ZS) (X : ZS) (R : ZS) (T : TS) : Int64 := g_c_6_totalOf_L a b (b + 1 - a) a 0 S X R T
theorem k_c_6_totalOf (a : Nat) (b : Nat) (S : ZS) (X : ZS) (R : ZS) (T : TS) (h40 : b < 40) (hab : a ≤ b + 1) : zM sc yX6_totalOf cX6_totalOf 6 (some .long) 1 0 0 [.ref 0, .int (nI (a)), .int (nI (b))] (qh S X R T) (.inl (some (.long (g_c_6_totalOf a b S X R T)))) (qh S X R T) := by
  refine zM.at (ls := [some (.ref 0), some (.int (nI (a))), some (.int (nI (b))), none, none, none]) zy_X6_totalOf.2.2.2.2.2 (Nat.le_of_ble_eq_true rfl) rfl ?_
  refine z_lconst (v := 0) dX6_totalOf_0 rfl ?_
  refine z_lstore_3 dX6_totalOf_1 rfl (by decide) ?_
  refine z_iload_1 dX6_totalOf_2 ?_
  refine z_istore_5 dX6_totalOf_3 rfl (by decide) ?_
  rw [g_c_6_totalOf]
  exact l_g_c_6_totalOf_L a b (b + 1 - a) a 0 S X R T (by first | omega | assumption) (by first | omega | assumption)
