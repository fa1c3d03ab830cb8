variable {sc : SC}

noncomputable def g_c_6_distinctCount_L (n : Nat) (a : Nat) (b : Nat) : Nat → Nat → Int32 → ZS → ZS → ZS → TS → Int32
  | 0, _, c, _, _, _, _ => c
  | fu + 1, k, c, S, X, R, T => (if (g_c_6_firstWith a b (tva T k) S X R T) = nI (k) then g_c_6_distinctCount_L n a b fu (k + 1) (c + 1) S X R T else g_c_6_distinctCount_L n a b fu (k + 1) c S X R T)
theorem l_g_c_6_distinctCount_L (n : Nat) (a : Nat) (b : Nat) : ∀ (fu : Nat) (k : Nat) (c : Int32) (S : ZS) (X : ZS) (R : ZS) (T : TS) , (b < n) → (n ≤ 40) → (a ≤ b) → (k + fu = b + 1) → Z sc yX6_distinctCount cX6_distinctCount 5 (some .int) 3 0 0 11 [some (.ref 0), some (.int (nI (a))), some (.int (nI (b))), some (.int (c)), some (.int (nI (k)))] [] (qh S X R T) (.inl (some (.int (g_c_6_distinctCount_L n a b fu k c S X R T)))) (qh S X R T) := by
  intro fu
  induction fu with
  | zero =>
    intro k c S X R T hbn h40 hab hk
    refine z_iload_4 dX6_distinctCount_11 ?_
    refine z_iload_2 dX6_distinctCount_13 ?_
    refine z_icmpN_gt_t (tgt := 46) dX6_distinctCount_14 (by decide) (x := k) (z := b) (by first | omega | assumption) (by first | omega | assumption) (by omega) ?_
    refine z_iload_3 dX6_distinctCount_46 ?_
    rw [g_c_6_distinctCount_L]
    exact z_iret dX6_distinctCount_47 rfl (zint _) rfl rfl
  | succ fu ih =>
    intro k c S X R T hbn h40 hab hk
    refine z_iload_4 dX6_distinctCount_11 ?_
    refine z_iload_2 dX6_distinctCount_13 ?_
    refine z_icmpN_gt_f (tgt := 46) dX6_distinctCount_14 (by decide) (x := k) (z := b) (by first | omega | assumption) (by first | omega | assumption) (by omega) ?_
    refine z_aload_0 dX6_distinctCount_17 ?_
    refine z_iload_1 dX6_distinctCount_18 ?_
    refine z_iload_2 dX6_distinctCount_19 ?_
    refine z_aload_0 dX6_distinctCount_20 ?_
    refine z_get (k := 0) (v := .ref 1) dX6_distinctCount_21 rfl rfl rfl (by decide) zf_X6_10 zw_in6 ?_
    refine z_iload_4 dX6_distinctCount_24 ?_
    refine Z.shs (qh S X R T) (zRun.V (ρ := zsh 1) (k_valueAt T k (by first | omega | assumption)) dX6_distinctCount_26 zy_X5_valueAt zm_X6_140 rfl rfl rfl rfl (Nat.le_of_ble_eq_true rfl) (by decide) (by decide) (zsh_fix 1)) (zsh_inj (Nat.le_of_ble_eq_true rfl)) ⟨rfl, rfl, rfl, rfl, rfl, rfl, rfl, rfl, rfl, trivial⟩ (zlen2 9 rfl rfl) rfl rfl ?_
    refine Z.call0s (zRun.V (ρ := fun i => i) (k_c_6_firstWith a b (tva T k) S X R T (by omega) (by omega)) dX6_distinctCount_29 zy_X6_firstWith zm_X6_178 rfl rfl rfl rfl (Nat.le_of_ble_eq_true rfl) (by decide) (by decide)) (zlen2 14 rfl rfl) ?_
    refine z_iload_4 dX6_distinctCount_32 ?_
    refine z_icmp_ne (tgt := 40) dX6_distinctCount_34 (by decide) (fun c34 => ?_) (fun c34 => ?_)
    · refine z_iinc_4 (v := nI (k + 1)) dX6_distinctCount_40 (nI_add _ 1) rfl (by decide) ?_
      refine z_goto (tgt := 11) dX6_distinctCount_43 (by decide) ?_
      rw [g_c_6_distinctCount_L, if_neg c34]
      exact ih (k + 1) c S X R T (by first | omega | assumption) (by first | omega | assumption) (by first | omega | assumption) (by first | omega | assumption)
    · refine z_iinc_3 (v := c + 1) dX6_distinctCount_37 rfl rfl (by decide) ?_
      refine z_iinc_4 (v := nI (k + 1)) dX6_distinctCount_40 (nI_add _ 1) rfl (by decide) ?_
      refine z_goto (tgt := 11) dX6_distinctCount_43 (by decide) ?_
      rw [g_c_6_distinctCount_L, if_pos c34]
      exact ih (k + 1) (c + 1) S X R T (by first | omega | assumption) (by first | omega | assumption) (by first | omega | assumption) (by first | omega | assumption)
noncomputable def g_c_6_distinctCount (n : Nat) (a : Nat) (b : Nat) (S : ZS) (X : ZS) (R : ZS) (T : TS) : Int32 := g_c_6_distinctCount_L n a b (b + 1 - a) a 0 S X R T
theorem k_c_6_distinctCount (n : Nat) (a : Nat) (b : Nat) (S : ZS) (X : ZS) (R : ZS) (T : TS) (hn : tn T = nI n) (h40 : n ≤ 40) (hab : a ≤ b) (hbn : b < n) : zM sc yX6_distinctCount cX6_distinctCount 5 (some .int) 3 0 0 [.ref 0, .int (nI (a)), .int (nI (b))] (qh S X R T) (.inl (some (.int (g_c_6_distinctCount n a b S X R T)))) (qh S X R T) := by
  refine zM.at (ls := [some (.ref 0), some (.int (nI (a))), some (.int (nI (b))), none, none]) zy_X6_distinctCount.2.2.2.2.2 (Nat.le_of_ble_eq_true rfl) rfl ?_
  refine z_aload_0 dX6_distinctCount_0 ?_
  refine z_iload_1 dX6_distinctCount_1 ?_
  refine z_iload_2 dX6_distinctCount_2 ?_
  refine Z.call0n (zRun.V (ρ := fun i => i) (k_c_6_checkRange n a b S X R T (by first | omega | assumption) (by first | omega | assumption) (by first | omega | assumption) (by first | omega | assumption)) dX6_distinctCount_3 zy_X6_checkRange zm_X6_102 rfl rfl rfl rfl (Nat.le_of_ble_eq_true rfl) (by decide) (by decide)) (zlen2 14 rfl rfl) ?_
  refine z_iconst (v := 0) dX6_distinctCount_6 rfl ?_
  refine z_istore_3 dX6_distinctCount_7 rfl (by decide) ?_
  refine z_iload_1 dX6_distinctCount_8 ?_
  refine z_istore_4 dX6_distinctCount_9 rfl (by decide) ?_
  rw [g_c_6_distinctCount]
  exact l_g_c_6_distinctCount_L n a b (b + 1 - a) a 0 S X R T (by first | omega | assumption) (by first | omega | assumption) (by first | omega | assumption) (by first | omega | assumption)
theorem k_c_6_distinctCount_x1 (n : Nat) (x : Int32) (z : Int32) (S : ZS) (X : ZS) (R : ZS) (T : TS) (hn : tn T = nI n) (h40 : n ≤ 40) (hx : ¬ (tIx T x ∧ tIx T z)) : zM sc yX6_distinctCount cX6_distinctCount 5 (some .int) 10 1 6 [.ref 0, .int (x), .int (z)] (qh S X R T) (.inr "java/lang/IndexOutOfBoundsException") (qh S X R T) := by
  refine zM.at (ls := [some (.ref 0), some (.int (x)), some (.int (z)), none, none]) zy_X6_distinctCount.2.2.2.2.2 (Nat.le_of_ble_eq_true rfl) rfl ?_
  refine z_aload_0 dX6_distinctCount_0 ?_
  refine z_iload_1 dX6_distinctCount_1 ?_
  refine z_iload_2 dX6_distinctCount_2 ?_
  exact Z.callX0 (zRun.V (ρ := fun i => i) (k_c_6_checkRange_x1 n (x) (z) S X R T hn h40 hx) dX6_distinctCount_3 zy_X6_checkRange zm_X6_102 rfl rfl rfl rfl (Nat.le_of_ble_eq_true rfl) (by decide) (by decide)) (zlen2 14 rfl rfl) rfl rfl
theorem k_c_6_distinctCount_x2 (n : Nat) (x : Int32) (z : Int32) (S : ZS) (X : ZS) (R : ZS) (T : TS) (hn : tn T = nI n) (h40 : n ≤ 40) (hx : tIx T x) (hz : tIx T z) (hzx : z < x) : zM sc yX6_distinctCount cX6_distinctCount 5 (some .int) 10 1 6 [.ref 0, .int (x), .int (z)] (qh S X R T) (.inr "java/lang/IllegalArgumentException") (qh S X R T) := by
  refine zM.at (ls := [some (.ref 0), some (.int (x)), some (.int (z)), none, none]) zy_X6_distinctCount.2.2.2.2.2 (Nat.le_of_ble_eq_true rfl) rfl ?_
  refine z_aload_0 dX6_distinctCount_0 ?_
  refine z_iload_1 dX6_distinctCount_1 ?_
  refine z_iload_2 dX6_distinctCount_2 ?_
  exact Z.callX0 (zRun.V (ρ := fun i => i) (k_c_6_checkRange_x2 n (x) (z) S X R T hn h40 hx hz hzx) dX6_distinctCount_3 zy_X6_checkRange zm_X6_102 rfl rfl rfl rfl (Nat.le_of_ble_eq_true rfl) (by decide) (by decide)) (zlen2 14 rfl rfl) rfl rfl
noncomputable def g_c_6_greatestAddition (_n : Nat) (a : Nat) (b : Nat) (_S : ZS) (_X : ZS) (_R : ZS) (T : TS) : Int32 := zmin (9999) (1000000 - (tMaxF (tva T) (b - a) (a + 1) (tva T a)))
theorem k_c_6_greatestAddition (n : Nat) (a : Nat) (b : Nat) (S : ZS) (X : ZS) (R : ZS) (T : TS) (hn : tn T = nI n) (h40 : n ≤ 40) (hab : a ≤ b) (hbn : b < n) : zM sc yX6_greatestAddition cX6_greatestAddition 3 (some .int) 3 0 0 [.ref 0, .int (nI (a)), .int (nI (b))] (qh S X R T) (.inl (some (.int (g_c_6_greatestAddition n a b S X R T)))) (qh S X R T) := by
  refine zM.at (ls := [some (.ref 0), some (.int (nI (a))), some (.int (nI (b)))]) zy_X6_greatestAddition.2.2.2.2.2 (Nat.le_of_ble_eq_true rfl) rfl ?_
  refine z_aload_0 dX6_greatestAddition_0 ?_
  refine z_iload_1 dX6_greatestAddition_1 ?_
  refine z_iload_2 dX6_greatestAddition_2 ?_
  refine Z.call0n (zRun.V (ρ := fun i => i) (k_c_6_checkRange n a b S X R T (by first | omega | assumption) (by first | omega | assumption) (by first | omega | assumption) (by first | omega | assumption)) dX6_greatestAddition_3 zy_X6_checkRange zm_X6_102 rfl rfl rfl rfl (Nat.le_of_ble_eq_true rfl) (by decide) (by decide)) (zlen2 14 rfl rfl) ?_
  refine z_sipush (v := 9999) dX6_greatestAddition_6 rfl ?_
  refine z_ldc (v := 1000000) dX6_greatestAddition_9 zk_X6_239 ?_
  refine z_aload_0 dX6_greatestAddition_11 ?_
  refine z_get (k := 0) (v := .ref 1) dX6_greatestAddition_12 rfl rfl rfl (by decide) zf_X6_10 zw_in6 ?_
  refine z_iload_1 dX6_greatestAddition_15 ?_
  refine z_iload_2 dX6_greatestAddition_16 ?_
  refine Z.shs (qh S X R T) (zRun.V (ρ := zsh 1) (k_greatestOf T a b (by first | omega | assumption) (by first | omega | assumption)) dX6_greatestAddition_17 zy_X5_greatestOf zm_X6_175 rfl rfl rfl rfl (Nat.le_of_ble_eq_true rfl) (by decide) (by decide) (zsh_fix 1)) (zsh_inj (Nat.le_of_ble_eq_true rfl)) ⟨rfl, rfl, rfl, rfl, rfl, rfl, rfl, rfl, rfl, trivial⟩ (zlen2 9 rfl rfl) rfl rfl ?_
  refine z_isub dX6_greatestAddition_20 ?_
  refine z_mn dX6_greatestAddition_21 zm_X6_240 (by decide) (Nat.le_of_ble_eq_true rfl) ?_
  refine z_topi (w := zmin (9999) (1000000 - (tMaxF (tva T) (b - a) (a + 1) (tva T a)))) rfl ?_
  rw [g_c_6_greatestAddition]
  exact z_iret dX6_greatestAddition_24 rfl (zint _) rfl rfl
theorem k_c_6_greatestAddition_x1 (n : Nat) (x : Int32) (z : Int32) (S : ZS) (X : ZS) (R : ZS) (T : TS) (hn : tn T = nI n) (h40 : n ≤ 40) (hx : ¬ (tIx T x ∧ tIx T z)) : zM sc yX6_greatestAddition cX6_greatestAddition 3 (some .int) 10 1 6 [.ref 0, .int (x), .int (z)] (qh S X R T) (.inr "java/lang/IndexOutOfBoundsException") (qh S X R T) := by
  refine zM.at (ls := [some (.ref 0), some (.int (x)), some (.int (z))]) zy_X6_greatestAddition.2.2.2.2.2 (Nat.le_of_ble_eq_true rfl) rfl ?_
  refine z_aload_0 dX6_greatestAddition_0 ?_
  refine z_iload_1 dX6_greatestAddition_1 ?_
  refine z_iload_2 dX6_greatestAddition_2 ?_
  exact Z.callX0 (zRun.V (ρ := fun i => i) (k_c_6_checkRange_x1 n (x) (z) S X R T hn h40 hx) dX6_greatestAddition_3 zy_X6_checkRange zm_X6_102 rfl rfl rfl rfl (Nat.le_of_ble_eq_true rfl) (by decide) (by decide)) (zlen2 14 rfl rfl) rfl rfl
theorem k_c_6_greatestAddition_x2 (n : Nat) (x : Int32) (z : Int32) (S : ZS) (X : ZS) (R : ZS) (T : TS) (hn : tn T = nI n) (h40 : n ≤ 40) (hx : tIx T x) (hz : tIx T z) (hzx : z < x) : zM sc yX6_greatestAddition cX6_greatestAddition 3 (some .int) 10 1 6 [.ref 0, .int (x), .int (z)] (qh S X R T) (.inr "java/lang/IllegalArgumentException") (qh S X R T) := by
  refine zM.at (ls := [some (.ref 0), some (.int (x)), some (.int (z))]) zy_X6_greatestAddition.2.2.2.2.2 (Nat.le_of_ble_eq_true rfl) rfl ?_
  refine z_aload_0 dX6_greatestAddition_0 ?_
  refine z_iload_1 dX6_greatestAddition_1 ?_
  refine z_iload_2 dX6_greatestAddition_2 ?_
  exact Z.callX0 (zRun.V (ρ := fun i => i) (k_c_6_checkRange_x2 n (x) (z) S X R T hn h40 hx hz hzx) dX6_greatestAddition_3 zy_X6_checkRange zm_X6_102 rfl rfl rfl rfl (Nat.le_of_ble_eq_true rfl) (by decide) (by decide)) (zlen2 14 rfl rfl) rfl rfl
noncomputable def g_c_6_appliedFor_L (n : Nat) (a : Nat) (b : Nat) : Nat → Nat → Int32 → ZS → ZS → ZS → TS → Int32
  | 0, _, c, _, _, _, _ => c
  | fu + 1, k, c, S, X, R, T => (if (decide (tTak T k (nI (a)) (nI (b)))) = true then g_c_6_appliedFor_L n a b fu (k + 1) (c + 1) S X R T else g_c_6_appliedFor_L n a b fu (k + 1) c S X R T)
theorem l_g_c_6_appliedFor_L (n : Nat) (a : Nat) (b : Nat) : ∀ (fu : Nat) (k : Nat) (c : Int32) (S : ZS) (X : ZS) (R : ZS) (T : TS) , (k + fu = 128) → (1 ≤ k) → Z sc yX6_appliedFor cX6_appliedFor 5 (some .int) 3 0 0 11 [some (.ref 0), some (.int (nI (a))), some (.int (nI (b))), some (.int (c)), some (.int (nI (k)))] [] (qh S X R T) (.inl (some (.int (g_c_6_appliedFor_L n a b fu k c S X R T)))) (qh S X R T) := by
  intro fu
  induction fu with
  | zero =>
    intro k c S X R T hk hk1
    refine z_iload_4 dX6_appliedFor_11 ?_
    refine z_sipush (v := 128) dX6_appliedFor_13 rfl ?_
    refine z_icmpN_ge_t (tgt := 42) dX6_appliedFor_16 (by decide) (x := k) (z := 128) (by first | omega | assumption) (by first | omega | assumption) (by omega) ?_
    refine z_iload_3 dX6_appliedFor_42 ?_
    rw [g_c_6_appliedFor_L]
    exact z_iret dX6_appliedFor_43 rfl (zint _) rfl rfl
  | succ fu ih =>
    intro k c S X R T hk hk1
    refine z_iload_4 dX6_appliedFor_11 ?_
    refine z_sipush (v := 128) dX6_appliedFor_13 rfl ?_
    refine z_icmpN_ge_f (tgt := 42) dX6_appliedFor_16 (by decide) (x := k) (z := 128) (by first | omega | assumption) (by first | omega | assumption) (by omega) ?_
    refine z_aload_0 dX6_appliedFor_19 ?_
    refine z_get (k := 0) (v := .ref 1) dX6_appliedFor_20 rfl rfl rfl (by decide) zf_X6_10 zw_in6 ?_
    refine z_iload_4 dX6_appliedFor_23 ?_
    refine z_iload_1 dX6_appliedFor_25 ?_
    refine z_iload_2 dX6_appliedFor_26 ?_
    refine Z.shs (qh S X R T) (zRun.V (ρ := zsh 1) (k_isTaken T k (nI (a)) (nI (b)) (by first | omega | assumption) (by first | omega | assumption)) dX6_appliedFor_27 zy_X5_isTaken zm_X6_227 rfl rfl rfl rfl (Nat.le_of_ble_eq_true rfl) (by decide) (by decide) (zsh_fix 1)) (zsh_inj (Nat.le_of_ble_eq_true rfl)) ⟨rfl, rfl, rfl, rfl, rfl, rfl, rfl, rfl, rfl, trivial⟩ (zlen2 9 rfl rfl) rfl rfl ?_
    refine z_ifB_eq (tgt := 36) dX6_appliedFor_30 (by decide) (fun c30 => ?_) (fun c30 => ?_)
    · refine z_iinc_4 (v := nI (k + 1)) dX6_appliedFor_36 (nI_add _ 1) rfl (by decide) ?_
      refine z_goto (tgt := 11) dX6_appliedFor_39 (by decide) ?_
      rw [g_c_6_appliedFor_L, if_neg c30]
      exact ih (k + 1) c S X R T (by first | omega | assumption) (by first | omega | assumption)
    · refine z_iinc_3 (v := c + 1) dX6_appliedFor_33 rfl rfl (by decide) ?_
      refine z_iinc_4 (v := nI (k + 1)) dX6_appliedFor_36 (nI_add _ 1) rfl (by decide) ?_
      refine z_goto (tgt := 11) dX6_appliedFor_39 (by decide) ?_
      rw [g_c_6_appliedFor_L, if_pos c30]
      exact ih (k + 1) (c + 1) S X R T (by first | omega | assumption) (by first | omega | assumption)
noncomputable def g_c_6_appliedFor (n : Nat) (a : Nat) (b : Nat) (S : ZS) (X : ZS) (R : ZS) (T : TS) : Int32 := g_c_6_appliedFor_L n a b 127 1 0 S X R T
theorem k_c_6_appliedFor (n : Nat) (a : Nat) (b : Nat) (S : ZS) (X : ZS) (R : ZS) (T : TS) (hn : tn T = nI n) (h40 : n ≤ 40) (hab : a ≤ b) (hbn : b < n) : zM sc yX6_appliedFor cX6_appliedFor 5 (some .int) 3 0 0 [.ref 0, .int (nI (a)), .int (nI (b))] (qh S X R T) (.inl (some (.int (g_c_6_appliedFor n a b S X R T)))) (qh S X R T) := by
  refine zM.at (ls := [some (.ref 0), some (.int (nI (a))), some (.int (nI (b))), none, none]) zy_X6_appliedFor.2.2.2.2.2 (Nat.le_of_ble_eq_true rfl) rfl ?_
  refine z_aload_0 dX6_appliedFor_0 ?_
  refine z_iload_1 dX6_appliedFor_1 ?_
  refine z_iload_2 dX6_appliedFor_2 ?_
  refine Z.call0n (zRun.V (ρ := fun i => i) (k_c_6_checkRange n a b S X R T (by first | omega | assumption) (by first | omega | assumption) (by first | omega | assumption) (by first | omega | assumption)) dX6_appliedFor_3 zy_X6_checkRange zm_X6_102 rfl rfl rfl rfl (Nat.le_of_ble_eq_true rfl) (by decide) (by decide)) (zlen2 14 rfl rfl) ?_
  refine z_iconst (v := 0) dX6_appliedFor_6 rfl ?_
  refine z_istore_3 dX6_appliedFor_7 rfl (by decide) ?_
  refine z_iconst (v := 1) dX6_appliedFor_8 rfl ?_
  refine z_istore_4 dX6_appliedFor_9 rfl (by decide) ?_
  rw [g_c_6_appliedFor]
  exact l_g_c_6_appliedFor_L n a b 127 1 0 S X R T (by first | omega | assumption) (by first | omega | assumption)
theorem k_c_6_appliedFor_x1 (n : Nat) (x : Int32) (z : Int32) (S : ZS) (X : ZS) (R : ZS) (T : TS) (hn : tn T = nI n) (h40 : n ≤ 40) (hx : ¬ (tIx T x ∧ tIx T z)) : zM sc yX6_appliedFor cX6_appliedFor 5 (some .int) 10 1 6 [.ref 0, .int (x), .int (z)] (qh S X R T) (.inr "java/lang/IndexOutOfBoundsException") (qh S X R T) := by
  refine zM.at (ls := [some (.ref 0), some (.int (x)), some (.int (z)), none, none]) zy_X6_appliedFor.2.2.2.2.2 (Nat.le_of_ble_eq_true rfl) rfl ?_
  refine z_aload_0 dX6_appliedFor_0 ?_
  refine z_iload_1 dX6_appliedFor_1 ?_
  refine z_iload_2 dX6_appliedFor_2 ?_
  exact Z.callX0 (zRun.V (ρ := fun i => i) (k_c_6_checkRange_x1 n (x) (z) S X R T hn h40 hx) dX6_appliedFor_3 zy_X6_checkRange zm_X6_102 rfl rfl rfl rfl (Nat.le_of_ble_eq_true rfl) (by decide) (by decide)) (zlen2 14 rfl rfl) rfl rfl
theorem k_c_6_appliedFor_x2 (n : Nat) (x : Int32) (z : Int32) (S : ZS) (X : ZS) (R : ZS) (T : TS) (hn : tn T = nI n) (h40 : n ≤ 40) (hx : tIx T x) (hz : tIx T z) (hzx : z < x) : zM sc yX6_appliedFor cX6_appliedFor 5 (some .int) 10 1 6 [.ref 0, .int (x), .int (z)] (qh S X R T) (.inr "java/lang/IllegalArgumentException") (qh S X R T) := by
  refine zM.at (ls := [some (.ref 0), some (.int (x)), some (.int (z)), none, none]) zy_X6_appliedFor.2.2.2.2.2 (Nat.le_of_ble_eq_true rfl) rfl ?_
  refine z_aload_0 dX6_appliedFor_0 ?_
  refine z_iload_1 dX6_appliedFor_1 ?_
  refine z_iload_2 dX6_appliedFor_2 ?_
  exact Z.callX0 (zRun.V (ρ := fun i => i) (k_c_6_checkRange_x2 n (x) (z) S X R T hn h40 hx hz hzx) dX6_appliedFor_3 zy_X6_checkRange zm_X6_102 rfl rfl rfl rfl (Nat.le_of_ble_eq_true rfl) (by decide) (by decide)) (zlen2 14 rfl rfl) rfl rfl
noncomputable def g_c_6_visitedFor_L (n : Nat) (a : Nat) (b : Nat) : Nat → Nat → Int32 → ZS → ZS → ZS → TS → Int32
  | 0, _, c, _, _, _, _ => c
  | fu + 1, k, c, S, X, R, T => (if (decide (tTak T k (nI (a)) (nI (b)))) = true then g_c_6_visitedFor_L n a b fu (k + 1) (c + 1) S X R T else (if (decide (tPas T k (nI (a)) (nI (b)))) = true then g_c_6_visitedFor_L n a b fu (k + 1) (c + 1) S X R T else g_c_6_visitedFor_L n a b fu (k + 1) c S X R T))
theorem l_g_c_6_visitedFor_L (n : Nat) (a : Nat) (b : Nat) : ∀ (fu : Nat) (k : Nat) (c : Int32) (S : ZS) (X : ZS) (R : ZS) (T : TS) , (k + fu = 128) → (1 ≤ k) → Z sc yX6_visitedFor cX6_visitedFor 5 (some .int) 3 0 0 11 [some (.ref 0), some (.int (nI (a))), some (.int (nI (b))), some (.int (c)), some (.int (nI (k)))] [] (qh S X R T) (.inl (some (.int (g_c_6_visitedFor_L n a b fu k c S X R T)))) (qh S X R T) := by
  intro fu
  induction fu with
  | zero =>
    intro k c S X R T hk hk1
    refine z_iload_4 dX6_visitedFor_11 ?_
    refine z_sipush (v := 128) dX6_visitedFor_13 rfl ?_
    refine z_icmpN_ge_t (tgt := 56) dX6_visitedFor_16 (by decide) (x := k) (z := 128) (by first | omega | assumption) (by first | omega | assumption) (by omega) ?_
    refine z_iload_3 dX6_visitedFor_56 ?_
    rw [g_c_6_visitedFor_L]
    exact z_iret dX6_visitedFor_57 rfl (zint _) rfl rfl
  | succ fu ih =>
    intro k c S X R T hk hk1
    refine z_iload_4 dX6_visitedFor_11 ?_
    refine z_sipush (v := 128) dX6_visitedFor_13 rfl ?_
    refine z_icmpN_ge_f (tgt := 56) dX6_visitedFor_16 (by decide) (x := k) (z := 128) (by first | omega | assumption) (by first | omega | assumption) (by omega) ?_
    refine z_aload_0 dX6_visitedFor_19 ?_
    refine z_get (k := 0) (v := .ref 1) dX6_visitedFor_20 rfl rfl rfl (by decide) zf_X6_10 zw_in6 ?_
    refine z_iload_4 dX6_visitedFor_23 ?_
    refine z_iload_1 dX6_visitedFor_25 ?_
    refine z_iload_2 dX6_visitedFor_26 ?_
    refine Z.shs (qh S X R T) (zRun.V (ρ := zsh 1) (k_isTaken T k (nI (a)) (nI (b)) (by first | omega | assumption) (by first | omega | assumption)) dX6_visitedFor_27 zy_X5_isTaken zm_X6_227 rfl rfl rfl rfl (Nat.le_of_ble_eq_true rfl) (by decide) (by decide) (zsh_fix 1)) (zsh_inj (Nat.le_of_ble_eq_true rfl)) ⟨rfl, rfl, rfl, rfl, rfl, rfl, rfl, rfl, rfl, trivial⟩ (zlen2 9 rfl rfl) rfl rfl ?_
    refine z_ifB_ne (tgt := 47) dX6_visitedFor_30 (by decide) (fun c30 => ?_) (fun c30 => ?_)
    · refine z_iinc_3 (v := c + 1) dX6_visitedFor_47 rfl rfl (by decide) ?_
      refine z_iinc_4 (v := nI (k + 1)) dX6_visitedFor_50 (nI_add _ 1) rfl (by decide) ?_
      refine z_goto (tgt := 11) dX6_visitedFor_53 (by decide) ?_
      rw [g_c_6_visitedFor_L, if_pos c30]
      exact ih (k + 1) (c + 1) S X R T (by first | omega | assumption) (by first | omega | assumption)
    · refine z_aload_0 dX6_visitedFor_33 ?_
      refine z_get (k := 0) (v := .ref 1) dX6_visitedFor_34 rfl rfl rfl (by decide) zf_X6_10 zw_in6 ?_
      refine z_iload_4 dX6_visitedFor_37 ?_
      refine z_iload_1 dX6_visitedFor_39 ?_
      refine z_iload_2 dX6_visitedFor_40 ?_
      refine Z.shs (qh S X R T) (zRun.V (ρ := zsh 1) (k_isPassed T k (nI (a)) (nI (b)) (by first | omega | assumption) (by first | omega | assumption)) dX6_visitedFor_41 zy_X5_isPassed zm_X6_233 rfl rfl rfl rfl (Nat.le_of_ble_eq_true rfl) (by decide) (by decide) (zsh_fix 1)) (zsh_inj (Nat.le_of_ble_eq_true rfl)) ⟨rfl, rfl, rfl, rfl, rfl, rfl, rfl, rfl, rfl, trivial⟩ (zlen2 9 rfl rfl) rfl rfl ?_
      refine z_ifB_eq (tgt := 50) dX6_visitedFor_44 (by decide) (fun c44 => ?_) (fun c44 => ?_)
      · refine z_iinc_4 (v := nI (k + 1)) dX6_visitedFor_50 (nI_add _ 1) rfl (by decide) ?_
        refine z_goto (tgt := 11) dX6_visitedFor_53 (by decide) ?_
        rw [g_c_6_visitedFor_L, if_neg c30, if_neg c44]
        exact ih (k + 1) c S X R T (by first | omega | assumption) (by first | omega | assumption)
      · refine z_iinc_3 (v := c + 1) dX6_visitedFor_47 rfl rfl (by decide) ?_
        refine z_iinc_4 (v := nI (k + 1)) dX6_visitedFor_50 (nI_add _ 1) rfl (by decide) ?_
        refine z_goto (tgt := 11) dX6_visitedFor_53 (by decide) ?_
        rw [g_c_6_visitedFor_L, if_neg c30, if_pos c44]
        exact ih (k + 1) (c + 1) S X R T (by first | omega | assumption) (by first | omega | assumption)
noncomputable def g_c_6_visitedFor (n : Nat) (a : Nat) (b : Nat) (S : ZS) (X : ZS) (R : ZS) (T : TS) : Int32 := g_c_6_visitedFor_L n a b 127 1 0 S X R T
theorem k_c_6_visitedFor (n : Nat) (a : Nat) (b : Nat) (S : ZS) (X : ZS) (R : ZS) (T : TS) (hn : tn T = nI n) (h40 : n ≤ 40) (hab : a ≤ b) (hbn : b < n) : zM sc yX6_visitedFor cX6_visitedFor 5 (some .int) 3 0 0 [.ref 0, .int (nI (a)), .int (nI (b))] (qh S X R T) (.inl (some (.int (g_c_6_visitedFor n a b S X R T)))) (qh S X R T) := by
  refine zM.at (ls := [some (.ref 0), some (.int (nI (a))), some (.int (nI (b))), none, none]) zy_X6_visitedFor.2.2.2.2.2 (Nat.le_of_ble_eq_true rfl) rfl ?_
  refine z_aload_0 dX6_visitedFor_0 ?_
  refine z_iload_1 dX6_visitedFor_1 ?_
  refine z_iload_2 dX6_visitedFor_2 ?_
  refine Z.call0n (zRun.V (ρ := fun i => i) (k_c_6_checkRange n a b S X R T (by first | omega | assumption) (by first | omega | assumption) (by first | omega | assumption) (by first | omega | assumption)) dX6_visitedFor_3 zy_X6_checkRange zm_X6_102 rfl rfl rfl rfl (Nat.le_of_ble_eq_true rfl) (by decide) (by decide)) (zlen2 14 rfl rfl) ?_
  refine z_iconst (v := 0) dX6_visitedFor_6 rfl ?_
  refine z_istore_3 dX6_visitedFor_7 rfl (by decide) ?_
  refine z_iconst (v := 1) dX6_visitedFor_8 rfl ?_
  refine z_istore_4 dX6_visitedFor_9 rfl (by decide) ?_
  rw [g_c_6_visitedFor]
  exact l_g_c_6_visitedFor_L n a b 127 1 0 S X R T (by first | omega | assumption) (by first | omega | assumption)
theorem k_c_6_visitedFor_x1 (n : Nat) (x : Int32) (z : Int32) (S : ZS) (X : ZS) (R : ZS) (T : TS) (hn : tn T = nI n) (h40 : n ≤ 40) (hx : ¬ (tIx T x ∧ tIx T z)) : zM sc yX6_visitedFor cX6_visitedFor 5 (some .int) 10 1 6 [.ref 0, .int (x), .int (z)] (qh S X R T) (.inr "java/lang/IndexOutOfBoundsException") (qh S X R T) := by
  refine zM.at (ls := [some (.ref 0), some (.int (x)), some (.int (z)), none, none]) zy_X6_visitedFor.2.2.2.2.2 (Nat.le_of_ble_eq_true rfl) rfl ?_
  refine z_aload_0 dX6_visitedFor_0 ?_
  refine z_iload_1 dX6_visitedFor_1 ?_
  refine z_iload_2 dX6_visitedFor_2 ?_
  exact Z.callX0 (zRun.V (ρ := fun i => i) (k_c_6_checkRange_x1 n (x) (z) S X R T hn h40 hx) dX6_visitedFor_3 zy_X6_checkRange zm_X6_102 rfl rfl rfl rfl (Nat.le_of_ble_eq_true rfl) (by decide) (by decide)) (zlen2 14 rfl rfl) rfl rfl
theorem k_c_6_visitedFor_x2 (n : Nat) (x : Int32) (z : Int32) (S : ZS) (X : ZS) (R : ZS) (T : TS) (hn : tn T = nI n) (h40 : n ≤ 40) (hx : tIx T x) (hz : tIx T z) (hzx : z < x) : zM sc yX6_visitedFor cX6_visitedFor 5 (some .int) 10 1 6 [.ref 0, .int (x), .int (z)] (qh S X R T) (.inr "java/lang/IllegalArgumentException") (qh S X R T) := by
  refine zM.at (ls := [some (.ref 0), some (.int (x)), some (.int (z)), none, none]) zy_X6_visitedFor.2.2.2.2.2 (Nat.le_of_ble_eq_true rfl) rfl ?_
  refine z_aload_0 dX6_visitedFor_0 ?_
  refine z_iload_1 dX6_visitedFor_1 ?_
  refine z_iload_2 dX6_visitedFor_2 ?_
  exact Z.callX0 (zRun.V (ρ := fun i => i) (k_c_6_checkRange_x2 n (x) (z) S X R T hn h40 hx hz hzx) dX6_visitedFor_3 zy_X6_checkRange zm_X6_102 rfl rfl rfl rfl (Nat.le_of_ble_eq_true rfl) (by decide) (by decide)) (zlen2 14 rfl rfl) rfl rfl
noncomputable def g_c_6_pushesFor_L (n : Nat) (a : Nat) (b : Nat) : Nat → Nat → Int32 → ZS → ZS → ZS → TS → Int32
  | 0, _, c, _, _, _, _ => c
  | fu + 1, k, c, S, X, R, T => (if (decide (tPas T k (nI (a)) (nI (b)))) = true then (if (decide (tMfa T k)) = true then g_c_6_pushesFor_L n a b fu (k + 1) (c + 1) S X R T else g_c_6_pushesFor_L n a b fu (k + 1) c S X R T) else g_c_6_pushesFor_L n a b fu (k + 1) c S X R T)
theorem l_g_c_6_pushesFor_L (n : Nat) (a : Nat) (b : Nat) : ∀ (fu : Nat) (k : Nat) (c : Int32) (S : ZS) (X : ZS) (R : ZS) (T : TS) , (k + fu = 128) → (1 ≤ k) → Z sc yX6_pushesFor cX6_pushesFor 5 (some .int) 3 0 0 11 [some (.ref 0), some (.int (nI (a))), some (.int (nI (b))), some (.int (c)), some (.int (nI (k)))] [] (qh S X R T) (.inl (some (.int (g_c_6_pushesFor_L n a b fu k c S X R T)))) (qh S X R T) := by
  intro fu
  induction fu with
  | zero =>
    intro k c S X R T hk hk1
    refine z_iload_4 dX6_pushesFor_11 ?_
    refine z_sipush (v := 128) dX6_pushesFor_13 rfl ?_
    refine z_icmpN_ge_t (tgt := 54) dX6_pushesFor_16 (by decide) (x := k) (z := 128) (by first | omega | assumption) (by first | omega | assumption) (by omega) ?_
    refine z_iload_3 dX6_pushesFor_54 ?_
    rw [g_c_6_pushesFor_L]
    exact z_iret dX6_pushesFor_55 rfl (zint _) rfl rfl
  | succ fu ih =>
    intro k c S X R T hk hk1
    refine z_iload_4 dX6_pushesFor_11 ?_
    refine z_sipush (v := 128) dX6_pushesFor_13 rfl ?_
    refine z_icmpN_ge_f (tgt := 54) dX6_pushesFor_16 (by decide) (x := k) (z := 128) (by first | omega | assumption) (by first | omega | assumption) (by omega) ?_
    refine z_aload_0 dX6_pushesFor_19 ?_
    refine z_get (k := 0) (v := .ref 1) dX6_pushesFor_20 rfl rfl rfl (by decide) zf_X6_10 zw_in6 ?_
    refine z_iload_4 dX6_pushesFor_23 ?_
    refine z_iload_1 dX6_pushesFor_25 ?_
    refine z_iload_2 dX6_pushesFor_26 ?_
    refine Z.shs (qh S X R T) (zRun.V (ρ := zsh 1) (k_isPassed T k (nI (a)) (nI (b)) (by first | omega | assumption) (by first | omega | assumption)) dX6_pushesFor_27 zy_X5_isPassed zm_X6_233 rfl rfl rfl rfl (Nat.le_of_ble_eq_true rfl) (by decide) (by decide) (zsh_fix 1)) (zsh_inj (Nat.le_of_ble_eq_true rfl)) ⟨rfl, rfl, rfl, rfl, rfl, rfl, rfl, rfl, rfl, trivial⟩ (zlen2 9 rfl rfl) rfl rfl ?_
    refine z_ifB_eq (tgt := 48) dX6_pushesFor_30 (by decide) (fun c30 => ?_) (fun c30 => ?_)
    · refine z_iinc_4 (v := nI (k + 1)) dX6_pushesFor_48 (nI_add _ 1) rfl (by decide) ?_
      refine z_goto (tgt := 11) dX6_pushesFor_51 (by decide) ?_
      rw [g_c_6_pushesFor_L, if_neg c30]
      exact ih (k + 1) c S X R T (by first | omega | assumption) (by first | omega | assumption)
    · refine z_aload_0 dX6_pushesFor_33 ?_
      refine z_get (k := 0) (v := .ref 1) dX6_pushesFor_34 rfl rfl rfl (by decide) zf_X6_10 zw_in6 ?_
      refine z_iload_4 dX6_pushesFor_37 ?_
      refine Z.shs (qh S X R T) (zRun.V (ρ := zsh 1) (k_isMarkedFromAbove T k (by first | omega | assumption)) dX6_pushesFor_39 zy_X5_isMarkedFromAbove zm_X6_236 rfl rfl rfl rfl (Nat.le_of_ble_eq_true rfl) (by decide) (by decide) (zsh_fix 1)) (zsh_inj (Nat.le_of_ble_eq_true rfl)) ⟨rfl, rfl, rfl, rfl, rfl, rfl, rfl, rfl, rfl, trivial⟩ (zlen2 9 rfl rfl) rfl rfl ?_
      refine z_ifB_eq (tgt := 48) dX6_pushesFor_42 (by decide) (fun c42 => ?_) (fun c42 => ?_)
      · refine z_iinc_4 (v := nI (k + 1)) dX6_pushesFor_48 (nI_add _ 1) rfl (by decide) ?_
        refine z_goto (tgt := 11) dX6_pushesFor_51 (by decide) ?_
        rw [g_c_6_pushesFor_L, if_pos c30, if_neg c42]
        exact ih (k + 1) c S X R T (by first | omega | assumption) (by first | omega | assumption)
      · refine z_iinc_3 (v := c + 1) dX6_pushesFor_45 rfl rfl (by decide) ?_
        refine z_iinc_4 (v := nI (k + 1)) dX6_pushesFor_48 (nI_add _ 1) rfl (by decide) ?_
        refine z_goto (tgt := 11) dX6_pushesFor_51 (by decide) ?_
        rw [g_c_6_pushesFor_L, if_pos c30, if_pos c42]
        exact ih (k + 1) (c + 1) S X R T (by first | omega | assumption) (by first | omega | assumption)
noncomputable def g_c_6_pushesFor (n : Nat) (a : Nat) (b : Nat) (S : ZS) (X : ZS) (R : ZS) (T : TS) : Int32 := g_c_6_pushesFor_L n a b 127 1 0 S X R T
theorem k_c_6_pushesFor (n : Nat) (a : Nat) (b : Nat) (S : ZS) (X : ZS) (R : ZS) (T : TS) (hn : tn T = nI n) (h40 : n ≤ 40) (hab : a ≤ b) (hbn : b < n) : zM sc yX6_pushesFor cX6_pushesFor 5 (some .int) 3 0 0 [.ref 0, .int (nI (a)), .int (nI (b))] (qh S X R T) (.inl (some (.int (g_c_6_pushesFor n a b S X R T)))) (qh S X R T) := by
  refine zM.at (ls := [some (.ref 0), some (.int (nI (a))), some (.int (nI (b))), none, none]) zy_X6_pushesFor.2.2.2.2.2 (Nat.le_of_ble_eq_true rfl) rfl ?_
  refine z_aload_0 dX6_pushesFor_0 ?_
  refine z_iload_1 dX6_pushesFor_1 ?_
  refine z_iload_2 dX6_pushesFor_2 ?_
  refine Z.call0n (zRun.V (ρ := fun i => i) (k_c_6_checkRange n a b S X R T (by first | omega | assumption) (by first | omega | assumption) (by first | omega | assumption) (by first | omega | assumption)) dX6_pushesFor_3 zy_X6_checkRange zm_X6_102 rfl rfl rfl rfl (Nat.le_of_ble_eq_true rfl) (by decide) (by decide)) (zlen2 14 rfl rfl) ?_
  refine z_iconst (v := 0) dX6_pushesFor_6 rfl ?_
  refine z_istore_3 dX6_pushesFor_7 rfl (by decide) ?_
  refine z_iconst (v := 1) dX6_pushesFor_8 rfl ?_
  refine z_istore_4 dX6_pushesFor_9 rfl (by decide) ?_
  rw [g_c_6_pushesFor]
  exact l_g_c_6_pushesFor_L n a b 127 1 0 S X R T (by first | omega | assumption) (by first | omega | assumption)
theorem k_c_6_pushesFor_x1 (n : Nat) (x : Int32) (z : Int32) (S : ZS) (X : ZS) (R : ZS) (T : TS) (hn : tn T = nI n) (h40 : n ≤ 40) (hx : ¬ (tIx T x ∧ tIx T z)) : zM sc yX6_pushesFor cX6_pushesFor 5 (some .int) 10 1 6 [.ref 0, .int (x), .int (z)] (qh S X R T) (.inr "java/lang/IndexOutOfBoundsException") (qh S X R T) := by
  refine zM.at (ls := [some (.ref 0), some (.int (x)), some (.int (z)), none, none]) zy_X6_pushesFor.2.2.2.2.2 (Nat.le_of_ble_eq_true rfl) rfl ?_
  refine z_aload_0 dX6_pushesFor_0 ?_
  refine z_iload_1 dX6_pushesFor_1 ?_
  refine z_iload_2 dX6_pushesFor_2 ?_
  exact Z.callX0 (zRun.V (ρ := fun i => i) (k_c_6_checkRange_x1 n (x) (z) S X R T hn h40 hx) dX6_pushesFor_3 zy_X6_checkRange zm_X6_102 rfl rfl rfl rfl (Nat.le_of_ble_eq_true rfl) (by decide) (by decide)) (zlen2 14 rfl rfl) rfl rfl
theorem k_c_6_pushesFor_x2 (n : Nat) (x : Int32) (z : Int32) (S : ZS) (X : ZS) (R : ZS) (T : TS) (hn : tn T = nI n) (h40 : n ≤ 40) (hx : tIx T x) (hz : tIx T z) (hzx : z < x) : zM sc yX6_pushesFor cX6_pushesFor 5 (some .int) 10 1 6 [.ref 0, .int (x), .int (z)] (qh S X R T) (.inr "java/lang/IllegalArgumentException") (qh S X R T) := by
  refine zM.at (ls := [some (.ref 0), some (.int (x)), some (.int (z)), none, none]) zy_X6_pushesFor.2.2.2.2.2 (Nat.le_of_ble_eq_true rfl) rfl ?_
  refine z_aload_0 dX6_pushesFor_0 ?_
  refine z_iload_1 dX6_pushesFor_1 ?_
  refine z_iload_2 dX6_pushesFor_2 ?_
  exact Z.callX0 (zRun.V (ρ := fun i => i) (k_c_6_checkRange_x2 n (x) (z) S X R T hn h40 hx hz hzx) dX6_pushesFor_3 zy_X6_checkRange zm_X6_102 rfl rfl rfl rfl (Nat.le_of_ble_eq_true rfl) (by decide) (by decide)) (zlen2 14 rfl rfl) rfl rfl
noncomputable def g_c_6_appliedNode_L (n : Nat) (a : Nat) (b : Nat) (p : Int32) : Nat → Nat → Int32 → ZS → ZS → ZS → TS → Int32
  | 0, _, _, _, _, _, _ => (-1)
  | fu + 1, k, c, S, X, R, T => (if tTF T (nI (k)) (nI (a)) (nI (b)) 7 (tLeaf T (nI (k))) = (-1) then g_c_6_appliedNode_L n a b p fu (k + 1) c S X R T else (if c = p then tTF T (nI (k)) (nI (a)) (nI (b)) 7 (tLeaf T (nI (k))) else g_c_6_appliedNode_L n a b p fu (k + 1) (c + 1) S X R T))
theorem l_g_c_6_appliedNode_L (n : Nat) (a : Nat) (b : Nat) (p : Int32) : ∀ (fu : Nat) (k : Nat) (c : Int32) (S : ZS) (X : ZS) (R : ZS) (T : TS) (j6 : Option Value), (b < n) → (n ≤ 40) → (k + fu = b + 1) → Z sc yX6_appliedNode cX6_appliedNode 7 (some .int) 3 0 0 12 [some (.ref 0), some (.int (nI (a))), some (.int (nI (b))), some (.int (p)), some (.int (c)), some (.int (nI (k))), j6] [] (qh S X R T) (.inl (some (.int (g_c_6_appliedNode_L n a b p fu k c S X R T)))) (qh S X R T) := by
  intro fu
  induction fu with
  | zero =>
    intro k c S X R T j6 hbn h40 hk
    refine z_iload_5 dX6_appliedNode_12 ?_
    refine z_iload_2 dX6_appliedNode_14 ?_
    refine z_icmpN_gt_t (tgt := 55) dX6_appliedNode_15 (by decide) (x := k) (z := b) (by first | omega | assumption) (by first | omega | assumption) (by omega) ?_
    refine z_iconst (v := (-1)) dX6_appliedNode_55 rfl ?_
    rw [g_c_6_appliedNode_L]
    exact z_iret dX6_appliedNode_56 rfl (zint _) rfl rfl
  | succ fu ih =>
    intro k c S X R T j6 hbn h40 hk
    refine z_iload_5 dX6_appliedNode_12 ?_
    refine z_iload_2 dX6_appliedNode_14 ?_
    refine z_icmpN_gt_f (tgt := 55) dX6_appliedNode_15 (by decide) (x := k) (z := b) (by first | omega | assumption) (by first | omega | assumption) (by omega) ?_
    refine z_aload_0 dX6_appliedNode_18 ?_
    refine z_get (k := 0) (v := .ref 1) dX6_appliedNode_19 rfl rfl rfl (by decide) zf_X6_10 zw_in6 ?_
    refine z_iload_5 dX6_appliedNode_22 ?_
    refine z_iload_1 dX6_appliedNode_24 ?_
    refine z_iload_2 dX6_appliedNode_25 ?_
    refine Z.shs (qh S X R T) (zRun.V (ρ := zsh 1) (k_takenFrom T (nI (k)) (nI (a)) (nI (b))) dX6_appliedNode_26 zy_X5_takenFrom zm_X6_230 rfl rfl rfl rfl (Nat.le_of_ble_eq_true rfl) (by decide) (by decide) (zsh_fix 1)) (zsh_inj (Nat.le_of_ble_eq_true rfl)) ⟨rfl, rfl, rfl, rfl, rfl, rfl, rfl, rfl, rfl, trivial⟩ (zlen2 9 rfl rfl) rfl rfl ?_
    refine z_istore_6 dX6_appliedNode_29 rfl (by decide) ?_
    refine z_iload_6 dX6_appliedNode_31 ?_
    refine z_iconst (v := (-1)) dX6_appliedNode_33 rfl ?_
    refine z_icmp_eq (tgt := 49) dX6_appliedNode_34 (by decide) (fun c34 => ?_) (fun c34 => ?_)
    · refine z_iinc_5 (v := nI (k + 1)) dX6_appliedNode_49 (nI_add _ 1) rfl (by decide) ?_
      refine z_goto (tgt := 12) dX6_appliedNode_52 (by decide) ?_
      rw [g_c_6_appliedNode_L, if_pos c34]
      exact ih (k + 1) c S X R T _ (by first | omega | assumption) (by first | omega | assumption) (by first | omega | assumption)
    · refine z_iload_4 dX6_appliedNode_37 ?_
      refine z_iload_3 dX6_appliedNode_39 ?_
      refine z_icmp_ne (tgt := 46) dX6_appliedNode_40 (by decide) (fun c40 => ?_) (fun c40 => ?_)
      · refine z_iinc_4 (v := c + 1) dX6_appliedNode_46 rfl rfl (by decide) ?_
        refine z_iinc_5 (v := nI (k + 1)) dX6_appliedNode_49 (nI_add _ 1) rfl (by decide) ?_
        refine z_goto (tgt := 12) dX6_appliedNode_52 (by decide) ?_
        rw [g_c_6_appliedNode_L, if_neg c34, if_neg c40]
        exact ih (k + 1) (c + 1) S X R T _ (by first | omega | assumption) (by first | omega | assumption) (by first | omega | assumption)
      · refine z_iload_6 dX6_appliedNode_43 ?_
        rw [g_c_6_appliedNode_L, if_neg c34, if_pos c40]
        exact z_iret dX6_appliedNode_45 rfl (zint _) rfl rfl
noncomputable def g_c_6_appliedNode (n : Nat) (a : Nat) (b : Nat) (p : Int32) (S : ZS) (X : ZS) (R : ZS) (T : TS) : Int32 := g_c_6_appliedNode_L n a b p (b + 1 - a) a 0 S X R T
theorem k_c_6_appliedNode (n : Nat) (a : Nat) (b : Nat) (p : Int32) (S : ZS) (X : ZS) (R : ZS) (T : TS) (hn : tn T = nI n) (h40 : n ≤ 40) (hab : a ≤ b) (hbn : b < n) : zM sc yX6_appliedNode cX6_appliedNode 7 (some .int) 3 0 0 [.ref 0, .int (nI (a)), .int (nI (b)), .int (p)] (qh S X R T) (.inl (some (.int (g_c_6_appliedNode n a b p S X R T)))) (qh S X R T) := by
  refine zM.at (ls := [some (.ref 0), some (.int (nI (a))), some (.int (nI (b))), some (.int (p)), none, none, none]) zy_X6_appliedNode.2.2.2.2.2 (Nat.le_of_ble_eq_true rfl) rfl ?_
  refine z_aload_0 dX6_appliedNode_0 ?_
  refine z_iload_1 dX6_appliedNode_1 ?_
  refine z_iload_2 dX6_appliedNode_2 ?_
  refine Z.call0n (zRun.V (ρ := fun i => i) (k_c_6_checkRange n a b S X R T (by first | omega | assumption) (by first | omega | assumption) (by first | omega | assumption) (by first | omega | assumption)) dX6_appliedNode_3 zy_X6_checkRange zm_X6_102 rfl rfl rfl rfl (Nat.le_of_ble_eq_true rfl) (by decide) (by decide)) (zlen2 14 rfl rfl) ?_
  refine z_iconst (v := 0) dX6_appliedNode_6 rfl ?_
  refine z_istore_4 dX6_appliedNode_7 rfl (by decide) ?_
  refine z_iload_1 dX6_appliedNode_9 ?_
  refine z_istore_5 dX6_appliedNode_10 rfl (by decide) ?_
  rw [g_c_6_appliedNode]
  exact l_g_c_6_appliedNode_L n a b p (b + 1 - a) a 0 S X R T _ (by first | omega | assumption) (by first | omega | assumption) (by first | omega | assumption)
theorem k_c_6_appliedNode_x1 (n : Nat) (x : Int32) (z : Int32) (p : Int32) (S : ZS) (X : ZS) (R : ZS) (T : TS) (hn : tn T = nI n) (h40 : n ≤ 40) (hx : ¬ (tIx T x ∧ tIx T z)) : zM sc yX6_appliedNode cX6_appliedNode 7 (some .int) 10 1 6 [.ref 0, .int (x), .int (z), .int (p)] (qh S X R T) (.inr "java/lang/IndexOutOfBoundsException") (qh S X R T) := by
  refine zM.at (ls := [some (.ref 0), some (.int (x)), some (.int (z)), some (.int (p)), none, none, none]) zy_X6_appliedNode.2.2.2.2.2 (Nat.le_of_ble_eq_true rfl) rfl ?_
  refine z_aload_0 dX6_appliedNode_0 ?_
  refine z_iload_1 dX6_appliedNode_1 ?_
  refine z_iload_2 dX6_appliedNode_2 ?_
  exact Z.callX0 (zRun.V (ρ := fun i => i) (k_c_6_checkRange_x1 n (x) (z) S X R T hn h40 hx) dX6_appliedNode_3 zy_X6_checkRange zm_X6_102 rfl rfl rfl rfl (Nat.le_of_ble_eq_true rfl) (by decide) (by decide)) (zlen2 14 rfl rfl) rfl rfl
theorem k_c_6_appliedNode_x2 (n : Nat) (x : Int32) (z : Int32) (p : Int32) (S : ZS) (X : ZS) (R : ZS) (T : TS) (hn : tn T = nI n) (h40 : n ≤ 40) (hx : tIx T x) (hz : tIx T z) (hzx : z < x) : zM sc yX6_appliedNode cX6_appliedNode 7 (some .int) 10 1 6 [.ref 0, .int (x), .int (z), .int (p)] (qh S X R T) (.inr "java/lang/IllegalArgumentException") (qh S X R T) := by
  refine zM.at (ls := [some (.ref 0), some (.int (x)), some (.int (z)), some (.int (p)), none, none, none]) zy_X6_appliedNode.2.2.2.2.2 (Nat.le_of_ble_eq_true rfl) rfl ?_
  refine z_aload_0 dX6_appliedNode_0 ?_
  refine z_iload_1 dX6_appliedNode_1 ?_
  refine z_iload_2 dX6_appliedNode_2 ?_
  exact Z.callX0 (zRun.V (ρ := fun i => i) (k_c_6_checkRange_x2 n (x) (z) S X R T hn h40 hx hz hzx) dX6_appliedNode_3 zy_X6_checkRange zm_X6_102 rfl rfl rfl rfl (Nat.le_of_ble_eq_true rfl) (by decide) (by decide)) (zlen2 14 rfl rfl) rfl rfl
noncomputable def g_c_6_canAdd (_n : Nat) (a : Nat) (b : Nat) (v : Int32) (_S : ZS) (_X : ZS) (_R : ZS) (T : TS) : Bool := decide (tCan T a b (v))
theorem k_c_6_canAdd (n : Nat) (a : Nat) (b : Nat) (v : Int32) (S : ZS) (X : ZS) (R : ZS) (T : TS) (hn : tn T = nI n) (h40 : n ≤ 40) (hab : a ≤ b) (hbn : b < n) (hv : -9999 ≤ v ∧ v ≤ 9999) : zM sc yX6_canAdd cX6_canAdd 4 (some .boolean) 3 0 0 [.ref 0, .int (nI (a)), .int (nI (b)), .int (v)] (qh S X R T) (.inl (some (.int (zb (g_c_6_canAdd n a b v S X R T))))) (qh S X R T) := by
  refine zM.at (ls := [some (.ref 0), some (.int (nI (a))), some (.int (nI (b))), some (.int (v))]) zy_X6_canAdd.2.2.2.2.2 (Nat.le_of_ble_eq_true rfl) rfl ?_
  refine z_aload_0 dX6_canAdd_0 ?_
  refine z_iload_1 dX6_canAdd_1 ?_
  refine z_iload_2 dX6_canAdd_2 ?_
  refine Z.call0n (zRun.V (ρ := fun i => i) (k_c_6_checkRange n a b S X R T (by first | omega | assumption) (by first | omega | assumption) (by first | omega | assumption) (by first | omega | assumption)) dX6_canAdd_3 zy_X6_checkRange zm_X6_102 rfl rfl rfl rfl (Nat.le_of_ble_eq_true rfl) (by decide) (by decide)) (zlen2 14 rfl rfl) ?_
  refine z_aload_0 dX6_canAdd_6 ?_
  refine z_iload_3 dX6_canAdd_7 ?_
  refine Z.call0n (zRun.V (ρ := fun i => i) (k_c_6_checkValue (v) S X R T (by first | omega | assumption)) dX6_canAdd_8 zy_X6_checkValue zm_X6_106 rfl rfl rfl rfl (Nat.le_of_ble_eq_true rfl) (by decide) (by decide)) (zlen2 14 rfl rfl) ?_
  refine z_aload_0 dX6_canAdd_11 ?_
  refine z_get (k := 0) (v := .ref 1) dX6_canAdd_12 rfl rfl rfl (by decide) zf_X6_10 zw_in6 ?_
  refine z_iload_1 dX6_canAdd_15 ?_
  refine z_iload_2 dX6_canAdd_16 ?_
  refine z_iload_3 dX6_canAdd_17 ?_
  refine Z.shs (qh S X R T) (zRun.V (ρ := zsh 1) (k_canRaise T a b (v) (by first | omega | assumption) (by first | omega | assumption)) dX6_canAdd_18 zy_X5_canRaise zm_X6_109 rfl rfl rfl rfl (Nat.le_of_ble_eq_true rfl) (by decide) (by decide) (zsh_fix 1)) (zsh_inj (Nat.le_of_ble_eq_true rfl)) ⟨rfl, rfl, rfl, rfl, rfl, rfl, rfl, rfl, rfl, trivial⟩ (zlen2 9 rfl rfl) rfl rfl ?_
  rw [g_c_6_canAdd]
  exact z_iret dX6_canAdd_21 rfl (zb_nar _) rfl rfl
theorem k_c_6_canAdd_x1 (n : Nat) (x : Int32) (z : Int32) (v : Int32) (S : ZS) (X : ZS) (R : ZS) (T : TS) (hn : tn T = nI n) (h40 : n ≤ 40) (hx : ¬ (tIx T x ∧ tIx T z)) : zM sc yX6_canAdd cX6_canAdd 4 (some .boolean) 10 1 6 [.ref 0, .int (x), .int (z), .int (v)] (qh S X R T) (.inr "java/lang/IndexOutOfBoundsException") (qh S X R T) := by
  refine zM.at (ls := [some (.ref 0), some (.int (x)), some (.int (z)), some (.int (v))]) zy_X6_canAdd.2.2.2.2.2 (Nat.le_of_ble_eq_true rfl) rfl ?_
  refine z_aload_0 dX6_canAdd_0 ?_
  refine z_iload_1 dX6_canAdd_1 ?_
  refine z_iload_2 dX6_canAdd_2 ?_
  exact Z.callX0 (zRun.V (ρ := fun i => i) (k_c_6_checkRange_x1 n (x) (z) S X R T hn h40 hx) dX6_canAdd_3 zy_X6_checkRange zm_X6_102 rfl rfl rfl rfl (Nat.le_of_ble_eq_true rfl) (by decide) (by decide)) (zlen2 14 rfl rfl) rfl rfl
theorem k_c_6_canAdd_x2 (n : Nat) (x : Int32) (z : Int32) (v : Int32) (S : ZS) (X : ZS) (R : ZS) (T : TS) (hn : tn T = nI n) (h40 : n ≤ 40) (hx : tIx T x) (hz : tIx T z) (hzx : z < x) : zM sc yX6_canAdd cX6_canAdd 4 (some .boolean) 10 1 6 [.ref 0, .int (x), .int (z), .int (v)] (qh S X R T) (.inr "java/lang/IllegalArgumentException") (qh S X R T) := by
  refine zM.at (ls := [some (.ref 0), some (.int (x)), some (.int (z)), some (.int (v))]) zy_X6_canAdd.2.2.2.2.2 (Nat.le_of_ble_eq_true rfl) rfl ?_
  refine z_aload_0 dX6_canAdd_0 ?_
  refine z_iload_1 dX6_canAdd_1 ?_
  refine z_iload_2 dX6_canAdd_2 ?_
  exact Z.callX0 (zRun.V (ρ := fun i => i) (k_c_6_checkRange_x2 n (x) (z) S X R T hn h40 hx hz hzx) dX6_canAdd_3 zy_X6_checkRange zm_X6_102 rfl rfl rfl rfl (Nat.le_of_ble_eq_true rfl) (by decide) (by decide)) (zlen2 14 rfl rfl) rfl rfl
theorem k_c_6_canAdd_x3 (n : Nat) (a : Nat) (b : Nat) (v : Int32) (S : ZS) (X : ZS) (R : ZS) (T : TS) (hn : tn T = nI n) (h40 : n ≤ 40) (hab : a ≤ b) (hbn : b < n) (hv : ¬ (-9999 ≤ v ∧ v ≤ 9999)) : zM sc yX6_canAdd cX6_canAdd 4 (some .boolean) 9 1 6 [.ref 0, .int (nI (a)), .int (nI (b)), .int (v)] (qh S X R T) (.inr "java/lang/IllegalArgumentException") (qh S X R T) := by
  refine zM.at (ls := [some (.ref 0), some (.int (nI (a))), some (.int (nI (b))), some (.int (v))]) zy_X6_canAdd.2.2.2.2.2 (Nat.le_of_ble_eq_true rfl) rfl ?_
  refine z_aload_0 dX6_canAdd_0 ?_
  refine z_iload_1 dX6_canAdd_1 ?_
  refine z_iload_2 dX6_canAdd_2 ?_
  refine Z.call0n (zRun.V (ρ := fun i => i) (k_c_6_checkRange n a b S X R T (by first | omega | assumption) (by first | omega | assumption) (by first | omega | assumption) (by first | omega | assumption)) dX6_canAdd_3 zy_X6_checkRange zm_X6_102 rfl rfl rfl rfl (Nat.le_of_ble_eq_true rfl) (by decide) (by decide)) (zlen2 14 rfl rfl) ?_
  refine z_aload_0 dX6_canAdd_6 ?_
  refine z_iload_3 dX6_canAdd_7 ?_
  exact Z.callX0 (zRun.V (ρ := fun i => i) (k_c_6_checkValue_x (v) S X R T (by first | omega | assumption)) dX6_canAdd_8 zy_X6_checkValue zm_X6_106 rfl rfl rfl rfl (Nat.le_of_ble_eq_true rfl) (by decide) (by decide)) (zlen2 14 rfl rfl) rfl rfl
noncomputable def g_c_6_totalIfAssigned (n : Nat) (a : Nat) (b : Nat) (v : Int32) (S : ZS) (X : ZS) (R : ZS) (T : TS) : Int64 := ((g_c_6_totalOf 0 (n - 1) S X R T) - (g_c_6_totalOf a b S X R T)) + (((v).toInt64) * ((nI ((b - a) + 1)).toInt64))
theorem k_c_6_totalIfAssigned (n : Nat) (a : Nat) (b : Nat) (v : Int32) (S : ZS) (X : ZS) (R : ZS) (T : TS) (hn : tn T = nI n) (h40 : n ≤ 40) (hab : a ≤ b) (hbn : b < n) (hv : -9999 ≤ v ∧ v ≤ 9999) : zM sc yX6_totalIfAssigned cX6_totalIfAssigned 6 (some .long) 3 0 0 [.ref 0, .int (nI (a)), .int (nI (b)), .int (v)] (qh S X R T) (.inl (some (.long (g_c_6_totalIfAssigned n a b v S X R T)))) (qh S X R T) := by
  refine zM.at (ls := [some (.ref 0), some (.int (nI (a))), some (.int (nI (b))), some (.int (v)), none, none]) zy_X6_totalIfAssigned.2.2.2.2.2 (Nat.le_of_ble_eq_true rfl) rfl ?_
  refine z_aload_0 dX6_totalIfAssigned_0 ?_
  refine z_iload_1 dX6_totalIfAssigned_1 ?_
  refine z_iload_2 dX6_totalIfAssigned_2 ?_
  refine Z.call0n (zRun.V (ρ := fun i => i) (k_c_6_checkRange n a b S X R T (by first | omega | assumption) (by first | omega | assumption) (by first | omega | assumption) (by first | omega | assumption)) dX6_totalIfAssigned_3 zy_X6_checkRange zm_X6_102 rfl rfl rfl rfl (Nat.le_of_ble_eq_true rfl) (by decide) (by decide)) (zlen2 14 rfl rfl) ?_
  refine z_aload_0 dX6_totalIfAssigned_6 ?_
  refine z_iload_3 dX6_totalIfAssigned_7 ?_
  refine Z.call0n (zRun.V (ρ := fun i => i) (k_c_6_checkValue (v) S X R T (by first | omega | assumption)) dX6_totalIfAssigned_8 zy_X6_checkValue zm_X6_106 rfl rfl rfl rfl (Nat.le_of_ble_eq_true rfl) (by decide) (by decide)) (zlen2 14 rfl rfl) ?_
  refine z_aload_0 dX6_totalIfAssigned_11 ?_
  refine z_iconst (v := 0) dX6_totalIfAssigned_12 rfl ?_
  refine z_aload_0 dX6_totalIfAssigned_13 ?_
  refine z_get (k := 0) (v := .ref 1) dX6_totalIfAssigned_14 rfl rfl rfl (by decide) zf_X6_10 zw_in6 ?_
  refine Z.shs (qh S X R T) (zRun.V (ρ := zsh 1) (k_size T) dX6_totalIfAssigned_17 zy_X5_size zm_X6_99 rfl rfl rfl rfl (Nat.le_of_ble_eq_true rfl) (by decide) (by decide) (zsh_fix 1)) (zsh_inj (Nat.le_of_ble_eq_true rfl)) ⟨rfl, rfl, rfl, rfl, rfl, rfl, rfl, rfl, rfl, trivial⟩ (zlen2 9 rfl rfl) rfl rfl ?_
  refine z_topi (w := nI (n)) hn ?_
  refine z_iconst (v := 1) dX6_totalIfAssigned_20 rfl ?_
  refine z_isub dX6_totalIfAssigned_21 ?_
  refine z_topi (w := nI (n - 1)) (pk_sub (a := n) (b := 1) (by first | omega | assumption)) ?_
  refine Z.call0s (zRun.V (ρ := fun i => i) (k_c_6_totalOf 0 (n - 1) S X R T (by omega) (by omega)) dX6_totalIfAssigned_22 zy_X6_totalOf zm_X6_167 rfl rfl rfl rfl (Nat.le_of_ble_eq_true rfl) (by decide) (by decide)) (zlen2 14 rfl rfl) ?_
  refine z_aload_0 dX6_totalIfAssigned_25 ?_
  refine z_iload_1 dX6_totalIfAssigned_26 ?_
  refine z_iload_2 dX6_totalIfAssigned_27 ?_
  refine Z.call0s (zRun.V (ρ := fun i => i) (k_c_6_totalOf a b S X R T (by omega) (by omega)) dX6_totalIfAssigned_28 zy_X6_totalOf zm_X6_167 rfl rfl rfl rfl (Nat.le_of_ble_eq_true rfl) (by decide) (by decide)) (zlen2 14 rfl rfl) ?_
  refine z_lsub dX6_totalIfAssigned_31 ?_
  refine z_lstore_4 dX6_totalIfAssigned_32 rfl (by decide) ?_
  refine z_lload_4 dX6_totalIfAssigned_34 ?_
  refine z_iload_3 dX6_totalIfAssigned_36 ?_
  refine z_i2l dX6_totalIfAssigned_37 ?_
  refine z_iload_2 dX6_totalIfAssigned_38 ?_
  refine z_iload_1 dX6_totalIfAssigned_39 ?_
  refine z_isub dX6_totalIfAssigned_40 ?_
  refine z_topi (w := nI (b - a)) (pk_sub (a := b) (b := a) (by first | omega | assumption)) ?_
  refine z_iconst (v := 1) dX6_totalIfAssigned_41 rfl ?_
  refine z_iadd dX6_totalIfAssigned_42 ?_
  refine z_topi (w := nI ((b - a) + 1)) (nI_add _ _) ?_
  refine z_i2l dX6_totalIfAssigned_43 ?_
  refine z_lmul dX6_totalIfAssigned_44 ?_
  refine z_ladd dX6_totalIfAssigned_45 ?_
  rw [g_c_6_totalIfAssigned]
  exact z_lret dX6_totalIfAssigned_46 rfl rfl rfl
theorem k_c_6_totalIfAssigned_x1 (n : Nat) (x : Int32) (z : Int32) (v : Int32) (S : ZS) (X : ZS) (R : ZS) (T : TS) (hn : tn T = nI n) (h40 : n ≤ 40) (hx : ¬ (tIx T x ∧ tIx T z)) : zM sc yX6_totalIfAssigned cX6_totalIfAssigned 6 (some .long) 10 1 6 [.ref 0, .int (x), .int (z), .int (v)] (qh S X R T) (.inr "java/lang/IndexOutOfBoundsException") (qh S X R T) := by
  refine zM.at (ls := [some (.ref 0), some (.int (x)), some (.int (z)), some (.int (v)), none, none]) zy_X6_totalIfAssigned.2.2.2.2.2 (Nat.le_of_ble_eq_true rfl) rfl ?_
  refine z_aload_0 dX6_totalIfAssigned_0 ?_
  refine z_iload_1 dX6_totalIfAssigned_1 ?_
  refine z_iload_2 dX6_totalIfAssigned_2 ?_
  exact Z.callX0 (zRun.V (ρ := fun i => i) (k_c_6_checkRange_x1 n (x) (z) S X R T hn h40 hx) dX6_totalIfAssigned_3 zy_X6_checkRange zm_X6_102 rfl rfl rfl rfl (Nat.le_of_ble_eq_true rfl) (by decide) (by decide)) (zlen2 14 rfl rfl) rfl rfl
theorem k_c_6_totalIfAssigned_x2 (n : Nat) (x : Int32) (z : Int32) (v : Int32) (S : ZS) (X : ZS) (R : ZS) (T : TS) (hn : tn T = nI n) (h40 : n ≤ 40) (hx : tIx T x) (hz : tIx T z) (hzx : z < x) : zM sc yX6_totalIfAssigned cX6_totalIfAssigned 6 (some .long) 10 1 6 [.ref 0, .int (x), .int (z), .int (v)] (qh S X R T) (.inr "java/lang/IllegalArgumentException") (qh S X R T) := by
  refine zM.at (ls := [some (.ref 0), some (.int (x)), some (.int (z)), some (.int (v)), none, none]) zy_X6_totalIfAssigned.2.2.2.2.2 (Nat.le_of_ble_eq_true rfl) rfl ?_
  refine z_aload_0 dX6_totalIfAssigned_0 ?_
  refine z_iload_1 dX6_totalIfAssigned_1 ?_
  refine z_iload_2 dX6_totalIfAssigned_2 ?_
  exact Z.callX0 (zRun.V (ρ := fun i => i) (k_c_6_checkRange_x2 n (x) (z) S X R T hn h40 hx hz hzx) dX6_totalIfAssigned_3 zy_X6_checkRange zm_X6_102 rfl rfl rfl rfl (Nat.le_of_ble_eq_true rfl) (by decide) (by decide)) (zlen2 14 rfl rfl) rfl rfl
theorem k_c_6_totalIfAssigned_x3 (n : Nat) (a : Nat) (b : Nat) (v : Int32) (S : ZS) (X : ZS) (R : ZS) (T : TS) (hn : tn T = nI n) (h40 : n ≤ 40) (hab : a ≤ b) (hbn : b < n) (hv : ¬ (-9999 ≤ v ∧ v ≤ 9999)) : zM sc yX6_totalIfAssigned cX6_totalIfAssigned 6 (some .long) 9 1 6 [.ref 0, .int (nI (a)), .int (nI (b)), .int (v)] (qh S X R T) (.inr "java/lang/IllegalArgumentException") (qh S X R T) := by
  refine zM.at (ls := [some (.ref 0), some (.int (nI (a))), some (.int (nI (b))), some (.int (v)), none, none]) zy_X6_totalIfAssigned.2.2.2.2.2 (Nat.le_of_ble_eq_true rfl) rfl ?_
  refine z_aload_0 dX6_totalIfAssigned_0 ?_
  refine z_iload_1 dX6_totalIfAssigned_1 ?_
  refine z_iload_2 dX6_totalIfAssigned_2 ?_
  refine Z.call0n (zRun.V (ρ := fun i => i) (k_c_6_checkRange n a b S X R T (by first | omega | assumption) (by first | omega | assumption) (by first | omega | assumption) (by first | omega | assumption)) dX6_totalIfAssigned_3 zy_X6_checkRange zm_X6_102 rfl rfl rfl rfl (Nat.le_of_ble_eq_true rfl) (by decide) (by decide)) (zlen2 14 rfl rfl) ?_
  refine z_aload_0 dX6_totalIfAssigned_6 ?_
  refine z_iload_3 dX6_totalIfAssigned_7 ?_
  exact Z.callX0 (zRun.V (ρ := fun i => i) (k_c_6_checkValue_x (v) S X R T (by first | omega | assumption)) dX6_totalIfAssigned_8 zy_X6_checkValue zm_X6_106 rfl rfl rfl rfl (Nat.le_of_ble_eq_true rfl) (by decide) (by decide)) (zlen2 14 rfl rfl) rfl rfl
