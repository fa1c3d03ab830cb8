variable {sc : SC}
abbrev tTak (T : TS) (k : Nat) (f t : Int32) : Prop := tIns T k f t ∧ ¬ (1 ≤ k / 2 ∧ tIns T (k / 2) f t)
theorem k_isTaken (T : TS) (k : Nat) (f t : Int32) (h1 : 1 ≤ k) (h2 : k < 128) : zM sc yX5_isTaken cX5_isTaken 4 (some .boolean) 1 0 0 [.ref 0, .int (nI k), .int f, .int t] (th T) (.inl (some (.int (zb (decide (tTak T k f t)))))) (th T) := by
  refine zM.at (ls := [some (.ref 0), some (.int (nI k)), some (.int f), some (.int t)]) zy_X5_isTaken.2.2.2.2.2 (Nat.le_of_ble_eq_true rfl) rfl ?_
  refine z_aload_0 dX5_isTaken_0 ?_
  refine z_iload_1 dX5_isTaken_1 ?_
  refine z_iload_2 dX5_isTaken_2 ?_
  refine z_iload_3 dX5_isTaken_3 ?_
  refine Z.call0s (zRun.V (ρ := fun i => i) (k_isInside T k f t h1 h2) dX5_isTaken_4 zy_X5_isInside zm_X5_127 rfl rfl rfl rfl (Nat.le_of_ble_eq_true rfl) (by decide) (by decide)) (zlen2 9 rfl rfl) ?_
  refine z_if_eq (tgt := 26) dX5_isTaken_7 (by decide) (fun c => ?_) (fun c => ?_)
  · refine z_iconst (v := 0) dX5_isTaken_26 rfl ?_
    exact z_iret dX5_isTaken_27 rfl rfl (congrArg (fun z => Sum.inl (some (Value.int z))) (zbf (fun z : tTak T k f t => zb0 c z.1))) rfl
  · refine z_aload_0 dX5_isTaken_10 ?_
    refine z_iload_1 dX5_isTaken_11 ?_
    refine z_iconst (v := 2) dX5_isTaken_12 rfl ?_
    refine z_idiv dX5_isTaken_13 (by decide) ?_
    rcases Nat.eq_zero_or_pos (k / 2) with q | q
    · skip
      refine z_topi (w := 0) (by rw [zqh (by omega), q]; rfl) ?_
      refine z_iload_2 dX5_isTaken_14 ?_
      refine z_iload_3 dX5_isTaken_15 ?_
      refine Z.call0s (zRun.V (ρ := fun i => i) (k_isInside0 T f t) dX5_isTaken_16 zy_X5_isInside zm_X5_127 rfl rfl rfl rfl (Nat.le_of_ble_eq_true rfl) (by decide) (by decide)) (zlen2 9 rfl rfl) ?_
      refine z_if_ne_f 26 dX5_isTaken_19 (by decide) (by decide) ?_
      refine z_iconst (v := 1) dX5_isTaken_22 rfl ?_
      refine z_goto (tgt := 27) dX5_isTaken_23 (by decide) ?_
      exact z_iret dX5_isTaken_27 rfl rfl (congrArg (fun z => Sum.inl (some (Value.int z))) (zbt (P := tTak T k f t) ⟨zb1 c, fun z => by omega⟩)) rfl
    · refine z_topi (w := nI (k / 2)) (zqh (by omega)) ?_
      refine z_iload_2 dX5_isTaken_14 ?_
      refine z_iload_3 dX5_isTaken_15 ?_
      refine Z.call0s (zRun.V (ρ := fun i => i) (k_isInside T (k / 2) f t q (by omega)) dX5_isTaken_16 zy_X5_isInside zm_X5_127 rfl rfl rfl rfl (Nat.le_of_ble_eq_true rfl) (by decide) (by decide)) (zlen2 9 rfl rfl) ?_
      refine z_if_ne (tgt := 26) dX5_isTaken_19 (by decide) (fun c2 => ?_) (fun c2 => ?_)
      · refine z_iconst (v := 0) dX5_isTaken_26 rfl ?_
        exact z_iret dX5_isTaken_27 rfl rfl (congrArg (fun z => Sum.inl (some (Value.int z))) (zbf (fun z : tTak T k f t => z.2 ⟨q, zb1 c2⟩))) rfl
      · refine z_iconst (v := 1) dX5_isTaken_22 rfl ?_
        refine z_goto (tgt := 27) dX5_isTaken_23 (by decide) ?_
        exact z_iret dX5_isTaken_27 rfl rfl (congrArg (fun z => Sum.inl (some (Value.int z))) (zbt (P := tTak T k f t) ⟨zb1 c, fun z => zb0 c2 z.2⟩)) rfl
def tLeafF (T : TS) (i : Int32) : Nat → Nat → Nat
  | 0, k => k
  | n + 1, k => if tIn T k then tLeafF T i n (if i ≤ tL T (2 * k) then 2 * k else 2 * k + 1) else k
def tLeaf (T : TS) (i : Int32) : Nat := tLeafF T i 128 1
theorem l_leafAt (T : TS) (i : Int32) : ∀ (n : Nat) (step : Nat) (k : Nat), step + n = 128 → 1 ≤ k → k < 128 → Z sc yX5_leafAt cX5_leafAt 4 (some .int) 1 0 0 4 [some (.ref 0), some (.int i), some (.int (nI k)), some (.int (nI step))] [] (th T) (.inl (some (.int (nI (tLeafF T i n k))))) (th T) := by
  intro n
  induction n with
  | zero =>
    intro step k hs h1 h2
    refine z_iload_3 dX5_leafAt_4 ?_
    refine z_sipush (v := 128) dX5_leafAt_5 rfl ?_
    refine z_icmp_ge_t (tgt := 48) dX5_leafAt_8 (by decide) (by first | assumption | (simp (disch := omega) only [Int32.lt_iff_toInt_lt, Int32.le_iff_toInt_le, nI_toInt, Int32.reduceToInt] at *; omega) | (simp (disch := omega) only [Int32.lt_iff_toInt_lt, Int32.le_iff_toInt_le, nI_toInt, Int32.reduceToInt]; omega)) ?_
    refine z_iload_2 dX5_leafAt_48 ?_
    exact z_iret dX5_leafAt_49 rfl rfl rfl rfl
  | succ n ih =>
    intro step k hs h1 h2
    refine z_iload_3 dX5_leafAt_4 ?_
    refine z_sipush (v := 128) dX5_leafAt_5 rfl ?_
    refine z_icmp_ge_f 48 dX5_leafAt_8 (by decide) (by first | assumption | (simp (disch := omega) only [Int32.lt_iff_toInt_lt, Int32.le_iff_toInt_le, nI_toInt, Int32.reduceToInt] at *; omega) | (simp (disch := omega) only [Int32.lt_iff_toInt_lt, Int32.le_iff_toInt_le, nI_toInt, Int32.reduceToInt]; omega)) ?_
    refine z_aload_0 dX5_leafAt_11 ?_
    refine z_iload_2 dX5_leafAt_12 ?_
    refine Z.call0s (zRun.V (ρ := fun i => i) (k_isInner' T k h1 h2) dX5_leafAt_13 zy_X5_isInner zm_X5_65 rfl rfl rfl rfl (Nat.le_of_ble_eq_true rfl) (by decide) (by decide)) (zlen2 9 rfl rfl) ?_
    refine z_if_eq (tgt := 48) dX5_leafAt_16 (by decide) (fun c => ?_) (fun c => ?_)
    · refine z_iload_2 dX5_leafAt_48 ?_
      exact z_iret dX5_leafAt_49 rfl rfl (by rw [tLeafF, if_neg (zb0 c)]) rfl
    · have h64 : k < 64 := (zb1 c).1
      refine z_iload_1 dX5_leafAt_19 ?_
      refine z_aload_0 dX5_leafAt_20 ?_
      refine z_iconst (v := 2) dX5_leafAt_21 rfl ?_
      refine z_iload_2 dX5_leafAt_22 ?_
      refine z_imul dX5_leafAt_23 ?_
      refine z_topi (w := nI (2 * k)) (zq2 k) ?_
      refine Z.call0s (zRun.V (ρ := fun i => i) (k_lastUnder T (2 * k) (by omega) (by omega)) dX5_leafAt_24 zy_X5_lastUnder zm_X5_88 rfl rfl rfl rfl (Nat.le_of_ble_eq_true rfl) (by decide) (by decide)) (zlen2 9 rfl rfl) ?_
      refine z_icmp_gt (tgt := 36) dX5_leafAt_27 (by decide) (fun c2 => ?_) (fun c2 => ?_)
      · refine z_iconst (v := 2) dX5_leafAt_36 rfl ?_
        refine z_iload_2 dX5_leafAt_37 ?_
        refine z_imul dX5_leafAt_38 ?_
        refine z_topi (w := nI (2 * k)) (zq2 k) ?_
        refine z_iconst (v := 1) dX5_leafAt_39 rfl ?_
        refine z_iadd dX5_leafAt_40 ?_
        refine z_topi (w := nI (2 * k + 1)) (zq1 _) ?_
        refine z_istore_2 dX5_leafAt_41 rfl (by decide) ?_
        refine z_iinc_3 (v := nI (step + 1)) dX5_leafAt_42 (zinc _) rfl (by decide) ?_
        refine z_goto (tgt := 4) dX5_leafAt_45 (by decide) ?_
        rw [tLeafF, if_pos (zb1 c), if_neg (Int32.not_le.mpr c2)]
        exact ih (step + 1) (2 * k + 1) (by omega) (by omega) (by omega)
      · refine z_iconst (v := 2) dX5_leafAt_30 rfl ?_
        refine z_iload_2 dX5_leafAt_31 ?_
        refine z_imul dX5_leafAt_32 ?_
        refine z_topi (w := nI (2 * k)) (zq2 k) ?_
        refine z_goto (tgt := 41) dX5_leafAt_33 (by decide) ?_
        refine z_istore_2 dX5_leafAt_41 rfl (by decide) ?_
        refine z_iinc_3 (v := nI (step + 1)) dX5_leafAt_42 (zinc _) rfl (by decide) ?_
        refine z_goto (tgt := 4) dX5_leafAt_45 (by decide) ?_
        rw [tLeafF, if_pos (zb1 c), if_pos (Int32.not_lt.mp c2)]
        exact ih (step + 1) (2 * k) (by omega) (by omega) (by omega)
theorem k_leafAt (T : TS) (i : Int32) : zM sc yX5_leafAt cX5_leafAt 4 (some .int) 1 0 0 [.ref 0, .int i] (th T) (.inl (some (.int (nI (tLeaf T i))))) (th T) := by
  refine zM.at (ls := [some (.ref 0), some (.int i), none, none]) zy_X5_leafAt.2.2.2.2.2 (Nat.le_of_ble_eq_true rfl) rfl ?_
  refine z_iconst (v := 1) dX5_leafAt_0 rfl ?_
  refine z_istore_2 dX5_leafAt_1 rfl (by decide) ?_
  refine z_iconst (v := 0) dX5_leafAt_2 rfl ?_
  refine z_istore_3 dX5_leafAt_3 rfl (by decide) ?_
  exact l_leafAt T i 128 0 1 rfl (by decide) (by decide)
def tMinF (v : Nat → Int32) : Nat → Nat → Int32 → Int32
  | 0, _, m => m
  | n + 1, i, m => tMinF v n (i + 1) (zmin m (v i))
theorem l_leastOf (T : TS) (f t : Nat) (ht : t < 40) : ∀ (n : Nat) (i : Nat) (m : Int32), i + n = t + 1 → Z sc yX5_leastOf cX5_leastOf 5 (some .int) 1 0 0 11 [some (.ref 0), some (.int (nI f)), some (.int (nI t)), some (.int m), some (.int (nI i))] [] (th T) (.inl (some (.int (tMinF (tva T) n i m)))) (th T) := by
  intro n
  induction n with
  | zero =>
    intro i m hi
    refine z_iload_4 dX5_leastOf_11 ?_
    refine z_iload_2 dX5_leastOf_13 ?_
    refine z_icmp_gt_t (tgt := 34) dX5_leastOf_14 (by decide) (by first | assumption | (simp (disch := omega) only [Int32.lt_iff_toInt_lt, Int32.le_iff_toInt_le, nI_toInt, Int32.reduceToInt] at *; omega) | (simp (disch := omega) only [Int32.lt_iff_toInt_lt, Int32.le_iff_toInt_le, nI_toInt, Int32.reduceToInt]; omega)) ?_
    refine z_iload_3 dX5_leastOf_34 ?_
    exact z_iret dX5_leastOf_35 rfl rfl rfl rfl
  | succ n ih =>
    intro i m hi
    refine z_iload_4 dX5_leastOf_11 ?_
    refine z_iload_2 dX5_leastOf_13 ?_
    refine z_icmp_gt_f 34 dX5_leastOf_14 (by decide) (by first | assumption | (simp (disch := omega) only [Int32.lt_iff_toInt_lt, Int32.le_iff_toInt_le, nI_toInt, Int32.reduceToInt] at *; omega) | (simp (disch := omega) only [Int32.lt_iff_toInt_lt, Int32.le_iff_toInt_le, nI_toInt, Int32.reduceToInt]; omega)) ?_
    refine z_iload_3 dX5_leastOf_17 ?_
    refine z_aload_0 dX5_leastOf_18 ?_
    refine z_iload_4 dX5_leastOf_19 ?_
    refine Z.call0s (zRun.V (ρ := fun i => i) (k_valueAt T i (by omega)) dX5_leastOf_21 zy_X5_valueAt zm_X5_92 rfl rfl rfl rfl (Nat.le_of_ble_eq_true rfl) (by decide) (by decide)) (zlen2 9 rfl rfl) ?_
    refine z_mn dX5_leastOf_24 zm_X5_76 (by decide) (Nat.le_of_ble_eq_true rfl) ?_
    refine z_istore_3 dX5_leastOf_27 rfl (by decide) ?_
    refine z_iinc_4 (v := nI (i + 1)) dX5_leastOf_28 (zinc _) rfl (by decide) ?_
    refine z_goto (tgt := 11) dX5_leastOf_31 (by decide) ?_
    exact ih (i + 1) _ (by omega)
theorem k_leastOf (T : TS) (f t : Nat) (hf : f ≤ t) (ht : t < 40) : zM sc yX5_leastOf cX5_leastOf 5 (some .int) 1 0 0 [.ref 0, .int (nI f), .int (nI t)] (th T) (.inl (some (.int (tMinF (tva T) (t - f) (f + 1) (tva T f))))) (th T) := by
  refine zM.at (ls := [some (.ref 0), some (.int (nI f)), some (.int (nI t)), none, none]) zy_X5_leastOf.2.2.2.2.2 (Nat.le_of_ble_eq_true rfl) rfl ?_
  refine z_aload_0 dX5_leastOf_0 ?_
  refine z_iload_1 dX5_leastOf_1 ?_
  refine Z.call0s (zRun.V (ρ := fun i => i) (k_valueAt T f (by omega)) dX5_leastOf_2 zy_X5_valueAt zm_X5_92 rfl rfl rfl rfl (Nat.le_of_ble_eq_true rfl) (by decide) (by decide)) (zlen2 9 rfl rfl) ?_
  refine z_istore_3 dX5_leastOf_5 rfl (by decide) ?_
  refine z_iload_1 dX5_leastOf_6 ?_
  refine z_iconst (v := 1) dX5_leastOf_7 rfl ?_
  refine z_iadd dX5_leastOf_8 ?_
  refine z_topi (w := nI (f + 1)) (zq1 _) ?_
  refine z_istore_4 dX5_leastOf_9 rfl (by decide) ?_
  exact l_leastOf T f t ht (t - f) (f + 1) _ (by omega)
def tMaxF (v : Nat → Int32) : Nat → Nat → Int32 → Int32
  | 0, _, m => m
  | n + 1, i, m => tMaxF v n (i + 1) (zmax m (v i))
theorem l_greatestOf (T : TS) (f t : Nat) (ht : t < 40) : ∀ (n : Nat) (i : Nat) (m : Int32), i + n = t + 1 → Z sc yX5_greatestOf cX5_greatestOf 5 (some .int) 1 0 0 11 [some (.ref 0), some (.int (nI f)), some (.int (nI t)), some (.int m), some (.int (nI i))] [] (th T) (.inl (some (.int (tMaxF (tva T) n i m)))) (th T) := by
  intro n
  induction n with
  | zero =>
    intro i m hi
    refine z_iload_4 dX5_greatestOf_11 ?_
    refine z_iload_2 dX5_greatestOf_13 ?_
    refine z_icmp_gt_t (tgt := 34) dX5_greatestOf_14 (by decide) (by first | assumption | (simp (disch := omega) only [Int32.lt_iff_toInt_lt, Int32.le_iff_toInt_le, nI_toInt, Int32.reduceToInt] at *; omega) | (simp (disch := omega) only [Int32.lt_iff_toInt_lt, Int32.le_iff_toInt_le, nI_toInt, Int32.reduceToInt]; omega)) ?_
    refine z_iload_3 dX5_greatestOf_34 ?_
    exact z_iret dX5_greatestOf_35 rfl rfl rfl rfl
  | succ n ih =>
    intro i m hi
    refine z_iload_4 dX5_greatestOf_11 ?_
    refine z_iload_2 dX5_greatestOf_13 ?_
    refine z_icmp_gt_f 34 dX5_greatestOf_14 (by decide) (by first | assumption | (simp (disch := omega) only [Int32.lt_iff_toInt_lt, Int32.le_iff_toInt_le, nI_toInt, Int32.reduceToInt] at *; omega) | (simp (disch := omega) only [Int32.lt_iff_toInt_lt, Int32.le_iff_toInt_le, nI_toInt, Int32.reduceToInt]; omega)) ?_
    refine z_iload_3 dX5_greatestOf_17 ?_
    refine z_aload_0 dX5_greatestOf_18 ?_
    refine z_iload_4 dX5_greatestOf_19 ?_
    refine Z.call0s (zRun.V (ρ := fun i => i) (k_valueAt T i (by omega)) dX5_greatestOf_21 zy_X5_valueAt zm_X5_92 rfl rfl rfl rfl (Nat.le_of_ble_eq_true rfl) (by decide) (by decide)) (zlen2 9 rfl rfl) ?_
    refine z_mx dX5_greatestOf_24 zm_X5_82 (by decide) (Nat.le_of_ble_eq_true rfl) ?_
    refine z_istore_3 dX5_greatestOf_27 rfl (by decide) ?_
    refine z_iinc_4 (v := nI (i + 1)) dX5_greatestOf_28 (zinc _) rfl (by decide) ?_
    refine z_goto (tgt := 11) dX5_greatestOf_31 (by decide) ?_
    exact ih (i + 1) _ (by omega)
theorem k_greatestOf (T : TS) (f t : Nat) (hf : f ≤ t) (ht : t < 40) : zM sc yX5_greatestOf cX5_greatestOf 5 (some .int) 1 0 0 [.ref 0, .int (nI f), .int (nI t)] (th T) (.inl (some (.int (tMaxF (tva T) (t - f) (f + 1) (tva T f))))) (th T) := by
  refine zM.at (ls := [some (.ref 0), some (.int (nI f)), some (.int (nI t)), none, none]) zy_X5_greatestOf.2.2.2.2.2 (Nat.le_of_ble_eq_true rfl) rfl ?_
  refine z_aload_0 dX5_greatestOf_0 ?_
  refine z_iload_1 dX5_greatestOf_1 ?_
  refine Z.call0s (zRun.V (ρ := fun i => i) (k_valueAt T f (by omega)) dX5_greatestOf_2 zy_X5_valueAt zm_X5_92 rfl rfl rfl rfl (Nat.le_of_ble_eq_true rfl) (by decide) (by decide)) (zlen2 9 rfl rfl) ?_
  refine z_istore_3 dX5_greatestOf_5 rfl (by decide) ?_
  refine z_iload_1 dX5_greatestOf_6 ?_
  refine z_iconst (v := 1) dX5_greatestOf_7 rfl ?_
  refine z_iadd dX5_greatestOf_8 ?_
  refine z_topi (w := nI (f + 1)) (zq1 _) ?_
  refine z_istore_4 dX5_greatestOf_9 rfl (by decide) ?_
  exact l_greatestOf T f t ht (t - f) (f + 1) _ (by omega)
def tUp (T : TS) : Nat → Nat → Int32 → Int32
  | 0, _, v => v
  | n + 1, a, v => if a = 0 then v else tUp T n (a / 2) (tfa T a * v + tog T a)
theorem l_under (T : TS) (w1 w2 : Int32) : ∀ (n : Nat) (a : Nat) (v : Int32), a < 2 ^ n → a < 128 → Z sc yX5_underMarksAbove cX5_underMarksAbove 5 (some .int) 0 0 0 7 [some (.ref 0), some (.int w1), some (.int w2), some (.int v), some (.int (nI a))] [] (th T) (.inl (some (.int (tUp T n a v)))) (th T) := by
  intro n
  induction n with
  | zero =>
    intro a v h1 h2
    have h0 : a = 0 := by omega
    subst h0
    refine z_iload_4 dX5_underMarksAbove_7 ?_
    refine z_iconst (v := 1) dX5_underMarksAbove_9 rfl ?_
    refine z_icmp_lt_t (tgt := 48) dX5_underMarksAbove_10 (by decide) (by decide) ?_
    refine z_iload_3 dX5_underMarksAbove_48 ?_
    exact z_iret dX5_underMarksAbove_49 rfl rfl rfl rfl
  | succ n ih =>
    intro a v h1 h2
    refine z_iload_4 dX5_underMarksAbove_7 ?_
    refine z_iconst (v := 1) dX5_underMarksAbove_9 rfl ?_
    rcases Nat.eq_zero_or_pos a with q | q
    · subst q
      refine z_icmp_lt_t (tgt := 48) dX5_underMarksAbove_10 (by decide) (by decide) ?_
      refine z_iload_3 dX5_underMarksAbove_48 ?_
      exact z_iret dX5_underMarksAbove_49 rfl rfl (by rw [tUp, if_pos rfl]) rfl
    · refine z_icmp_lt_f 48 dX5_underMarksAbove_10 (by decide) (by first | assumption | (simp (disch := omega) only [Int32.lt_iff_toInt_lt, Int32.le_iff_toInt_le, nI_toInt, Int32.reduceToInt] at *; omega) | (simp (disch := omega) only [Int32.lt_iff_toInt_lt, Int32.le_iff_toInt_le, nI_toInt, Int32.reduceToInt]; omega)) ?_
      refine z_iload_4 dX5_underMarksAbove_13 ?_
      refine z_sipush (v := 128) dX5_underMarksAbove_15 rfl ?_
      refine z_icmp_ge_f 48 dX5_underMarksAbove_18 (by decide) (by first | assumption | (simp (disch := omega) only [Int32.lt_iff_toInt_lt, Int32.le_iff_toInt_le, nI_toInt, Int32.reduceToInt] at *; omega) | (simp (disch := omega) only [Int32.lt_iff_toInt_lt, Int32.le_iff_toInt_le, nI_toInt, Int32.reduceToInt]; omega)) ?_
      refine z_aload_0 dX5_underMarksAbove_21 ?_
      refine z_get (k := 9) dX5_underMarksAbove_22 rfl rfl rfl (by decide) zf_X5_41 zw_in5 ?_
      refine z_iload_4 dX5_underMarksAbove_25 ?_
      refine z_ialdN dX5_underMarksAbove_27 rfl (by omega) (by decide) ?_
      refine z_iload_3 dX5_underMarksAbove_28 ?_
      refine z_imul dX5_underMarksAbove_29 ?_
      refine z_aload_0 dX5_underMarksAbove_30 ?_
      refine z_get (k := 10) dX5_underMarksAbove_31 rfl rfl rfl (by decide) zf_X5_44 zw_in5 ?_
      refine z_iload_4 dX5_underMarksAbove_34 ?_
      refine z_ialdN dX5_underMarksAbove_36 rfl (by omega) (by decide) ?_
      refine z_iadd dX5_underMarksAbove_37 ?_
      refine z_istore_3 dX5_underMarksAbove_38 rfl (by decide) ?_
      refine z_iload_4 dX5_underMarksAbove_39 ?_
      refine z_iconst (v := 2) dX5_underMarksAbove_41 rfl ?_
      refine z_idiv dX5_underMarksAbove_42 (by decide) ?_
      refine z_topi (w := nI (a / 2)) (zqh (by omega)) ?_
      refine z_istore_4 dX5_underMarksAbove_43 rfl (by decide) ?_
      refine z_goto (tgt := 7) dX5_underMarksAbove_45 (by decide) ?_
      rw [tUp, if_neg (by omega)]
      exact ih (a / 2) _ (by omega) (by omega)
theorem k_underMarksAbove (T : TS) (k : Nat) (v : Int32) (h2 : k < 128) : zM sc yX5_underMarksAbove cX5_underMarksAbove 5 (some .int) 0 0 0 [.ref 0, .int (nI k), .int v] (th T) (.inl (some (.int (tUp T 7 (k / 2) v)))) (th T) := by
  refine zM.at (ls := [some (.ref 0), some (.int (nI k)), some (.int v), none, none]) zy_X5_underMarksAbove.2.2.2.2.2 (Nat.le_of_ble_eq_true rfl) rfl ?_
  refine z_iload_2 dX5_underMarksAbove_0 ?_
  refine z_istore_3 dX5_underMarksAbove_1 rfl (by decide) ?_
  refine z_iload_1 dX5_underMarksAbove_2 ?_
  refine z_iconst (v := 2) dX5_underMarksAbove_3 rfl ?_
  refine z_idiv dX5_underMarksAbove_4 (by decide) ?_
  refine z_topi (w := nI (k / 2)) (zqh (by omega)) ?_
  refine z_istore_4 dX5_underMarksAbove_5 rfl (by decide) ?_
  exact l_under T _ _ 7 (k / 2) v (by omega) (by omega)
