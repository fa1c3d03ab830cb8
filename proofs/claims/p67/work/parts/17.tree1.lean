variable {sc : SC}
theorem k_isInner (T : TS) (k : Nat) (h1 : 1 ≤ k) (h2 : k < 64) : zM sc yX5_isInner cX5_isInner 2 (some .boolean) 0 0 0 [.ref 0, .int (nI k)] (th T) (.inl (some (.int (zb (decide (tF T k < tL T k)))))) (th T) := by
  refine zM.at (ls := [some (.ref 0), some (.int (nI k))]) zy_X5_isInner.2.2.2.2.2 (Nat.le_of_ble_eq_true rfl) rfl ?_
  refine z_iload_1 dX5_isInner_0 ?_
  refine z_iconst (v := 1) dX5_isInner_1 rfl ?_
  refine z_icmp_lt_f 30 dX5_isInner_2 (by decide) (by first | assumption | (simp (disch := omega) only [Int32.lt_iff_toInt_lt, Int32.le_iff_toInt_le, nI_toInt, Int32.reduceToInt] at *; omega) | (simp (disch := omega) only [Int32.lt_iff_toInt_lt, Int32.le_iff_toInt_le, nI_toInt, Int32.reduceToInt]; omega)) ?_
  refine z_iload_1 dX5_isInner_5 ?_
  refine z_bipush (v := 64) dX5_isInner_6 rfl ?_
  refine z_icmp_ge_f 30 dX5_isInner_8 (by decide) (by first | assumption | (simp (disch := omega) only [Int32.lt_iff_toInt_lt, Int32.le_iff_toInt_le, nI_toInt, Int32.reduceToInt] at *; omega) | (simp (disch := omega) only [Int32.lt_iff_toInt_lt, Int32.le_iff_toInt_le, nI_toInt, Int32.reduceToInt]; omega)) ?_
  refine z_aload_0 dX5_isInner_11 ?_
  refine z_get (k := 4) dX5_isInner_12 rfl rfl rfl (by decide) zf_X5_24 zw_in5 ?_
  refine z_iload_1 dX5_isInner_15 ?_
  refine z_ialdN dX5_isInner_16 rfl (by omega) (by first | decide | assumption) ?_
  refine z_aload_0 dX5_isInner_17 ?_
  refine z_get (k := 5) dX5_isInner_18 rfl rfl rfl (by decide) zf_X5_28 zw_in5 ?_
  refine z_iload_1 dX5_isInner_21 ?_
  refine z_ialdN dX5_isInner_22 rfl (by omega) (by first | decide | assumption) ?_
  refine z_icmp_ge (tgt := 30) dX5_isInner_23 (by decide) (fun c => ?_) (fun c => ?_)
  · refine z_iconst (v := 0) dX5_isInner_30 rfl ?_
    exact z_iret dX5_isInner_31 rfl rfl (by rw [decide_eq_false (Int32.not_lt.mpr c)]; rfl) rfl
  · refine z_iconst (v := 1) dX5_isInner_26 rfl ?_
    refine z_goto (tgt := 31) dX5_isInner_27 (by decide) ?_
    exact z_iret dX5_isInner_31 rfl rfl (by rw [decide_eq_true (Int32.not_le.mp c)]; rfl) rfl
theorem k_isInnerBig (T : TS) (k : Nat) (h1 : 64 ≤ k) (h2 : k < 2 ^ 31) : zM sc yX5_isInner cX5_isInner 2 (some .boolean) 0 0 0 [.ref 0, .int (nI k)] (th T) (.inl (some (.int (0)))) (th T) := by
  refine zM.at (ls := [some (.ref 0), some (.int (nI k))]) zy_X5_isInner.2.2.2.2.2 (Nat.le_of_ble_eq_true rfl) rfl ?_
  refine z_iload_1 dX5_isInner_0 ?_
  refine z_iconst (v := 1) dX5_isInner_1 rfl ?_
  refine z_icmp_lt_f 30 dX5_isInner_2 (by decide) (by first | assumption | (simp (disch := omega) only [Int32.lt_iff_toInt_lt, Int32.le_iff_toInt_le, nI_toInt, Int32.reduceToInt] at *; omega) | (simp (disch := omega) only [Int32.lt_iff_toInt_lt, Int32.le_iff_toInt_le, nI_toInt, Int32.reduceToInt]; omega)) ?_
  refine z_iload_1 dX5_isInner_5 ?_
  refine z_bipush (v := 64) dX5_isInner_6 rfl ?_
  refine z_icmp_ge_t (tgt := 30) dX5_isInner_8 (by decide) (by first | assumption | (simp (disch := omega) only [Int32.lt_iff_toInt_lt, Int32.le_iff_toInt_le, nI_toInt, Int32.reduceToInt] at *; omega) | (simp (disch := omega) only [Int32.lt_iff_toInt_lt, Int32.le_iff_toInt_le, nI_toInt, Int32.reduceToInt]; omega)) ?_
  refine z_iconst (v := 0) dX5_isInner_30 rfl ?_
  exact z_iret dX5_isInner_31 rfl rfl rfl rfl
theorem k_isMarked (T : TS) (k : Nat) (h1 : 1 ≤ k) (h2 : k < 128) : zM sc yX5_isMarked cX5_isMarked 2 (some .boolean) 0 0 0 [.ref 0, .int (nI k)] (th T) (.inl (some (.int (zb (decide (¬ tfa T k = 1 ∨ ¬ tog T k = 0)))))) (th T) := by
  refine zM.at (ls := [some (.ref 0), some (.int (nI k))]) zy_X5_isMarked.2.2.2.2.2 (Nat.le_of_ble_eq_true rfl) rfl ?_
  refine z_iload_1 dX5_isMarked_0 ?_
  refine z_iconst (v := 1) dX5_isMarked_1 rfl ?_
  refine z_icmp_lt_f 35 dX5_isMarked_2 (by decide) (by first | assumption | (simp (disch := omega) only [Int32.lt_iff_toInt_lt, Int32.le_iff_toInt_le, nI_toInt, Int32.reduceToInt] at *; omega) | (simp (disch := omega) only [Int32.lt_iff_toInt_lt, Int32.le_iff_toInt_le, nI_toInt, Int32.reduceToInt]; omega)) ?_
  refine z_iload_1 dX5_isMarked_5 ?_
  refine z_sipush (v := 128) dX5_isMarked_6 rfl ?_
  refine z_icmp_ge_f 35 dX5_isMarked_9 (by decide) (by first | assumption | (simp (disch := omega) only [Int32.lt_iff_toInt_lt, Int32.le_iff_toInt_le, nI_toInt, Int32.reduceToInt] at *; omega) | (simp (disch := omega) only [Int32.lt_iff_toInt_lt, Int32.le_iff_toInt_le, nI_toInt, Int32.reduceToInt]; omega)) ?_
  refine z_aload_0 dX5_isMarked_12 ?_
  refine z_get (k := 9) dX5_isMarked_13 rfl rfl rfl (by decide) zf_X5_41 zw_in5 ?_
  refine z_iload_1 dX5_isMarked_16 ?_
  refine z_ialdN dX5_isMarked_17 rfl (by omega) (by first | decide | assumption) ?_
  refine z_iconst (v := 1) dX5_isMarked_18 rfl ?_
  refine z_icmp_ne (tgt := 31) dX5_isMarked_19 (by decide) (fun c => ?_) (fun c => ?_)
  · refine z_iconst (v := 1) dX5_isMarked_31 rfl ?_
    refine z_goto (tgt := 36) dX5_isMarked_32 (by decide) ?_
    exact z_iret dX5_isMarked_36 rfl rfl (by rw [decide_eq_true (Or.inl c)]; rfl) rfl
  · refine z_aload_0 dX5_isMarked_22 ?_
    refine z_get (k := 10) dX5_isMarked_23 rfl rfl rfl (by decide) zf_X5_44 zw_in5 ?_
    refine z_iload_1 dX5_isMarked_26 ?_
    refine z_ialdN dX5_isMarked_27 rfl (by omega) (by first | decide | assumption) ?_
    refine z_if_eq (tgt := 35) dX5_isMarked_28 (by decide) (fun c2 => ?_) (fun c2 => ?_)
    · refine z_iconst (v := 0) dX5_isMarked_35 rfl ?_
      exact z_iret dX5_isMarked_36 rfl rfl (by rw [decide_eq_false (fun z => z.elim (fun z => z c) (fun z => z c2))]; rfl) rfl
    · refine z_iconst (v := 1) dX5_isMarked_31 rfl ?_
      refine z_goto (tgt := 36) dX5_isMarked_32 (by decide) ?_
      exact z_iret dX5_isMarked_36 rfl rfl (by rw [decide_eq_true (Or.inr c2)]; rfl) rfl
theorem k_lastUnder (T : TS) (k : Nat) (h1 : 1 ≤ k) (h2 : k < 128) : zM sc yX5_lastUnder cX5_lastUnder 2 (some .int) 0 0 0 [.ref 0, .int (nI k)] (th T) (.inl (some (.int (tL T k)))) (th T) := by
  refine zM.at (ls := [some (.ref 0), some (.int (nI k))]) zy_X5_lastUnder.2.2.2.2.2 (Nat.le_of_ble_eq_true rfl) rfl ?_
  refine z_iload_1 dX5_lastUnder_0 ?_
  refine z_iconst (v := 1) dX5_lastUnder_1 rfl ?_
  refine z_icmp_lt_f 21 dX5_lastUnder_2 (by decide) (by first | assumption | (simp (disch := omega) only [Int32.lt_iff_toInt_lt, Int32.le_iff_toInt_le, nI_toInt, Int32.reduceToInt] at *; omega) | (simp (disch := omega) only [Int32.lt_iff_toInt_lt, Int32.le_iff_toInt_le, nI_toInt, Int32.reduceToInt]; omega)) ?_
  refine z_iload_1 dX5_lastUnder_5 ?_
  refine z_sipush (v := 128) dX5_lastUnder_6 rfl ?_
  refine z_icmp_ge_f 21 dX5_lastUnder_9 (by decide) (by first | assumption | (simp (disch := omega) only [Int32.lt_iff_toInt_lt, Int32.le_iff_toInt_le, nI_toInt, Int32.reduceToInt] at *; omega) | (simp (disch := omega) only [Int32.lt_iff_toInt_lt, Int32.le_iff_toInt_le, nI_toInt, Int32.reduceToInt]; omega)) ?_
  refine z_aload_0 dX5_lastUnder_12 ?_
  refine z_get (k := 5) dX5_lastUnder_13 rfl rfl rfl (by decide) zf_X5_28 zw_in5 ?_
  refine z_iload_1 dX5_lastUnder_16 ?_
  refine z_ialdN dX5_lastUnder_17 rfl (by omega) (by first | decide | assumption) ?_
  refine z_goto (tgt := 22) dX5_lastUnder_18 (by decide) ?_
  exact z_iret dX5_lastUnder_22 rfl rfl rfl rfl
theorem k_factorAt (T : TS) (k : Nat) (h1 : 1 ≤ k) (h2 : k < 128) : zM sc yX5_factorAt cX5_factorAt 2 (some .int) 0 0 0 [.ref 0, .int (nI k)] (th T) (.inl (some (.int (tfa T k)))) (th T) := by
  refine zM.at (ls := [some (.ref 0), some (.int (nI k))]) zy_X5_factorAt.2.2.2.2.2 (Nat.le_of_ble_eq_true rfl) rfl ?_
  refine z_iload_1 dX5_factorAt_0 ?_
  refine z_iconst (v := 1) dX5_factorAt_1 rfl ?_
  refine z_icmp_lt_f 21 dX5_factorAt_2 (by decide) (by first | assumption | (simp (disch := omega) only [Int32.lt_iff_toInt_lt, Int32.le_iff_toInt_le, nI_toInt, Int32.reduceToInt] at *; omega) | (simp (disch := omega) only [Int32.lt_iff_toInt_lt, Int32.le_iff_toInt_le, nI_toInt, Int32.reduceToInt]; omega)) ?_
  refine z_iload_1 dX5_factorAt_5 ?_
  refine z_sipush (v := 128) dX5_factorAt_6 rfl ?_
  refine z_icmp_ge_f 21 dX5_factorAt_9 (by decide) (by first | assumption | (simp (disch := omega) only [Int32.lt_iff_toInt_lt, Int32.le_iff_toInt_le, nI_toInt, Int32.reduceToInt] at *; omega) | (simp (disch := omega) only [Int32.lt_iff_toInt_lt, Int32.le_iff_toInt_le, nI_toInt, Int32.reduceToInt]; omega)) ?_
  refine z_aload_0 dX5_factorAt_12 ?_
  refine z_get (k := 9) dX5_factorAt_13 rfl rfl rfl (by decide) zf_X5_41 zw_in5 ?_
  refine z_iload_1 dX5_factorAt_16 ?_
  refine z_ialdN dX5_factorAt_17 rfl (by omega) (by first | decide | assumption) ?_
  refine z_goto (tgt := 22) dX5_factorAt_18 (by decide) ?_
  exact z_iret dX5_factorAt_22 rfl rfl rfl rfl
theorem k_offsetAt (T : TS) (k : Nat) (h1 : 1 ≤ k) (h2 : k < 128) : zM sc yX5_offsetAt cX5_offsetAt 2 (some .int) 0 0 0 [.ref 0, .int (nI k)] (th T) (.inl (some (.int (tog T k)))) (th T) := by
  refine zM.at (ls := [some (.ref 0), some (.int (nI k))]) zy_X5_offsetAt.2.2.2.2.2 (Nat.le_of_ble_eq_true rfl) rfl ?_
  refine z_iload_1 dX5_offsetAt_0 ?_
  refine z_iconst (v := 1) dX5_offsetAt_1 rfl ?_
  refine z_icmp_lt_f 21 dX5_offsetAt_2 (by decide) (by first | assumption | (simp (disch := omega) only [Int32.lt_iff_toInt_lt, Int32.le_iff_toInt_le, nI_toInt, Int32.reduceToInt] at *; omega) | (simp (disch := omega) only [Int32.lt_iff_toInt_lt, Int32.le_iff_toInt_le, nI_toInt, Int32.reduceToInt]; omega)) ?_
  refine z_iload_1 dX5_offsetAt_5 ?_
  refine z_sipush (v := 128) dX5_offsetAt_6 rfl ?_
  refine z_icmp_ge_f 21 dX5_offsetAt_9 (by decide) (by first | assumption | (simp (disch := omega) only [Int32.lt_iff_toInt_lt, Int32.le_iff_toInt_le, nI_toInt, Int32.reduceToInt] at *; omega) | (simp (disch := omega) only [Int32.lt_iff_toInt_lt, Int32.le_iff_toInt_le, nI_toInt, Int32.reduceToInt]; omega)) ?_
  refine z_aload_0 dX5_offsetAt_12 ?_
  refine z_get (k := 10) dX5_offsetAt_13 rfl rfl rfl (by decide) zf_X5_44 zw_in5 ?_
  refine z_iload_1 dX5_offsetAt_16 ?_
  refine z_ialdN dX5_offsetAt_17 rfl (by omega) (by first | decide | assumption) ?_
  refine z_goto (tgt := 22) dX5_offsetAt_18 (by decide) ?_
  exact z_iret dX5_offsetAt_22 rfl rfl rfl rfl
theorem k_sumAt (T : TS) (k : Nat) (h1 : 1 ≤ k) (h2 : k < 128) : zM sc yX5_sumAt cX5_sumAt 2 (some .long) 0 0 0 [.ref 0, .int (nI k)] (th T) (.inl (some (.long (tS T k)))) (th T) := by
  refine zM.at (ls := [some (.ref 0), some (.int (nI k))]) zy_X5_sumAt.2.2.2.2.2 (Nat.le_of_ble_eq_true rfl) rfl ?_
  refine z_iload_1 dX5_sumAt_0 ?_
  refine z_iconst (v := 1) dX5_sumAt_1 rfl ?_
  refine z_icmp_lt_f 21 dX5_sumAt_2 (by decide) (by first | assumption | (simp (disch := omega) only [Int32.lt_iff_toInt_lt, Int32.le_iff_toInt_le, nI_toInt, Int32.reduceToInt] at *; omega) | (simp (disch := omega) only [Int32.lt_iff_toInt_lt, Int32.le_iff_toInt_le, nI_toInt, Int32.reduceToInt]; omega)) ?_
  refine z_iload_1 dX5_sumAt_5 ?_
  refine z_sipush (v := 128) dX5_sumAt_6 rfl ?_
  refine z_icmp_ge_f 21 dX5_sumAt_9 (by decide) (by first | assumption | (simp (disch := omega) only [Int32.lt_iff_toInt_lt, Int32.le_iff_toInt_le, nI_toInt, Int32.reduceToInt] at *; omega) | (simp (disch := omega) only [Int32.lt_iff_toInt_lt, Int32.le_iff_toInt_le, nI_toInt, Int32.reduceToInt]; omega)) ?_
  refine z_aload_0 dX5_sumAt_12 ?_
  refine z_get (k := 6) dX5_sumAt_13 rfl rfl rfl (by decide) zf_X5_31 zw_in5 ?_
  refine z_iload_1 dX5_sumAt_16 ?_
  refine z_laldN dX5_sumAt_17 rfl (by omega) (by first | decide | assumption) ?_
  refine z_goto (tgt := 22) dX5_sumAt_18 (by decide) ?_
  exact z_lret dX5_sumAt_22 rfl rfl rfl
theorem k_valueAt (T : TS) (k : Nat) (h2 : k < 40) : zM sc yX5_valueAt cX5_valueAt 2 (some .int) 0 0 0 [.ref 0, .int (nI k)] (th T) (.inl (some (.int (tva T k)))) (th T) := by
  refine zM.at (ls := [some (.ref 0), some (.int (nI k))]) zy_X5_valueAt.2.2.2.2.2 (Nat.le_of_ble_eq_true rfl) rfl ?_
  refine z_iload_1 dX5_valueAt_0 ?_
  refine z_if_lt_f 19 dX5_valueAt_1 (by decide) (by first | assumption | (simp (disch := omega) only [Int32.lt_iff_toInt_lt, Int32.le_iff_toInt_le, nI_toInt, Int32.reduceToInt] at *; omega) | (simp (disch := omega) only [Int32.lt_iff_toInt_lt, Int32.le_iff_toInt_le, nI_toInt, Int32.reduceToInt]; omega)) ?_
  refine z_iload_1 dX5_valueAt_4 ?_
  refine z_bipush (v := 40) dX5_valueAt_5 rfl ?_
  refine z_icmp_ge_f 19 dX5_valueAt_7 (by decide) (by first | assumption | (simp (disch := omega) only [Int32.lt_iff_toInt_lt, Int32.le_iff_toInt_le, nI_toInt, Int32.reduceToInt] at *; omega) | (simp (disch := omega) only [Int32.lt_iff_toInt_lt, Int32.le_iff_toInt_le, nI_toInt, Int32.reduceToInt]; omega)) ?_
  refine z_aload_0 dX5_valueAt_10 ?_
  refine z_get (k := 11) dX5_valueAt_11 rfl rfl rfl (by decide) zf_X5_47 zw_in5 ?_
  refine z_iload_1 dX5_valueAt_14 ?_
  refine z_ialdN dX5_valueAt_15 rfl (by omega) (by first | decide | assumption) ?_
  refine z_goto (tgt := 20) dX5_valueAt_16 (by decide) ?_
  exact z_iret dX5_valueAt_20 rfl rfl rfl rfl
theorem k_has (T : TS) (k : Nat) (h1 : 1 ≤ k) (h2 : k < 128) : zM sc yX5_has cX5_has 2 (some .boolean) 0 0 0 [.ref 0, .int (nI k)] (th T) (.inl (some (.int (zb (decide (¬ tF T k = -1)))))) (th T) := by
  refine zM.at (ls := [some (.ref 0), some (.int (nI k))]) zy_X5_has.2.2.2.2.2 (Nat.le_of_ble_eq_true rfl) rfl ?_
  refine z_iload_1 dX5_has_0 ?_
  refine z_iconst (v := 1) dX5_has_1 rfl ?_
  refine z_icmp_lt_f 26 dX5_has_2 (by decide) (by first | assumption | (simp (disch := omega) only [Int32.lt_iff_toInt_lt, Int32.le_iff_toInt_le, nI_toInt, Int32.reduceToInt] at *; omega) | (simp (disch := omega) only [Int32.lt_iff_toInt_lt, Int32.le_iff_toInt_le, nI_toInt, Int32.reduceToInt]; omega)) ?_
  refine z_iload_1 dX5_has_5 ?_
  refine z_sipush (v := 128) dX5_has_6 rfl ?_
  refine z_icmp_ge_f 26 dX5_has_9 (by decide) (by first | assumption | (simp (disch := omega) only [Int32.lt_iff_toInt_lt, Int32.le_iff_toInt_le, nI_toInt, Int32.reduceToInt] at *; omega) | (simp (disch := omega) only [Int32.lt_iff_toInt_lt, Int32.le_iff_toInt_le, nI_toInt, Int32.reduceToInt]; omega)) ?_
  refine z_aload_0 dX5_has_12 ?_
  refine z_get (k := 4) dX5_has_13 rfl rfl rfl (by decide) zf_X5_24 zw_in5 ?_
  refine z_iload_1 dX5_has_16 ?_
  refine z_ialdN dX5_has_17 rfl (by omega) (by first | decide | assumption) ?_
  refine z_iconst (v := (-1)) dX5_has_18 rfl ?_
  refine z_icmp_eq (tgt := 26) dX5_has_19 (by decide) (fun c => ?_) (fun c => ?_)
  · refine z_iconst (v := 0) dX5_has_26 rfl ?_
    exact z_iret dX5_has_27 rfl rfl (by rw [decide_eq_false (fun z => z c)]; rfl) rfl
  · refine z_iconst (v := 1) dX5_has_22 rfl ?_
    refine z_goto (tgt := 27) dX5_has_23 (by decide) ?_
    exact z_iret dX5_has_27 rfl rfl (by rw [decide_eq_true c]; rfl) rfl
