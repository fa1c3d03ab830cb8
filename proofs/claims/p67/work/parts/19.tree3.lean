variable {sc : SC}
def tPush2 (T : TS) (k : Nat) : TS := (tn T, tu T, tp T + 1, ta T, tF T, tL T, tS T, tlo T, thi T, upd (tfa T) k 1, upd (tog T) k 0, tva T)
def tPush1 (T : TS) (k : Nat) : TS := tPush2 (tMark T (2 * k + 1) (tfa T k) (tog T k)) k
def tPush (T : TS) (k : Nat) : TS := tPush1 (tMark T (2 * k) (tfa T k) (tog T k)) k
abbrev tIn (T : TS) (k : Nat) : Prop := k < 64 ∧ tF T k < tL T k
abbrev tMk (T : TS) (k : Nat) : Prop := ¬ tfa T k = 1 ∨ ¬ tog T k = 0
abbrev tDo (T : TS) (k : Nat) : Prop := tIn T k ∧ tMk T k
theorem k_isInner' (T : TS) (k : Nat) (h1 : 1 ≤ k) (h2 : k < 128) : zM sc yX5_isInner cX5_isInner 2 (some .boolean) 0 0 0 [.ref 0, .int (nI k)] (th T) (.inl (some (.int (zb (decide (tIn T k)))))) (th T) := by
  rcases Nat.lt_or_ge k 64 with q | q
  · have e : decide (tIn T k) = decide (tF T k < tL T k) := decide_eq_decide.mpr ⟨fun z => z.2, fun z => ⟨q, z⟩⟩
    rw [e]
    exact k_isInner T k h1 q
  · have e : decide (tIn T k) = false := decide_eq_false (fun z => by omega)
    rw [e]
    exact k_isInnerBig T k q (by omega)
theorem k_push (T : TS) (k : Nat) (h1 : 1 ≤ k) (h2 : k < 128) : zM sc yX5_push cX5_push 2 (some .boolean) 1 0 0 [.ref 0, .int (nI k)] (th T) (.inl (some (.int (zb (decide (tDo T k)))))) (th (if tDo T k then tPush T k else T)) := by
  refine zM.at (ls := [some (.ref 0), some (.int (nI k))]) zy_X5_push.2.2.2.2.2 (Nat.le_of_ble_eq_true rfl) rfl ?_
  refine z_aload_0 dX5_push_0 ?_
  refine z_iload_1 dX5_push_1 ?_
  refine Z.call0s (zRun.V (ρ := fun i => i) (k_isInner' T k h1 h2) dX5_push_2 zy_X5_isInner zm_X5_65 rfl rfl rfl rfl (Nat.le_of_ble_eq_true rfl) (by decide) (by decide)) (zlen2 9 rfl rfl) ?_
  refine z_if_eq (tgt := 16) dX5_push_5 (by decide) (fun c => ?_) (fun c => ?_)
  · refine z_iconst (v := 0) dX5_push_16 rfl ?_
    exact z_iret dX5_push_17 rfl rfl (congrArg (fun z => Sum.inl (some (Value.int z))) (zbf (fun z : tDo T k => zb0 c z.1))) (congrArg th (if_neg (fun z : tDo T k => zb0 c z.1))).symm
  · refine z_aload_0 dX5_push_8 ?_
    refine z_iload_1 dX5_push_9 ?_
    refine Z.call0s (zRun.V (ρ := fun i => i) (k_isMarked T k h1 h2) dX5_push_10 zy_X5_isMarked zm_X5_98 rfl rfl rfl rfl (Nat.le_of_ble_eq_true rfl) (by decide) (by decide)) (zlen2 9 rfl rfl) ?_
    have c1 := zb1 c
    refine z_if_ne (tgt := 18) dX5_push_13 (by decide) (fun c2 => ?_) (fun c2 => ?_)
    · have c2 := zb1 c2
      have h64 : k < 64 := (zb1 c).1
      refine z_aload_0 dX5_push_18 ?_
      refine z_iconst (v := 2) dX5_push_19 rfl ?_
      refine z_iload_1 dX5_push_20 ?_
      refine z_imul dX5_push_21 ?_
      refine z_topi (w := nI (2 * k)) (zq2 k) ?_
      refine z_aload_0 dX5_push_22 ?_
      refine z_get (k := 9) dX5_push_23 rfl rfl rfl (by decide) zf_X5_41 zw_in5 ?_
      refine z_iload_1 dX5_push_26 ?_
      refine z_ialdN dX5_push_27 rfl (by omega) (by decide) ?_
      refine z_aload_0 dX5_push_28 ?_
      refine z_get (k := 10) dX5_push_29 rfl rfl rfl (by decide) zf_X5_44 zw_in5 ?_
      refine z_iload_1 dX5_push_32 ?_
      refine z_ialdN dX5_push_33 rfl (by omega) (by decide) ?_
      refine Z.call0n (zRun.V (ρ := fun i => i) (k_mark T (2 * k) (tfa T k) (tog T k) (by omega) (by omega)) dX5_push_34 zy_X5_mark zm_X5_101 rfl rfl rfl rfl (Nat.le_of_ble_eq_true rfl) (by decide) (by decide)) (zlen2 9 rfl rfl) ?_
      refine Z.nameT (fun T1 e1 => ?_)
      refine z_aload_0 dX5_push_37 ?_
      refine z_iconst (v := 2) dX5_push_38 rfl ?_
      refine z_iload_1 dX5_push_39 ?_
      refine z_imul dX5_push_40 ?_
      refine z_topi (w := nI (2 * k)) (zq2 k) ?_
      refine z_iconst (v := 1) dX5_push_41 rfl ?_
      refine z_iadd dX5_push_42 ?_
      refine z_topi (w := nI (2 * k + 1)) (zq1 _) ?_
      refine z_aload_0 dX5_push_43 ?_
      refine z_get (k := 9) dX5_push_44 rfl rfl rfl (by decide) zf_X5_41 zw_in5 ?_
      refine z_iload_1 dX5_push_47 ?_
      refine z_ialdN dX5_push_48 rfl (by omega) (by decide) ?_
      refine z_aload_0 dX5_push_49 ?_
      refine z_get (k := 10) dX5_push_50 rfl rfl rfl (by decide) zf_X5_44 zw_in5 ?_
      refine z_iload_1 dX5_push_53 ?_
      refine z_ialdN dX5_push_54 rfl (by omega) (by decide) ?_
      refine Z.call0n (zRun.V (ρ := fun i => i) (k_mark T1 (2 * k + 1) (tfa T1 k) (tog T1 k) (by omega) (by omega)) dX5_push_55 zy_X5_mark zm_X5_101 rfl rfl rfl rfl (Nat.le_of_ble_eq_true rfl) (by decide) (by decide)) (zlen2 9 rfl rfl) ?_
      refine Z.nameT (fun T2 e2 => ?_)
      refine z_aload_0 dX5_push_58 ?_
      refine z_get (k := 9) dX5_push_59 rfl rfl rfl (by decide) zf_X5_41 zw_in5 ?_
      refine z_iload_1 dX5_push_62 ?_
      refine z_iconst (v := 1) dX5_push_63 rfl ?_
      refine z_iastN dX5_push_64 rfl (by omega) (by decide) ?_
      refine z_aload_0 dX5_push_65 ?_
      refine z_get (k := 10) dX5_push_66 rfl rfl rfl (by decide) zf_X5_44 zw_in5 ?_
      refine z_iload_1 dX5_push_69 ?_
      refine z_iconst (v := 0) dX5_push_70 rfl ?_
      refine z_iastN dX5_push_71 rfl (by omega) (by decide) ?_
      refine z_aload_0 dX5_push_72 ?_
      refine z_dup dX5_push_73 rfl ?_
      refine z_get (k := 2) dX5_push_74 rfl rfl rfl (by decide) zf_X5_18 zw_in5 ?_
      refine z_iconst (v := 1) dX5_push_77 rfl ?_
      refine z_iadd dX5_push_78 ?_
      refine z_put (k := 2) (ty := tyX5) dX5_push_79 rfl rfl (by decide) zf_X5_18 zw_in5 tyX5_ok nmX5 rfl (fun _ => ⟨rfl, rfl⟩) (Nat.le_of_ble_eq_true rfl) ?_
      refine z_iconst (v := 1) dX5_push_82 rfl ?_
      exact z_iret dX5_push_83 rfl rfl (congrArg (fun z => Sum.inl (some (Value.int z))) (zbt (P := tDo T k) ⟨c1, c2⟩)) (by rw [if_pos (show tDo T k from ⟨c1, c2⟩), tPush, ← e1, tPush1, ← e2]; rfl)
    · refine z_iconst (v := 0) dX5_push_16 rfl ?_
      exact z_iret dX5_push_17 rfl rfl (congrArg (fun z => Sum.inl (some (Value.int z))) (zbf (fun z : tDo T k => zb0 c2 z.2))) (congrArg th (if_neg (fun z : tDo T k => zb0 c2 z.2))).symm
abbrev tIns (T : TS) (k : Nat) (f t : Int32) : Prop := f ≤ tF T k ∧ tL T k ≤ t
abbrev tPas (T : TS) (k : Nat) (f t : Int32) : Prop := (tF T k ≤ t ∧ f ≤ tL T k) ∧ (tF T k < f ∨ t < tL T k)
theorem k_isInside (T : TS) (k : Nat) (f t : Int32) (h1 : 1 ≤ k) (h2 : k < 128) : zM sc yX5_isInside cX5_isInside 4 (some .boolean) 0 0 0 [.ref 0, .int (nI k), .int f, .int t] (th T) (.inl (some (.int (zb (decide (tIns T k f t)))))) (th T) := by
  refine zM.at (ls := [some (.ref 0), some (.int (nI k)), some (.int f), some (.int t)]) zy_X5_isInside.2.2.2.2.2 (Nat.le_of_ble_eq_true rfl) rfl ?_
  refine z_iload_1 dX5_isInside_0 ?_
  refine z_iconst (v := 1) dX5_isInside_1 rfl ?_
  refine z_icmp_lt_f 36 dX5_isInside_2 (by decide) (by first | assumption | (simp (disch := omega) only [Int32.lt_iff_toInt_lt, Int32.le_iff_toInt_le, nI_toInt, Int32.reduceToInt] at *; omega) | (simp (disch := omega) only [Int32.lt_iff_toInt_lt, Int32.le_iff_toInt_le, nI_toInt, Int32.reduceToInt]; omega)) ?_
  refine z_iload_1 dX5_isInside_5 ?_
  refine z_sipush (v := 128) dX5_isInside_6 rfl ?_
  refine z_icmp_ge_f 36 dX5_isInside_9 (by decide) (by first | assumption | (simp (disch := omega) only [Int32.lt_iff_toInt_lt, Int32.le_iff_toInt_le, nI_toInt, Int32.reduceToInt] at *; omega) | (simp (disch := omega) only [Int32.lt_iff_toInt_lt, Int32.le_iff_toInt_le, nI_toInt, Int32.reduceToInt]; omega)) ?_
  refine z_aload_0 dX5_isInside_12 ?_
  refine z_get (k := 4) dX5_isInside_13 rfl rfl rfl (by decide) zf_X5_24 zw_in5 ?_
  refine z_iload_1 dX5_isInside_16 ?_
  refine z_ialdN dX5_isInside_17 rfl (by omega) (by decide) ?_
  refine z_iload_2 dX5_isInside_18 ?_
  refine z_icmp_lt (tgt := 36) dX5_isInside_19 (by decide) (fun c => ?_) (fun c => ?_)
  · refine z_iconst (v := 0) dX5_isInside_36 rfl ?_
    exact z_iret dX5_isInside_37 rfl rfl (congrArg (fun z => Sum.inl (some (Value.int z))) (zbf (fun z : tIns T k f t => absurd z.1 (Int32.not_le.mpr c)))) rfl
  · refine z_aload_0 dX5_isInside_22 ?_
    refine z_get (k := 5) dX5_isInside_23 rfl rfl rfl (by decide) zf_X5_28 zw_in5 ?_
    refine z_iload_1 dX5_isInside_26 ?_
    refine z_ialdN dX5_isInside_27 rfl (by omega) (by decide) ?_
    refine z_iload_3 dX5_isInside_28 ?_
    refine z_icmp_gt (tgt := 36) dX5_isInside_29 (by decide) (fun c2 => ?_) (fun c2 => ?_)
    · refine z_iconst (v := 0) dX5_isInside_36 rfl ?_
      exact z_iret dX5_isInside_37 rfl rfl (congrArg (fun z => Sum.inl (some (Value.int z))) (zbf (fun z : tIns T k f t => absurd z.2 (Int32.not_le.mpr c2)))) rfl
    · refine z_iconst (v := 1) dX5_isInside_32 rfl ?_
      refine z_goto (tgt := 37) dX5_isInside_33 (by decide) ?_
      exact z_iret dX5_isInside_37 rfl rfl (congrArg (fun z => Sum.inl (some (Value.int z))) (zbt (P := tIns T k f t) ⟨Int32.not_lt.mp c, Int32.not_lt.mp c2⟩)) rfl
theorem k_isInside0 (T : TS) (f t : Int32) : zM sc yX5_isInside cX5_isInside 4 (some .boolean) 0 0 0 [.ref 0, .int 0, .int f, .int t] (th T) (.inl (some (.int (0)))) (th T) := by
  refine zM.at (ls := [some (.ref 0), some (.int 0), some (.int f), some (.int t)]) zy_X5_isInside.2.2.2.2.2 (Nat.le_of_ble_eq_true rfl) rfl ?_
  refine z_iload_1 dX5_isInside_0 ?_
  refine z_iconst (v := 1) dX5_isInside_1 rfl ?_
  refine z_icmp_lt_t (tgt := 36) dX5_isInside_2 (by decide) (by first | assumption | (simp (disch := omega) only [Int32.lt_iff_toInt_lt, Int32.le_iff_toInt_le, nI_toInt, Int32.reduceToInt] at *; omega) | (simp (disch := omega) only [Int32.lt_iff_toInt_lt, Int32.le_iff_toInt_le, nI_toInt, Int32.reduceToInt]; omega)) ?_
  refine z_iconst (v := 0) dX5_isInside_36 rfl ?_
  exact z_iret dX5_isInside_37 rfl rfl rfl rfl
theorem k_isPassed (T : TS) (k : Nat) (f t : Int32) (h1 : 1 ≤ k) (h2 : k < 128) : zM sc yX5_isPassed cX5_isPassed 4 (some .boolean) 0 0 0 [.ref 0, .int (nI k), .int f, .int t] (th T) (.inl (some (.int (zb (decide (tPas T k f t)))))) (th T) := by
  refine zM.at (ls := [some (.ref 0), some (.int (nI k)), some (.int f), some (.int t)]) zy_X5_isPassed.2.2.2.2.2 (Nat.le_of_ble_eq_true rfl) rfl ?_
  refine z_iload_1 dX5_isPassed_0 ?_
  refine z_iconst (v := 1) dX5_isPassed_1 rfl ?_
  refine z_icmp_lt_f 56 dX5_isPassed_2 (by decide) (by first | assumption | (simp (disch := omega) only [Int32.lt_iff_toInt_lt, Int32.le_iff_toInt_le, nI_toInt, Int32.reduceToInt] at *; omega) | (simp (disch := omega) only [Int32.lt_iff_toInt_lt, Int32.le_iff_toInt_le, nI_toInt, Int32.reduceToInt]; omega)) ?_
  refine z_iload_1 dX5_isPassed_5 ?_
  refine z_sipush (v := 128) dX5_isPassed_6 rfl ?_
  refine z_icmp_ge_f 56 dX5_isPassed_9 (by decide) (by first | assumption | (simp (disch := omega) only [Int32.lt_iff_toInt_lt, Int32.le_iff_toInt_le, nI_toInt, Int32.reduceToInt] at *; omega) | (simp (disch := omega) only [Int32.lt_iff_toInt_lt, Int32.le_iff_toInt_le, nI_toInt, Int32.reduceToInt]; omega)) ?_
  refine z_aload_0 dX5_isPassed_12 ?_
  refine z_get (k := 4) dX5_isPassed_13 rfl rfl rfl (by decide) zf_X5_24 zw_in5 ?_
  refine z_iload_1 dX5_isPassed_16 ?_
  refine z_ialdN dX5_isPassed_17 rfl (by omega) (by decide) ?_
  refine z_iload_3 dX5_isPassed_18 ?_
  refine z_icmp_gt (tgt := 56) dX5_isPassed_19 (by decide) (fun c => ?_) (fun c => ?_)
  · refine z_iconst (v := 0) dX5_isPassed_56 rfl ?_
    exact z_iret dX5_isPassed_57 rfl rfl (congrArg (fun z => Sum.inl (some (Value.int z))) (zbf (fun z : tPas T k f t => absurd z.1.1 (Int32.not_le.mpr c)))) rfl
  · refine z_aload_0 dX5_isPassed_22 ?_
    refine z_get (k := 5) dX5_isPassed_23 rfl rfl rfl (by decide) zf_X5_28 zw_in5 ?_
    refine z_iload_1 dX5_isPassed_26 ?_
    refine z_ialdN dX5_isPassed_27 rfl (by omega) (by decide) ?_
    refine z_iload_2 dX5_isPassed_28 ?_
    refine z_icmp_lt (tgt := 56) dX5_isPassed_29 (by decide) (fun c2 => ?_) (fun c2 => ?_)
    · refine z_iconst (v := 0) dX5_isPassed_56 rfl ?_
      exact z_iret dX5_isPassed_57 rfl rfl (congrArg (fun z => Sum.inl (some (Value.int z))) (zbf (fun z : tPas T k f t => absurd z.1.2 (Int32.not_le.mpr c2)))) rfl
    · refine z_aload_0 dX5_isPassed_32 ?_
      refine z_get (k := 4) dX5_isPassed_33 rfl rfl rfl (by decide) zf_X5_24 zw_in5 ?_
      refine z_iload_1 dX5_isPassed_36 ?_
      refine z_ialdN dX5_isPassed_37 rfl (by omega) (by decide) ?_
      refine z_iload_2 dX5_isPassed_38 ?_
      refine z_icmp_lt (tgt := 52) dX5_isPassed_39 (by decide) (fun c3 => ?_) (fun c3 => ?_)
      · refine z_iconst (v := 1) dX5_isPassed_52 rfl ?_
        refine z_goto (tgt := 57) dX5_isPassed_53 (by decide) ?_
        exact z_iret dX5_isPassed_57 rfl rfl (congrArg (fun z => Sum.inl (some (Value.int z))) (zbt (P := tPas T k f t) ⟨⟨Int32.not_lt.mp c, Int32.not_lt.mp c2⟩, Or.inl c3⟩)) rfl
      · refine z_aload_0 dX5_isPassed_42 ?_
        refine z_get (k := 5) dX5_isPassed_43 rfl rfl rfl (by decide) zf_X5_28 zw_in5 ?_
        refine z_iload_1 dX5_isPassed_46 ?_
        refine z_ialdN dX5_isPassed_47 rfl (by omega) (by decide) ?_
        refine z_iload_3 dX5_isPassed_48 ?_
        refine z_icmp_le (tgt := 56) dX5_isPassed_49 (by decide) (fun c4 => ?_) (fun c4 => ?_)
        · refine z_iconst (v := 0) dX5_isPassed_56 rfl ?_
          exact z_iret dX5_isPassed_57 rfl rfl (congrArg (fun z => Sum.inl (some (Value.int z))) (zbf (fun z : tPas T k f t => z.2.elim c3 (fun z => absurd z (Int32.not_lt.mpr c4))))) rfl
        · refine z_iconst (v := 1) dX5_isPassed_52 rfl ?_
          refine z_goto (tgt := 57) dX5_isPassed_53 (by decide) ?_
          exact z_iret dX5_isPassed_57 rfl rfl (congrArg (fun z => Sum.inl (some (Value.int z))) (zbt (P := tPas T k f t) ⟨⟨Int32.not_lt.mp c, Int32.not_lt.mp c2⟩, Or.inr (Int32.not_le.mp c4)⟩)) rfl
