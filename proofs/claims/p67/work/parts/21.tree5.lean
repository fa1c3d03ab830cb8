variable {sc : SC}
theorem l_fill (m : Nat) (f : Nat → Int32) (v : Int32) (hm : m < 2 ^ 31) : ∀ (n : Nat) (i : Nat), i + n = m → Z sc yJ7_fill_53178 cJ7_fill_53178 4 none 0 0 0 5 [some (.ref 0), some (.int v), some (.int (nI i)), some (.int (nI m))] [] ([.inl (0, m, .inl (zfl f v i))]) (.inl none) ([.inl (0, m, .inl (zfl f v m))]) := by
  intro n
  induction n with
  | zero =>
    intro i hi
    refine z_iload_2 dJ7_fill_53178_5 ?_
    refine z_iload_3 dJ7_fill_53178_6 ?_
    refine z_icmp_ge_t (tgt := 20) dJ7_fill_53178_7 (by decide) (by first | assumption | (simp (disch := omega) only [Int32.lt_iff_toInt_lt, Int32.le_iff_toInt_le, nI_toInt, Int32.reduceToInt] at *; omega) | (simp (disch := omega) only [Int32.lt_iff_toInt_lt, Int32.le_iff_toInt_le, nI_toInt, Int32.reduceToInt]; omega)) ?_
    exact z_vret dJ7_fill_53178_20 rfl rfl (by rw [show i = m by omega])
  | succ n ih =>
    intro i hi
    refine z_iload_2 dJ7_fill_53178_5 ?_
    refine z_iload_3 dJ7_fill_53178_6 ?_
    refine z_icmp_ge_f 20 dJ7_fill_53178_7 (by decide) (by first | assumption | (simp (disch := omega) only [Int32.lt_iff_toInt_lt, Int32.le_iff_toInt_le, nI_toInt, Int32.reduceToInt] at *; omega) | (simp (disch := omega) only [Int32.lt_iff_toInt_lt, Int32.le_iff_toInt_le, nI_toInt, Int32.reduceToInt]; omega)) ?_
    refine z_aload_0 dJ7_fill_53178_10 ?_
    refine z_iload_2 dJ7_fill_53178_11 ?_
    refine z_iload_1 dJ7_fill_53178_12 ?_
    refine z_iastN dJ7_fill_53178_13 rfl (by omega) (by first | decide | assumption) ?_
    refine Z.heap (h2 := [.inl (0, m, .inl (zfl f v (i + 1)))]) (congrArg (fun z => [(.inl (0, m, .inl z) : zO)]) (zfl_up f v i)) ?_
    refine z_iinc_2 (v := nI (i + 1)) dJ7_fill_53178_14 (zinc _) rfl (by decide) ?_
    refine z_goto (tgt := 5) dJ7_fill_53178_17 (by decide) ?_
    exact ih (i + 1) (by omega)
theorem k_fill (m : Nat) (f : Nat → Int32) (v : Int32) (hm : m < 2 ^ 31) : zM sc yJ7_fill_53178 cJ7_fill_53178 4 none 0 0 0 [.ref 0, .int v] ([.inl (0, m, .inl f)]) (.inl none) ([.inl (0, m, .inl (zfl f v m))]) := by
  refine zM.at (ls := [some (.ref 0), some (.int v), none, none]) zy_J7_fill_53178.2.2.2.2 (Nat.le_of_ble_eq_true rfl) rfl ?_
  refine z_iconst (v := 0) dJ7_fill_53178_0 rfl ?_
  refine z_istore_2 dJ7_fill_53178_1 rfl (by decide) ?_
  refine z_aload_0 dJ7_fill_53178_2 ?_
  refine z_alen (fun _ => rfl) dJ7_fill_53178_3 rfl ?_
  show Z sc _ _ _ _ _ _ _ _ _ [.int (nI m)] _ _ _
  refine z_istore_3 dJ7_fill_53178_4 rfl (by decide) ?_
  refine Z.heap (congrArg (fun z => [(.inl (0, m, .inl z) : zO)]) (zfl_0 f v)) ?_
  exact l_fill m f v hm m 0 (by omega)
def tRead (k : Nat) (T : TS) : TS := if (0 ≤ tF T k ∧ tF T k < 40) ∧ tF T k = tL T k then (tn T, tu T, tp T, ta T, tF T, tL T, tS T, tlo T, thi T, tfa T, tog T, upd (tva T) (tF T k).toNatClampNeg (tUp T 7 (k / 2) (tlo T k))) else T
def tReads (T : TS) : TS := zup tRead 127 1 T
theorem l_readValues  : ∀ (n : Nat) (k : Nat) (T : TS) (j : Option Value), k + n = 128 → 1 ≤ k → Z sc yX5_readValues cX5_readValues 3 none 1 0 0 2 [some (.ref 0), some (.int (nI k)), j] [] (th T) (.inl none) (th (zup tRead n k T)) := by
  intro n
  induction n with
  | zero =>
    intro k T j hk h1
    refine z_iload_1 dX5_readValues_2 ?_
    refine z_sipush (v := 128) dX5_readValues_3 rfl ?_
    refine z_icmp_ge_t (tgt := 59) dX5_readValues_6 (by decide) (by first | assumption | (simp (disch := omega) only [Int32.lt_iff_toInt_lt, Int32.le_iff_toInt_le, nI_toInt, Int32.reduceToInt] at *; omega) | (simp (disch := omega) only [Int32.lt_iff_toInt_lt, Int32.le_iff_toInt_le, nI_toInt, Int32.reduceToInt]; omega)) ?_
    exact z_vret dX5_readValues_59 rfl rfl rfl
  | succ n ih =>
    intro k T j hk h1
    refine z_iload_1 dX5_readValues_2 ?_
    refine z_sipush (v := 128) dX5_readValues_3 rfl ?_
    refine z_icmp_ge_f 59 dX5_readValues_6 (by decide) (by first | assumption | (simp (disch := omega) only [Int32.lt_iff_toInt_lt, Int32.le_iff_toInt_le, nI_toInt, Int32.reduceToInt] at *; omega) | (simp (disch := omega) only [Int32.lt_iff_toInt_lt, Int32.le_iff_toInt_le, nI_toInt, Int32.reduceToInt]; omega)) ?_
    refine z_aload_0 dX5_readValues_9 ?_
    refine z_get (k := 4) dX5_readValues_10 rfl rfl rfl (by decide) zf_X5_24 zw_in5 ?_
    refine z_iload_1 dX5_readValues_13 ?_
    refine z_ialdN dX5_readValues_14 rfl (by omega) (by first | decide | assumption) ?_
    refine z_istore_2 dX5_readValues_15 rfl (by decide) ?_
    refine z_iload_2 dX5_readValues_16 ?_
    refine z_if_lt (tgt := 53) dX5_readValues_17 (by decide) (fun c => ?_) (fun c => ?_)
    · refine z_iinc_1 (v := nI (k + 1)) dX5_readValues_53 (zinc _) rfl (by decide) ?_
      refine z_goto (tgt := 2) dX5_readValues_56 (by decide) ?_
      have e : tRead k T = T := if_neg (fun z => absurd z.1.1 (Int32.not_le.mpr c))
      rw [zup, e]
      exact ih (k + 1) T _ (by omega) (by omega)
    · refine z_iload_2 dX5_readValues_20 ?_
      refine z_bipush (v := 40) dX5_readValues_21 rfl ?_
      refine z_icmp_ge (tgt := 53) dX5_readValues_23 (by decide) (fun c2 => ?_) (fun c2 => ?_)
      · refine z_iinc_1 (v := nI (k + 1)) dX5_readValues_53 (zinc _) rfl (by decide) ?_
        refine z_goto (tgt := 2) dX5_readValues_56 (by decide) ?_
        have e : tRead k T = T := if_neg (fun z => absurd z.1.2 (Int32.not_lt.mpr c2))
        rw [zup, e]
        exact ih (k + 1) T _ (by omega) (by omega)
      · refine z_iload_2 dX5_readValues_26 ?_
        refine z_aload_0 dX5_readValues_27 ?_
        refine z_get (k := 5) dX5_readValues_28 rfl rfl rfl (by decide) zf_X5_28 zw_in5 ?_
        refine z_iload_1 dX5_readValues_31 ?_
        refine z_ialdN dX5_readValues_32 rfl (by omega) (by first | decide | assumption) ?_
        refine z_icmp_ne (tgt := 53) dX5_readValues_33 (by decide) (fun c3 => ?_) (fun c3 => ?_)
        · refine z_iinc_1 (v := nI (k + 1)) dX5_readValues_53 (zinc _) rfl (by decide) ?_
          refine z_goto (tgt := 2) dX5_readValues_56 (by decide) ?_
          have e : tRead k T = T := if_neg (fun z => c3 z.2)
          rw [zup, e]
          exact ih (k + 1) T _ (by omega) (by omega)
        · refine z_aload_0 dX5_readValues_36 ?_
          refine z_get (k := 11) dX5_readValues_37 rfl rfl rfl (by decide) zf_X5_47 zw_in5 ?_
          refine z_iload_2 dX5_readValues_40 ?_
          refine z_aload_0 dX5_readValues_41 ?_
          refine z_iload_1 dX5_readValues_42 ?_
          refine z_aload_0 dX5_readValues_43 ?_
          refine z_get (k := 7) dX5_readValues_44 rfl rfl rfl (by decide) zf_X5_35 zw_in5 ?_
          refine z_iload_1 dX5_readValues_47 ?_
          refine z_ialdN dX5_readValues_48 rfl (by omega) (by first | decide | assumption) ?_
          refine Z.call0s (zRun.V (ρ := fun i => i) (k_underMarksAbove T k (tlo T k) (by omega)) dX5_readValues_49 zy_X5_underMarksAbove zm_X5_95 rfl rfl rfl rfl (Nat.le_of_ble_eq_true rfl) (by decide) (by decide)) (zlen2 9 rfl rfl) ?_
          refine z_iast dX5_readValues_52 rfl (by rw [vp_in_iff]; simp only [Int32.lt_iff_toInt_lt, Int32.le_iff_toInt_le, Int32.reduceToInt] at c c2; omega) ?_
          refine Z.heap (h2 := th (tRead k T)) (by rw [tRead, if_pos ⟨⟨Int32.not_lt.mp c, Int32.not_le.mp c2⟩, c3⟩]; rfl) ?_
          refine Z.nameT (fun T1 e1 => ?_)
          refine z_iinc_1 (v := nI (k + 1)) dX5_readValues_53 (zinc _) rfl (by decide) ?_
          refine z_goto (tgt := 2) dX5_readValues_56 (by decide) ?_
          rw [zup, ← e1]
          exact ih (k + 1) T1 _ (by omega) (by omega)
theorem k_readValues (T : TS) : zM sc yX5_readValues cX5_readValues 3 none 1 0 0 [.ref 0] (th T) (.inl none) (th (tReads T)) := by
  refine zM.at (ls := [some (.ref 0), none, none]) zy_X5_readValues.2.2.2.2.2 (Nat.le_of_ble_eq_true rfl) rfl ?_
  refine z_iconst (v := 1) dX5_readValues_0 rfl ?_
  refine z_istore_1 dX5_readValues_1 rfl (by decide) ?_
  exact l_readValues 127 1 T _ rfl (by decide)
def tPushIf (T : TS) (k : Nat) : TS := if tDo T k then tPush T k else T
def tPE (k : Nat) (s : TS × Nat) : TS × Nat := (tPushIf s.1 k, if tDo s.1 k then s.2 + 1 else s.2)
def tPushEach (T : TS) : TS × Nat := zup tPE 127 1 (T, 0)
theorem l_pushEach  : ∀ (n : Nat) (k : Nat) (T : TS) (c : Nat), k + n = 128 → 1 ≤ k → Z sc yX5_pushEach cX5_pushEach 3 (some .int) 2 0 0 4 [some (.ref 0), some (.int (nI c)), some (.int (nI k))] [] (th T) (.inl (some (.int (nI (zup tPE n k (T, c)).2)))) (th (zup tPE n k (T, c)).1) := by
  intro n
  induction n with
  | zero =>
    intro k T c hk h1
    refine z_iload_2 dX5_pushEach_4 ?_
    refine z_sipush (v := 128) dX5_pushEach_5 rfl ?_
    refine z_icmp_ge_t (tgt := 28) dX5_pushEach_8 (by decide) (by first | assumption | (simp (disch := omega) only [Int32.lt_iff_toInt_lt, Int32.le_iff_toInt_le, nI_toInt, Int32.reduceToInt] at *; omega) | (simp (disch := omega) only [Int32.lt_iff_toInt_lt, Int32.le_iff_toInt_le, nI_toInt, Int32.reduceToInt]; omega)) ?_
    refine z_iload_1 dX5_pushEach_28 ?_
    exact z_iret dX5_pushEach_29 rfl rfl rfl rfl
  | succ n ih =>
    intro k T c hk h1
    refine z_iload_2 dX5_pushEach_4 ?_
    refine z_sipush (v := 128) dX5_pushEach_5 rfl ?_
    refine z_icmp_ge_f 28 dX5_pushEach_8 (by decide) (by first | assumption | (simp (disch := omega) only [Int32.lt_iff_toInt_lt, Int32.le_iff_toInt_le, nI_toInt, Int32.reduceToInt] at *; omega) | (simp (disch := omega) only [Int32.lt_iff_toInt_lt, Int32.le_iff_toInt_le, nI_toInt, Int32.reduceToInt]; omega)) ?_
    refine z_aload_0 dX5_pushEach_11 ?_
    refine z_iload_2 dX5_pushEach_12 ?_
    refine Z.call0s (zRun.V (ρ := fun i => i) (k_push T k h1 (by omega)) dX5_pushEach_13 zy_X5_push zm_X5_105 rfl rfl rfl rfl (Nat.le_of_ble_eq_true rfl) (by decide) (by decide)) (zlen2 9 rfl rfl) ?_
    refine Z.nameT (fun T1 e1 => ?_)
    refine z_if_eq (tgt := 22) dX5_pushEach_16 (by decide) (fun cc => ?_) (fun cc => ?_)
    · refine z_iinc_2 (v := nI (k + 1)) dX5_pushEach_22 (zinc _) rfl (by decide) ?_
      refine z_goto (tgt := 4) dX5_pushEach_25 (by decide) ?_
      have e : tPE k (T, c) = (T1, c) := by rw [e1]; simp only [tPE, tPushIf, if_neg (zb0 cc)]
      rw [zup, e]
      exact ih (k + 1) T1 c (by omega) (by omega)
    · refine z_iinc_1 (v := nI (c + 1)) dX5_pushEach_19 (zinc _) rfl (by decide) ?_
      refine z_iinc_2 (v := nI (k + 1)) dX5_pushEach_22 (zinc _) rfl (by decide) ?_
      refine z_goto (tgt := 4) dX5_pushEach_25 (by decide) ?_
      have e : tPE k (T, c) = (T1, c + 1) := by rw [e1]; simp only [tPE, tPushIf, if_pos (zb1 cc)]
      rw [zup, e]
      exact ih (k + 1) T1 (c + 1) (by omega) (by omega)
theorem k_pushEach (T : TS) : zM sc yX5_pushEach cX5_pushEach 3 (some .int) 2 0 0 [.ref 0] (th T) (.inl (some (.int (nI (tPushEach T).2)))) (th (tPushEach T).1) := by
  refine zM.at (ls := [some (.ref 0), none, none]) zy_X5_pushEach.2.2.2.2.2 (Nat.le_of_ble_eq_true rfl) rfl ?_
  refine z_iconst (v := 0) dX5_pushEach_0 rfl ?_
  refine z_istore_1 dX5_pushEach_1 rfl (by decide) ?_
  refine z_iconst (v := 1) dX5_pushEach_2 rfl ?_
  refine z_istore_2 dX5_pushEach_3 rfl (by decide) ?_
  exact l_pushEach 127 1 T 0 rfl (by decide)
