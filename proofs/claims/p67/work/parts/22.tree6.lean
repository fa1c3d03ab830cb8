variable {sc : SC}
def tAcc (T : TS) : Nat → Nat → Int32 × Int32 → Int32 × Int32
  | 0, _, s => s
  | n + 1, a, s => if a = 0 then s else tAcc T n (a / 2) (tfa T a * s.1, tfa T a * s.2 + tog T a)
abbrev tMfa (T : TS) (k : Nat) : Prop := ¬ (tAcc T 7 k (1, 0)).1 = 1 ∨ ¬ (tAcc T 7 k (1, 0)).2 = 0
theorem k_gatherBig (T : TS) (k : Nat) (h1 : 64 ≤ k) (h2 : k < 128) : zM sc yX5_gather cX5_gather 4 none 1 0 0 [.ref 0, .int (nI k)] (th T) (.inl none) (th T) := by
  refine zM.at (ls := [some (.ref 0), some (.int (nI k)), none, none]) zy_X5_gather.2.2.2.2.2 (Nat.le_of_ble_eq_true rfl) rfl ?_
  refine z_iload_1 dX5_gather_0 ?_
  refine z_iconst (v := 1) dX5_gather_1 rfl ?_
  refine z_icmp_lt_f 82 dX5_gather_2 (by decide) (by first | assumption | (simp (disch := omega) only [Int32.lt_iff_toInt_lt, Int32.le_iff_toInt_le, nI_toInt, Int32.reduceToInt] at *; omega) | (simp (disch := omega) only [Int32.lt_iff_toInt_lt, Int32.le_iff_toInt_le, nI_toInt, Int32.reduceToInt]; omega)) ?_
  refine z_iload_1 dX5_gather_5 ?_
  refine z_bipush (v := 64) dX5_gather_6 rfl ?_
  refine z_icmp_ge_t (tgt := 82) dX5_gather_8 (by decide) (by first | assumption | (simp (disch := omega) only [Int32.lt_iff_toInt_lt, Int32.le_iff_toInt_le, nI_toInt, Int32.reduceToInt] at *; omega) | (simp (disch := omega) only [Int32.lt_iff_toInt_lt, Int32.le_iff_toInt_le, nI_toInt, Int32.reduceToInt]; omega)) ?_
  exact z_vret dX5_gather_82 rfl rfl rfl
def tGat (T : TS) (k : Nat) : TS := if k < 64 then tGather T k else T
theorem k_gather' (T : TS) (k : Nat) (h1 : 1 ≤ k) (h2 : k < 128) : zM sc yX5_gather cX5_gather 4 none 1 0 0 [.ref 0, .int (nI k)] (th T) (.inl none) (th (tGat T k)) := by
  rcases Nat.lt_or_ge k 64 with q | q
  · rw [tGat, if_pos q]
    exact k_gather T k h1 q
  · rw [tGat, if_neg (by omega)]
    exact k_gatherBig T k q h2
def tUpd1 (f t : Int32) (k : Nat) (T : TS) : TS := if tPas T k f t then tPushIf T k else T
def tUpd2 (f t F G : Int32) (k : Nat) (s : TS × Nat) : TS × Nat := if tTak s.1 k f t then (tMark s.1 k F G, s.2 + 1) else if tPas s.1 k f t then (tGat s.1 k, s.2) else s
def tCnt (T : TS) (c : Nat) : TS := (tn T, tu T + 1, tp T, ta T + nI c, tF T, tL T, tS T, tlo T, thi T, tfa T, tog T, tva T)
def tUpdE (s : TS × Nat) : TS × Nat := (tReads (tCnt s.1 s.2), s.2)
def tUpdate (T : TS) (f t F G : Int32) : TS × Nat := tUpdE (zdn (tUpd2 f t F G) 127 (zup (tUpd1 f t) 127 1 T, 0))
theorem l_update2 (f t F G : Int32) : ∀ (n : Nat) (T : TS) (c : Nat), n < 128 → Z sc yX5_update cX5_update 7 (some .int) 2 0 0 42 [some (.ref 0), some (.int f), some (.int t), some (.int F), some (.int G), some (.int (nI c)), some (.int (nI n))] [] (th T) (.inl (some (.int (nI (tUpdE (zdn (tUpd2 f t F G) n (T, c))).2)))) (th (tUpdE (zdn (tUpd2 f t F G) n (T, c))).1) := by
  intro n
  induction n with
  | zero =>
    intro T c hn
    simp only [zdn, tUpdE]
    refine z_iload_6 dX5_update_42 ?_
    refine z_iconst (v := 1) dX5_update_44 rfl ?_
    refine z_icmp_lt_t (tgt := 97) dX5_update_45 (by decide) (by decide) ?_
    refine z_aload_0 dX5_update_97 ?_
    refine z_dup dX5_update_98 rfl ?_
    refine z_get (k := 1) dX5_update_99 rfl rfl rfl (by decide) zf_X5_15 zw_in5 ?_
    refine z_iconst (v := 1) dX5_update_102 rfl ?_
    refine z_iadd dX5_update_103 ?_
    refine z_put (k := 1) (ty := tyX5) dX5_update_104 rfl rfl (by decide) zf_X5_15 zw_in5 tyX5_ok nmX5 rfl (fun _ => ⟨rfl, rfl⟩) (Nat.le_of_ble_eq_true rfl) ?_
    refine z_aload_0 dX5_update_107 ?_
    refine z_dup dX5_update_108 rfl ?_
    refine z_get (k := 3) dX5_update_109 rfl rfl rfl (by decide) zf_X5_21 zw_in5 ?_
    refine z_iload_5 dX5_update_112 ?_
    refine z_iadd dX5_update_114 ?_
    refine z_put (k := 3) (ty := tyX5) dX5_update_115 rfl rfl (by decide) zf_X5_21 zw_in5 tyX5_ok nmX5 rfl (fun _ => ⟨rfl, rfl⟩) (Nat.le_of_ble_eq_true rfl) ?_
    refine z_aload_0 dX5_update_118 ?_
    refine Z.heap (h2 := th (tCnt T c)) rfl ?_
    refine Z.call0n (zRun.V (ρ := fun i => i) (k_readValues (tCnt T c)) dX5_update_119 zy_X5_readValues zm_X5_124 rfl rfl rfl rfl (Nat.le_of_ble_eq_true rfl) (by decide) (by decide)) (zlen2 9 rfl rfl) ?_
    refine z_iload_5 dX5_update_122 ?_
    exact z_iret dX5_update_124 rfl rfl rfl rfl
  | succ n ih =>
    intro T c hn
    refine z_iload_6 dX5_update_42 ?_
    refine z_iconst (v := 1) dX5_update_44 rfl ?_
    refine z_icmp_lt_f 97 dX5_update_45 (by decide) (by first | assumption | (simp (disch := omega) only [Int32.lt_iff_toInt_lt, Int32.le_iff_toInt_le, nI_toInt, Int32.reduceToInt] at *; omega) | (simp (disch := omega) only [Int32.lt_iff_toInt_lt, Int32.le_iff_toInt_le, nI_toInt, Int32.reduceToInt]; omega)) ?_
    refine z_aload_0 dX5_update_48 ?_
    refine z_iload_6 dX5_update_49 ?_
    refine z_iload_1 dX5_update_51 ?_
    refine z_iload_2 dX5_update_52 ?_
    refine Z.call0s (zRun.V (ρ := fun i => i) (k_isTaken T (n + 1) f t (by omega) (by omega)) dX5_update_53 zy_X5_isTaken zm_X5_121 rfl rfl rfl rfl (Nat.le_of_ble_eq_true rfl) (by decide) (by decide)) (zlen2 9 rfl rfl) ?_
    refine z_if_eq (tgt := 74) dX5_update_56 (by decide) (fun cc => ?_) (fun cc => ?_)
    · refine z_aload_0 dX5_update_74 ?_
      refine z_iload_6 dX5_update_75 ?_
      refine z_iload_1 dX5_update_77 ?_
      refine z_iload_2 dX5_update_78 ?_
      refine Z.call0s (zRun.V (ρ := fun i => i) (k_isPassed T (n + 1) f t (by omega) (by omega)) dX5_update_79 zy_X5_isPassed zm_X5_117 rfl rfl rfl rfl (Nat.le_of_ble_eq_true rfl) (by decide) (by decide)) (zlen2 9 rfl rfl) ?_
      refine z_if_eq (tgt := 91) dX5_update_82 (by decide) (fun cc2 => ?_) (fun cc2 => ?_)
      · refine z_iinc_6 (v := nI n) dX5_update_91 (zdec _) rfl (by decide) ?_
        refine z_goto (tgt := 42) dX5_update_94 (by decide) ?_
        have e : tUpd2 f t F G (n + 1) (T, c) = (T, c) := by simp only [tUpd2, if_neg (zb0 cc), if_neg (zb0 cc2)]
        rw [zdn, e]
        exact ih T c (by omega)
      · refine z_aload_0 dX5_update_85 ?_
        refine z_iload_6 dX5_update_86 ?_
        refine Z.call0n (zRun.V (ρ := fun i => i) (k_gather' T (n + 1) (by omega) (by omega)) dX5_update_88 zy_X5_gather zm_X5_69 rfl rfl rfl rfl (Nat.le_of_ble_eq_true rfl) (by decide) (by decide)) (zlen2 9 rfl rfl) ?_
        refine Z.nameT (fun T1 e1 => ?_)
        refine z_iinc_6 (v := nI n) dX5_update_91 (zdec _) rfl (by decide) ?_
        refine z_goto (tgt := 42) dX5_update_94 (by decide) ?_
        have e : tUpd2 f t F G (n + 1) (T, c) = (T1, c) := by rw [e1]; simp only [tUpd2, if_neg (zb0 cc), if_pos (zb1 cc2)]
        rw [zdn, e]
        exact ih T1 c (by omega)
    · refine z_aload_0 dX5_update_59 ?_
      refine z_iload_6 dX5_update_60 ?_
      refine z_iload_3 dX5_update_62 ?_
      refine z_iload_4 dX5_update_63 ?_
      refine Z.call0n (zRun.V (ρ := fun i => i) (k_mark T (n + 1) F G (by omega) (by omega)) dX5_update_65 zy_X5_mark zm_X5_101 rfl rfl rfl rfl (Nat.le_of_ble_eq_true rfl) (by decide) (by decide)) (zlen2 9 rfl rfl) ?_
      refine Z.nameT (fun T1 e1 => ?_)
      refine z_iinc_5 (v := nI (c + 1)) dX5_update_68 (zinc _) rfl (by decide) ?_
      refine z_goto (tgt := 91) dX5_update_71 (by decide) ?_
      refine z_iinc_6 (v := nI n) dX5_update_91 (zdec _) rfl (by decide) ?_
      refine z_goto (tgt := 42) dX5_update_94 (by decide) ?_
      have e : tUpd2 f t F G (n + 1) (T, c) = (T1, c + 1) := by rw [e1]; simp only [tUpd2, if_pos (zb1 cc)]
      rw [zdn, e]
      exact ih T1 (c + 1) (by omega)
theorem l_update1 (f t F G : Int32) : ∀ (n : Nat) (k : Nat) (T : TS) (j : Option Value), k + n = 128 → 1 ≤ k → Z sc yX5_update cX5_update 7 (some .int) 2 0 0 3 [some (.ref 0), some (.int f), some (.int t), some (.int F), some (.int G), some (.int (nI k)), j] [] (th T) (.inl (some (.int (nI (tUpdE (zdn (tUpd2 f t F G) 127 (zup (tUpd1 f t) n k T, 0))).2)))) (th (tUpdE (zdn (tUpd2 f t F G) 127 (zup (tUpd1 f t) n k T, 0))).1) := by
  intro n
  induction n with
  | zero =>
    intro k T j hk h1
    refine z_iload_5 dX5_update_3 ?_
    refine z_sipush (v := 128) dX5_update_5 rfl ?_
    refine z_icmp_ge_t (tgt := 35) dX5_update_8 (by decide) (by first | assumption | (simp (disch := omega) only [Int32.lt_iff_toInt_lt, Int32.le_iff_toInt_le, nI_toInt, Int32.reduceToInt] at *; omega) | (simp (disch := omega) only [Int32.lt_iff_toInt_lt, Int32.le_iff_toInt_le, nI_toInt, Int32.reduceToInt]; omega)) ?_
    refine z_iconst (v := 0) dX5_update_35 rfl ?_
    refine z_istore_5 dX5_update_36 rfl (by decide) ?_
    refine z_bipush (v := 127) dX5_update_38 rfl ?_
    refine z_istore_6 dX5_update_40 rfl (by decide) ?_
    exact l_update2 f t F G 127 T 0 (by decide)
  | succ n ih =>
    intro k T j hk h1
    refine z_iload_5 dX5_update_3 ?_
    refine z_sipush (v := 128) dX5_update_5 rfl ?_
    refine z_icmp_ge_f 35 dX5_update_8 (by decide) (by first | assumption | (simp (disch := omega) only [Int32.lt_iff_toInt_lt, Int32.le_iff_toInt_le, nI_toInt, Int32.reduceToInt] at *; omega) | (simp (disch := omega) only [Int32.lt_iff_toInt_lt, Int32.le_iff_toInt_le, nI_toInt, Int32.reduceToInt]; omega)) ?_
    refine z_aload_0 dX5_update_11 ?_
    refine z_iload_5 dX5_update_12 ?_
    refine z_iload_1 dX5_update_14 ?_
    refine z_iload_2 dX5_update_15 ?_
    refine Z.call0s (zRun.V (ρ := fun i => i) (k_isPassed T k f t h1 (by omega)) dX5_update_16 zy_X5_isPassed zm_X5_117 rfl rfl rfl rfl (Nat.le_of_ble_eq_true rfl) (by decide) (by decide)) (zlen2 9 rfl rfl) ?_
    refine z_if_eq (tgt := 29) dX5_update_19 (by decide) (fun cc => ?_) (fun cc => ?_)
    · refine z_iinc_5 (v := nI (k + 1)) dX5_update_29 (zinc _) rfl (by decide) ?_
      refine z_goto (tgt := 3) dX5_update_32 (by decide) ?_
      have e : tUpd1 f t k T = T := if_neg (zb0 cc)
      rw [zup, e]
      exact ih (k + 1) T _ (by omega) (by omega)
    · refine z_aload_0 dX5_update_22 ?_
      refine z_iload_5 dX5_update_23 ?_
      refine Z.call0s (zRun.V (ρ := fun i => i) (k_push T k h1 (by omega)) dX5_update_25 zy_X5_push zm_X5_105 rfl rfl rfl rfl (Nat.le_of_ble_eq_true rfl) (by decide) (by decide)) (zlen2 9 rfl rfl) ?_
      refine z_pop dX5_update_28 rfl ?_
      refine Z.nameT (fun T1 e1 => ?_)
      refine z_iinc_5 (v := nI (k + 1)) dX5_update_29 (zinc _) rfl (by decide) ?_
      refine z_goto (tgt := 3) dX5_update_32 (by decide) ?_
      have e : tUpd1 f t k T = T1 := by rw [e1]; exact if_pos (zb1 cc)
      rw [zup, e]
      exact ih (k + 1) T1 _ (by omega) (by omega)
theorem k_update (T : TS) (f t F G : Int32) : zM sc yX5_update cX5_update 7 (some .int) 2 0 0 [.ref 0, .int f, .int t, .int F, .int G] (th T) (.inl (some (.int (nI (tUpdate T f t F G).2)))) (th (tUpdate T f t F G).1) := by
  refine zM.at (ls := [some (.ref 0), some (.int f), some (.int t), some (.int F), some (.int G), none, none]) zy_X5_update.2.2.2.2.2 (Nat.le_of_ble_eq_true rfl) rfl ?_
  refine z_iconst (v := 1) dX5_update_0 rfl ?_
  refine z_istore_5 dX5_update_1 rfl (by decide) ?_
  exact l_update1 f t F G 127 1 T _ rfl (by decide)
theorem tLeafF_in (T : TS) (i : Int32) : ∀ (n k : Nat), 1 ≤ k → k < 128 → 1 ≤ tLeafF T i n k ∧ tLeafF T i n k < 128 := by
  intro n
  induction n with
  | zero => intro k h1 h2; exact ⟨h1, h2⟩
  | succ n ih =>
    intro k h1 h2
    rw [tLeafF]
    split
    next hin =>
      have h64 : k < 64 := hin.1
      split
      · exact ih _ (by omega) (by omega)
      · exact ih _ (by omega) (by omega)
    next => exact ⟨h1, h2⟩
theorem tLeaf_in (T : TS) (i : Int32) : 1 ≤ tLeaf T i ∧ tLeaf T i < 128 := tLeafF_in T i 128 1 (by decide) (by decide)
