variable {sc : SC}
abbrev tEl (x : Int32) : Prop := -1000000 ≤ x ∧ x ≤ 1000000
theorem k_isElement (x : Int32) : zM sc yX6_isElement cX6_isElement 1 (some .boolean) 0 0 0 [.int x] ([]) (.inl (some (.int (zb (decide (tEl x)))))) ([]) := by
  refine zM.at (ls := [some (.int x)]) zy_X6_isElement.2.2.2.2 (Nat.le_of_ble_eq_true rfl) rfl ?_
  refine z_iload_0 dX6_isElement_0 ?_
  refine z_ldcw dX6_isElement_1 zk_X6_285 ?_
  refine z_icmp_lt (tgt := 17) dX6_isElement_4 (by decide) (fun c => ?_) (fun c => ?_)
  · refine z_iconst (v := 0) dX6_isElement_17 rfl ?_
    exact z_iret dX6_isElement_18 rfl rfl (congrArg (fun z => Sum.inl (some (Value.int z))) (zbf (fun z : tEl x => absurd z.1 (Int32.not_le.mpr c)))) rfl
  · refine z_iload_0 dX6_isElement_7 ?_
    refine z_ldc dX6_isElement_8 zk_X6_239 ?_
    refine z_icmp_gt (tgt := 17) dX6_isElement_10 (by decide) (fun c2 => ?_) (fun c2 => ?_)
    · refine z_iconst (v := 0) dX6_isElement_17 rfl ?_
      exact z_iret dX6_isElement_18 rfl rfl (congrArg (fun z => Sum.inl (some (Value.int z))) (zbf (fun z : tEl x => absurd z.2 (Int32.not_le.mpr c2)))) rfl
    · refine z_iconst (v := 1) dX6_isElement_13 rfl ?_
      refine z_goto (tgt := 18) dX6_isElement_14 (by decide) ?_
      exact z_iret dX6_isElement_18 rfl rfl (congrArg (fun z => Sum.inl (some (Value.int z))) (zbt (P := tEl x) ⟨Int32.not_lt.mp c, Int32.not_lt.mp c2⟩)) rfl
abbrev tCan (T : TS) (f t : Nat) (v : Int32) : Prop := tEl (tMinF (tva T) (t - f) (f + 1) (tva T f) + v) ∧ tEl (tMaxF (tva T) (t - f) (f + 1) (tva T f) + v)
theorem k_canRaise (T : TS) (f t : Nat) (v : Int32) (hf : f ≤ t) (ht : t < 40) : zM sc yX5_canRaise cX5_canRaise 4 (some .boolean) 2 0 0 [.ref 0, .int (nI f), .int (nI t), .int v] (th T) (.inl (some (.int (zb (decide (tCan T f t v)))))) (th T) := by
  refine zM.at (ls := [some (.ref 0), some (.int (nI f)), some (.int (nI t)), some (.int v)]) zy_X5_canRaise.2.2.2.2.2 (Nat.le_of_ble_eq_true rfl) rfl ?_
  refine z_aload_0 dX5_canRaise_0 ?_
  refine z_iload_1 dX5_canRaise_1 ?_
  refine z_iload_2 dX5_canRaise_2 ?_
  refine Z.call0s (zRun.V (ρ := fun i => i) (k_leastOf T f t hf ht) dX5_canRaise_3 zy_X5_leastOf zm_X5_108 rfl rfl rfl rfl (Nat.le_of_ble_eq_true rfl) (by decide) (by decide)) (zlen2 9 rfl rfl) ?_
  refine z_iload_3 dX5_canRaise_6 ?_
  refine z_iadd dX5_canRaise_7 ?_
  refine Z.callE (zRun.SN (ρ := fun i => i) (k_isElement _) dX5_canRaise_8 zy_X6_isElement znl_X5_111 rfl rfl (Nat.le_of_ble_eq_true rfl) (by decide) (by decide)) ?_
  refine z_if_eq (tgt := 32) dX5_canRaise_11 (by decide) (fun c => ?_) (fun c => ?_)
  · refine z_iconst (v := 0) dX5_canRaise_32 rfl ?_
    exact z_iret dX5_canRaise_33 rfl rfl (congrArg (fun z => Sum.inl (some (Value.int z))) (zbf (fun z : tCan T f t v => zb0 c z.1))) rfl
  · refine z_aload_0 dX5_canRaise_14 ?_
    refine z_iload_1 dX5_canRaise_15 ?_
    refine z_iload_2 dX5_canRaise_16 ?_
    refine Z.call0s (zRun.V (ρ := fun i => i) (k_greatestOf T f t hf ht) dX5_canRaise_17 zy_X5_greatestOf zm_X5_114 rfl rfl rfl rfl (Nat.le_of_ble_eq_true rfl) (by decide) (by decide)) (zlen2 9 rfl rfl) ?_
    refine z_iload_3 dX5_canRaise_20 ?_
    refine z_iadd dX5_canRaise_21 ?_
    refine Z.callE (zRun.SN (ρ := fun i => i) (k_isElement _) dX5_canRaise_22 zy_X6_isElement znl_X5_111 rfl rfl (Nat.le_of_ble_eq_true rfl) (by decide) (by decide)) ?_
    refine z_if_eq (tgt := 32) dX5_canRaise_25 (by decide) (fun c2 => ?_) (fun c2 => ?_)
    · refine z_iconst (v := 0) dX5_canRaise_32 rfl ?_
      exact z_iret dX5_canRaise_33 rfl rfl (congrArg (fun z => Sum.inl (some (Value.int z))) (zbf (fun z : tCan T f t v => zb0 c2 z.2))) rfl
    · refine z_iconst (v := 1) dX5_canRaise_28 rfl ?_
      refine z_goto (tgt := 33) dX5_canRaise_29 (by decide) ?_
      exact z_iret dX5_canRaise_33 rfl rfl (congrArg (fun z => Sum.inl (some (Value.int z))) (zbt (P := tCan T f t v) ⟨zb1 c, zb1 c2⟩)) rfl
def tF2 (T : TS) (F L : Nat → Int32) : TS := (tn T, tu T, tp T, ta T, F, L, tS T, tlo T, thi T, tfa T, tog T, tva T)
def tMid (T : TS) (k : Nat) : Int32 := (tF T k + tL T k) / 2
def tLayF (T : TS) (k : Nat) : Nat → Int32 := upd (upd (tF T) (2 * k) (tF T k)) (2 * k + 1) (tMid T k + 1)
def tLayL (T : TS) (k : Nat) : Nat → Int32 := upd (upd (tL T) (2 * k) (tMid T k)) (2 * k + 1) (upd (tL T) (2 * k) (tMid T k) k)
def tLay1 (k : Nat) (T : TS) : TS := if tF T k < tL T k then tF2 T (tLayF T k) (tLayL T k) else T
def tLay0 (T : TS) : TS := tF2 T (upd (zfl (tF T) (-1) 128) 1 0) (upd (zfl (tL T) (-1) 128) 1 (tn T - 1))
def tLayOut (T : TS) : TS := zup tLay1 63 1 (tLay0 T)
theorem l_layOut  : ∀ (n : Nat) (k : Nat) (T : TS) (j : Option Value), k + n = 64 → 1 ≤ k → Z sc yX5_layOut cX5_layOut 3 none 1 0 0 37 [some (.ref 0), some (.int (nI k)), j] [] (th T) (.inl none) (th (zup tLay1 n k T)) := by
  intro n
  induction n with
  | zero =>
    intro k T j hk h1
    refine z_iload_1 dX5_layOut_37 ?_
    refine z_bipush (v := 64) dX5_layOut_38 rfl ?_
    refine z_icmp_ge_t (tgt := 132) dX5_layOut_40 (by decide) (by first | assumption | (simp (disch := omega) only [Int32.lt_iff_toInt_lt, Int32.le_iff_toInt_le, nI_toInt, Int32.reduceToInt] at *; omega) | (simp (disch := omega) only [Int32.lt_iff_toInt_lt, Int32.le_iff_toInt_le, nI_toInt, Int32.reduceToInt]; omega)) ?_
    exact z_vret dX5_layOut_132 rfl rfl rfl
  | succ n ih =>
    intro k T j hk h1
    refine z_iload_1 dX5_layOut_37 ?_
    refine z_bipush (v := 64) dX5_layOut_38 rfl ?_
    refine z_icmp_ge_f 132 dX5_layOut_40 (by decide) (by first | assumption | (simp (disch := omega) only [Int32.lt_iff_toInt_lt, Int32.le_iff_toInt_le, nI_toInt, Int32.reduceToInt] at *; omega) | (simp (disch := omega) only [Int32.lt_iff_toInt_lt, Int32.le_iff_toInt_le, nI_toInt, Int32.reduceToInt]; omega)) ?_
    refine z_aload_0 dX5_layOut_43 ?_
    refine z_get (k := 4) dX5_layOut_44 rfl rfl rfl (by decide) zf_X5_24 zw_in5 ?_
    refine z_iload_1 dX5_layOut_47 ?_
    refine z_ialdN dX5_layOut_48 rfl (by omega) (by first | decide | assumption) ?_
    refine z_aload_0 dX5_layOut_49 ?_
    refine z_get (k := 5) dX5_layOut_50 rfl rfl rfl (by decide) zf_X5_28 zw_in5 ?_
    refine z_iload_1 dX5_layOut_53 ?_
    refine z_ialdN dX5_layOut_54 rfl (by omega) (by first | decide | assumption) ?_
    refine z_icmp_ge (tgt := 126) dX5_layOut_55 (by decide) (fun c => ?_) (fun c => ?_)
    · refine z_iinc_1 (v := nI (k + 1)) dX5_layOut_126 (zinc _) rfl (by decide) ?_
      refine z_goto (tgt := 37) dX5_layOut_129 (by decide) ?_
      have e : tLay1 k T = T := if_neg (Int32.not_lt.mpr c)
      rw [zup, e]
      exact ih (k + 1) T _ (by omega) (by omega)
    · refine z_aload_0 dX5_layOut_58 ?_
      refine z_get (k := 4) dX5_layOut_59 rfl rfl rfl (by decide) zf_X5_24 zw_in5 ?_
      refine z_iload_1 dX5_layOut_62 ?_
      refine z_ialdN dX5_layOut_63 rfl (by omega) (by first | decide | assumption) ?_
      refine z_aload_0 dX5_layOut_64 ?_
      refine z_get (k := 5) dX5_layOut_65 rfl rfl rfl (by decide) zf_X5_28 zw_in5 ?_
      refine z_iload_1 dX5_layOut_68 ?_
      refine z_ialdN dX5_layOut_69 rfl (by omega) (by decide) ?_
      refine z_iadd dX5_layOut_70 ?_
      refine z_iconst (v := 2) dX5_layOut_71 rfl ?_
      refine z_idiv dX5_layOut_72 (by decide) ?_
      show Z sc _ _ _ _ _ _ _ _ _ (.int (tMid T k) :: _) _ _ _
      refine z_istore_2 dX5_layOut_73 rfl (by decide) ?_
      refine z_aload_0 dX5_layOut_74 ?_
      refine z_get (k := 4) dX5_layOut_75 rfl rfl rfl (by decide) zf_X5_24 zw_in5 ?_
      refine z_iconst (v := 2) dX5_layOut_78 rfl ?_
      refine z_iload_1 dX5_layOut_79 ?_
      refine z_imul dX5_layOut_80 ?_
      refine z_topi (w := nI (2 * k)) (zq2 k) ?_
      refine z_aload_0 dX5_layOut_81 ?_
      refine z_get (k := 4) dX5_layOut_82 rfl rfl rfl (by decide) zf_X5_24 zw_in5 ?_
      refine z_iload_1 dX5_layOut_85 ?_
      refine z_ialdN dX5_layOut_86 rfl (by omega) (by decide) ?_
      refine z_iastN dX5_layOut_87 rfl (by omega) (by decide) ?_
      refine z_aload_0 dX5_layOut_88 ?_
      refine z_get (k := 5) dX5_layOut_89 rfl rfl rfl (by decide) zf_X5_28 zw_in5 ?_
      refine z_iconst (v := 2) dX5_layOut_92 rfl ?_
      refine z_iload_1 dX5_layOut_93 ?_
      refine z_imul dX5_layOut_94 ?_
      refine z_topi (w := nI (2 * k)) (zq2 k) ?_
      refine z_iload_2 dX5_layOut_95 ?_
      refine z_iastN dX5_layOut_96 rfl (by omega) (by decide) ?_
      refine z_aload_0 dX5_layOut_97 ?_
      refine z_get (k := 4) dX5_layOut_98 rfl rfl rfl (by decide) zf_X5_24 zw_in5 ?_
      refine z_iconst (v := 2) dX5_layOut_101 rfl ?_
      refine z_iload_1 dX5_layOut_102 ?_
      refine z_imul dX5_layOut_103 ?_
      refine z_topi (w := nI (2 * k)) (zq2 k) ?_
      refine z_iconst (v := 1) dX5_layOut_104 rfl ?_
      refine z_iadd dX5_layOut_105 ?_
      refine z_topi (w := nI (2 * k + 1)) (zq1 _) ?_
      refine z_iload_2 dX5_layOut_106 ?_
      refine z_iconst (v := 1) dX5_layOut_107 rfl ?_
      refine z_iadd dX5_layOut_108 ?_
      refine z_iastN dX5_layOut_109 rfl (by omega) (by decide) ?_
      refine z_aload_0 dX5_layOut_110 ?_
      refine z_get (k := 5) dX5_layOut_111 rfl rfl rfl (by decide) zf_X5_28 zw_in5 ?_
      refine z_iconst (v := 2) dX5_layOut_114 rfl ?_
      refine z_iload_1 dX5_layOut_115 ?_
      refine z_imul dX5_layOut_116 ?_
      refine z_topi (w := nI (2 * k)) (zq2 k) ?_
      refine z_iconst (v := 1) dX5_layOut_117 rfl ?_
      refine z_iadd dX5_layOut_118 ?_
      refine z_topi (w := nI (2 * k + 1)) (zq1 _) ?_
      refine z_aload_0 dX5_layOut_119 ?_
      refine z_get (k := 5) dX5_layOut_120 rfl rfl rfl (by decide) zf_X5_28 zw_in5 ?_
      refine z_iload_1 dX5_layOut_123 ?_
      refine z_ialdN dX5_layOut_124 rfl (by omega) (by decide) ?_
      refine z_iastN dX5_layOut_125 rfl (by omega) (by decide) ?_
      refine Z.heap (h2 := th (tLay1 k T)) (by rw [tLay1, if_pos (Int32.not_le.mp c)]; rfl) ?_
      refine Z.nameT (fun T1 e1 => ?_)
      refine z_iinc_1 (v := nI (k + 1)) dX5_layOut_126 (zinc _) rfl (by decide) ?_
      refine z_goto (tgt := 37) dX5_layOut_129 (by decide) ?_
      rw [zup, ← e1]
      exact ih (k + 1) T1 _ (by omega) (by omega)
theorem k_layOut (T : TS) : zM sc yX5_layOut cX5_layOut 3 none 1 0 0 [.ref 0] (th T) (.inl none) (th (tLayOut T)) := by
  refine zM.at (ls := [some (.ref 0), none, none]) zy_X5_layOut.2.2.2.2.2 (Nat.le_of_ble_eq_true rfl) rfl ?_
  refine z_aload_0 dX5_layOut_0 ?_
  refine z_get (k := 4) dX5_layOut_1 rfl rfl rfl (by decide) zf_X5_24 zw_in5 ?_
  refine z_iconst (v := (-1)) dX5_layOut_4 rfl ?_
  refine Z.call (zRun.S (ρ := fun i => if i < 1000000 then 1 else i) (k_fill 128 _ _ (by decide)) dX5_layOut_5 zy_J7_fill_53178 zm_X5_59 rfl rfl (Nat.le_of_ble_eq_true rfl) (by decide) (by decide)) ⟨rfl, trivial⟩ (fun i j hi hj _ => by simp only [List.length_singleton] at hi hj; omega) rfl ?_
  refine Z.heap (h2 := th (tF2 T (zfl (tF T) (-1) 128) (tL T))) rfl ?_
  refine z_aload_0 dX5_layOut_8 ?_
  refine z_get (k := 5) dX5_layOut_9 rfl rfl rfl (by decide) zf_X5_28 zw_in5 ?_
  refine z_iconst (v := (-1)) dX5_layOut_12 rfl ?_
  refine Z.call (zRun.S (ρ := fun i => if i < 1000000 then 2 else i) (k_fill 128 _ _ (by decide)) dX5_layOut_13 zy_J7_fill_53178 zm_X5_59 rfl rfl (Nat.le_of_ble_eq_true rfl) (by decide) (by decide)) ⟨rfl, trivial⟩ (fun i j hi hj _ => by simp only [List.length_singleton] at hi hj; omega) rfl ?_
  refine Z.heap (h2 := th (tF2 T (zfl (tF T) (-1) 128) (zfl (tL T) (-1) 128))) rfl ?_
  refine z_aload_0 dX5_layOut_16 ?_
  refine z_get (k := 4) dX5_layOut_17 rfl rfl rfl (by decide) zf_X5_24 zw_in5 ?_
  refine z_iconst (v := 1) dX5_layOut_20 rfl ?_
  refine z_iconst (v := 0) dX5_layOut_21 rfl ?_
  refine z_iast dX5_layOut_22 rfl (vp_in_nI (n := 1) (by decide) (by decide)) ?_
  refine z_aload_0 dX5_layOut_23 ?_
  refine z_get (k := 5) dX5_layOut_24 rfl rfl rfl (by decide) zf_X5_28 zw_in5 ?_
  refine z_iconst (v := 1) dX5_layOut_27 rfl ?_
  refine z_aload_0 dX5_layOut_28 ?_
  refine z_get (k := 0) dX5_layOut_29 rfl rfl rfl (by decide) zf_X5_11 zw_in5 ?_
  refine z_iconst (v := 1) dX5_layOut_32 rfl ?_
  refine z_isub dX5_layOut_33 ?_
  refine z_iast dX5_layOut_34 rfl (vp_in_nI (n := 1) (by decide) (by decide)) ?_
  refine Z.heap (h2 := th (tLay0 T)) rfl ?_
  refine z_iconst (v := 1) dX5_layOut_35 rfl ?_
  refine z_istore_1 dX5_layOut_36 rfl (by decide) ?_
  exact l_layOut 63 1 (tLay0 T) _ rfl (by decide)
