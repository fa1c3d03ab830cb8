variable {sc : SC}
noncomputable def g_t_isBroken (k : Nat) (T : TS) : Bool := (if (decide (tIn T k)) = true then (if (tS T k) = ((((tfa T k).toInt64) * ((tS T (2 * k)) + (tS T (2 * k + 1)))) + (((tog T k).toInt64) * ((((tL T k) - (tF T k)) + 1).toInt64))) then (if 0 ≤ tfa T k then (if tlo T k = ((tfa T k) * (zmin (tlo T (2 * k)) (tlo T (2 * k + 1)))) + (tog T k) then (if thi T k = ((tfa T k) * (zmax (thi T (2 * k)) (thi T (2 * k + 1)))) + (tog T k) then false else true) else true) else (if tlo T k = ((tfa T k) * (zmax (thi T (2 * k)) (thi T (2 * k + 1)))) + (tog T k) then (if thi T k = ((tfa T k) * (zmin (tlo T (2 * k)) (tlo T (2 * k + 1)))) + (tog T k) then false else true) else true)) else true) else decide (¬ tfa T k = 1 ∨ ¬ tog T k = 0))
theorem k_t_isBroken (k : Nat) (T : TS) (h1 : 1 ≤ k) (h2 : k < 128) : zM sc yX5_isBroken cX5_isBroken 9 (some .boolean) 1 0 0 [.ref 0, .int (nI (k))] (th T) (.inl (some (.int (zb (g_t_isBroken k T))))) (th T) := by
  refine zM.at (ls := [some (.ref 0), some (.int (nI (k))), none, none, none, none, none, none, none]) zy_X5_isBroken.2.2.2.2.2 (Nat.le_of_ble_eq_true rfl) rfl ?_
  refine z_aload_0 dX5_isBroken_0 ?_
  refine z_iload_1 dX5_isBroken_1 ?_
  refine Z.call0s (zRun.V (ρ := fun i => i) (k_isInner' T k (by first | omega | assumption) (by first | omega | assumption)) dX5_isBroken_2 zy_X5_isInner zm_X5_65 rfl rfl rfl rfl (Nat.le_of_ble_eq_true rfl) (by decide) (by decide)) (zlen2 9 rfl rfl) ?_
  refine z_ifB_ne (tgt := 14) dX5_isBroken_5 (by decide) (fun c5 => ?_) (fun c5 => ?_)
  · have h64 : k < 64 := (of_decide_eq_true c5).1
    refine z_aload_0 dX5_isBroken_14 ?_
    refine z_get (k := 9) (v := .ref 6) dX5_isBroken_15 rfl rfl rfl (by decide) zf_X5_41 zw_in5 ?_
    refine z_iload_1 dX5_isBroken_18 ?_
    refine z_ialdN (k := k) dX5_isBroken_19 rfl (by first | omega | assumption) (by decide) ?_
    refine z_istore_2 dX5_isBroken_20 rfl (by decide) ?_
    refine z_aload_0 dX5_isBroken_21 ?_
    refine z_get (k := 10) (v := .ref 7) dX5_isBroken_22 rfl rfl rfl (by decide) zf_X5_44 zw_in5 ?_
    refine z_iload_1 dX5_isBroken_25 ?_
    refine z_ialdN (k := k) dX5_isBroken_26 rfl (by first | omega | assumption) (by decide) ?_
    refine z_istore_3 dX5_isBroken_27 rfl (by decide) ?_
    refine z_aload_0 dX5_isBroken_28 ?_
    refine z_get (k := 5) (v := .ref 2) dX5_isBroken_29 rfl rfl rfl (by decide) zf_X5_28 zw_in5 ?_
    refine z_iload_1 dX5_isBroken_32 ?_
    refine z_ialdN (k := k) dX5_isBroken_33 rfl (by first | omega | assumption) (by decide) ?_
    refine z_aload_0 dX5_isBroken_34 ?_
    refine z_get (k := 4) (v := .ref 1) dX5_isBroken_35 rfl rfl rfl (by decide) zf_X5_24 zw_in5 ?_
    refine z_iload_1 dX5_isBroken_38 ?_
    refine z_ialdN (k := k) dX5_isBroken_39 rfl (by first | omega | assumption) (by decide) ?_
    refine z_isub dX5_isBroken_40 ?_
    refine z_iconst (v := 1) dX5_isBroken_41 rfl ?_
    refine z_iadd dX5_isBroken_42 ?_
    refine z_istore_4 dX5_isBroken_43 rfl (by decide) ?_
    refine z_aload_0 dX5_isBroken_45 ?_
    refine z_get (k := 7) (v := .ref 4) dX5_isBroken_46 rfl rfl rfl (by decide) zf_X5_35 zw_in5 ?_
    refine z_iconst (v := 2) dX5_isBroken_49 rfl ?_
    refine z_iload_1 dX5_isBroken_50 ?_
    refine z_imul dX5_isBroken_51 ?_
    refine z_topi (w := nI (2 * k)) (pk_mul _ _) ?_
    refine z_ialdN (k := (2 * k)) dX5_isBroken_52 rfl (by first | omega | assumption) (by decide) ?_
    refine z_aload_0 dX5_isBroken_53 ?_
    refine z_get (k := 7) (v := .ref 4) dX5_isBroken_54 rfl rfl rfl (by decide) zf_X5_35 zw_in5 ?_
    refine z_iconst (v := 2) dX5_isBroken_57 rfl ?_
    refine z_iload_1 dX5_isBroken_58 ?_
    refine z_imul dX5_isBroken_59 ?_
    refine z_topi (w := nI (2 * k)) (pk_mul _ _) ?_
    refine z_iconst (v := 1) dX5_isBroken_60 rfl ?_
    refine z_iadd dX5_isBroken_61 ?_
    refine z_topi (w := nI (2 * k + 1)) (nI_add _ _) ?_
    refine z_ialdN (k := (2 * k + 1)) dX5_isBroken_62 rfl (by first | omega | assumption) (by decide) ?_
    refine z_mn dX5_isBroken_63 zm_X5_76 (by decide) (Nat.le_of_ble_eq_true rfl) ?_
    refine z_topi (w := zmin (tlo T (2 * k)) (tlo T (2 * k + 1))) rfl ?_
    refine z_istore_5 dX5_isBroken_66 rfl (by decide) ?_
    refine z_aload_0 dX5_isBroken_68 ?_
    refine z_get (k := 8) (v := .ref 5) dX5_isBroken_69 rfl rfl rfl (by decide) zf_X5_38 zw_in5 ?_
    refine z_iconst (v := 2) dX5_isBroken_72 rfl ?_
    refine z_iload_1 dX5_isBroken_73 ?_
    refine z_imul dX5_isBroken_74 ?_
    refine z_topi (w := nI (2 * k)) (pk_mul _ _) ?_
    refine z_ialdN (k := (2 * k)) dX5_isBroken_75 rfl (by first | omega | assumption) (by decide) ?_
    refine z_aload_0 dX5_isBroken_76 ?_
    refine z_get (k := 8) (v := .ref 5) dX5_isBroken_77 rfl rfl rfl (by decide) zf_X5_38 zw_in5 ?_
    refine z_iconst (v := 2) dX5_isBroken_80 rfl ?_
    refine z_iload_1 dX5_isBroken_81 ?_
    refine z_imul dX5_isBroken_82 ?_
    refine z_topi (w := nI (2 * k)) (pk_mul _ _) ?_
    refine z_iconst (v := 1) dX5_isBroken_83 rfl ?_
    refine z_iadd dX5_isBroken_84 ?_
    refine z_topi (w := nI (2 * k + 1)) (nI_add _ _) ?_
    refine z_ialdN (k := (2 * k + 1)) dX5_isBroken_85 rfl (by first | omega | assumption) (by decide) ?_
    refine z_mx dX5_isBroken_86 zm_X5_82 (by decide) (Nat.le_of_ble_eq_true rfl) ?_
    refine z_topi (w := zmax (thi T (2 * k)) (thi T (2 * k + 1))) rfl ?_
    refine z_istore_6 dX5_isBroken_89 rfl (by decide) ?_
    refine z_aload_0 dX5_isBroken_91 ?_
    refine z_get (k := 6) (v := .ref 3) dX5_isBroken_92 rfl rfl rfl (by decide) zf_X5_31 zw_in5 ?_
    refine z_iconst (v := 2) dX5_isBroken_95 rfl ?_
    refine z_iload_1 dX5_isBroken_96 ?_
    refine z_imul dX5_isBroken_97 ?_
    refine z_topi (w := nI (2 * k)) (pk_mul _ _) ?_
    refine z_laldN (k := (2 * k)) dX5_isBroken_98 rfl (by first | omega | assumption) (by decide) ?_
    refine z_aload_0 dX5_isBroken_99 ?_
    refine z_get (k := 6) (v := .ref 3) dX5_isBroken_100 rfl rfl rfl (by decide) zf_X5_31 zw_in5 ?_
    refine z_iconst (v := 2) dX5_isBroken_103 rfl ?_
    refine z_iload_1 dX5_isBroken_104 ?_
    refine z_imul dX5_isBroken_105 ?_
    refine z_topi (w := nI (2 * k)) (pk_mul _ _) ?_
    refine z_iconst (v := 1) dX5_isBroken_106 rfl ?_
    refine z_iadd dX5_isBroken_107 ?_
    refine z_topi (w := nI (2 * k + 1)) (nI_add _ _) ?_
    refine z_laldN (k := (2 * k + 1)) dX5_isBroken_108 rfl (by first | omega | assumption) (by decide) ?_
    refine z_ladd dX5_isBroken_109 ?_
    refine z_lstore_7 dX5_isBroken_110 rfl (by decide) ?_
    refine z_aload_0 dX5_isBroken_112 ?_
    refine z_get (k := 6) (v := .ref 3) dX5_isBroken_113 rfl rfl rfl (by decide) zf_X5_31 zw_in5 ?_
    refine z_iload_1 dX5_isBroken_116 ?_
    refine z_laldN (k := k) dX5_isBroken_117 rfl (by first | omega | assumption) (by decide) ?_
    refine z_iload_2 dX5_isBroken_118 ?_
    refine z_i2l dX5_isBroken_119 ?_
    refine z_lload_7 dX5_isBroken_120 ?_
    refine z_lmul dX5_isBroken_122 ?_
    refine z_iload_3 dX5_isBroken_123 ?_
    refine z_i2l dX5_isBroken_124 ?_
    refine z_iload_4 dX5_isBroken_125 ?_
    refine z_i2l dX5_isBroken_127 ?_
    refine z_lmul dX5_isBroken_128 ?_
    refine z_ladd dX5_isBroken_129 ?_
    refine z_lcmp dX5_isBroken_130 ?_
    refine z_ifQ_ne (tgt := 182) dX5_isBroken_131 (by decide) (fun c131 => ?_) (fun c131 => ?_)
    · refine z_iconst (v := 1) dX5_isBroken_182 rfl ?_
      refine z_goto (tgt := 187) dX5_isBroken_183 (by decide) ?_
      rw [g_t_isBroken, if_pos c5, if_neg c131]
      exact z_iret dX5_isBroken_187 rfl rfl rfl rfl
    · refine z_aload_0 dX5_isBroken_134 ?_
      refine z_get (k := 7) (v := .ref 4) dX5_isBroken_135 rfl rfl rfl (by decide) zf_X5_35 zw_in5 ?_
      refine z_iload_1 dX5_isBroken_138 ?_
      refine z_ialdN (k := k) dX5_isBroken_139 rfl (by first | omega | assumption) (by decide) ?_
      refine z_iload_2 dX5_isBroken_140 ?_
      refine z_iload_2 dX5_isBroken_141 ?_
      refine z_if_ge (tgt := 150) dX5_isBroken_142 (by decide) (fun c142 => ?_) (fun c142 => ?_)
      · refine z_iload_5 dX5_isBroken_150 ?_
        refine z_imul dX5_isBroken_152 ?_
        refine z_iload_3 dX5_isBroken_153 ?_
        refine z_iadd dX5_isBroken_154 ?_
        refine z_icmp_ne (tgt := 182) dX5_isBroken_155 (by decide) (fun c155 => ?_) (fun c155 => ?_)
        · refine z_iconst (v := 1) dX5_isBroken_182 rfl ?_
          refine z_goto (tgt := 187) dX5_isBroken_183 (by decide) ?_
          rw [g_t_isBroken, if_pos c5, if_pos c131, if_pos c142, if_neg c155]
          exact z_iret dX5_isBroken_187 rfl rfl rfl rfl
        · refine z_aload_0 dX5_isBroken_158 ?_
          refine z_get (k := 8) (v := .ref 5) dX5_isBroken_159 rfl rfl rfl (by decide) zf_X5_38 zw_in5 ?_
          refine z_iload_1 dX5_isBroken_162 ?_
          refine z_ialdN (k := k) dX5_isBroken_163 rfl (by first | omega | assumption) (by decide) ?_
          refine z_iload_2 dX5_isBroken_164 ?_
          refine z_iload_2 dX5_isBroken_165 ?_
          refine z_if_ge_t (tgt := 174) dX5_isBroken_166 (by decide) c142 ?_
          refine z_iload_6 dX5_isBroken_174 ?_
          refine z_imul dX5_isBroken_176 ?_
          refine z_iload_3 dX5_isBroken_177 ?_
          refine z_iadd dX5_isBroken_178 ?_
          refine z_icmp_eq (tgt := 186) dX5_isBroken_179 (by decide) (fun c179 => ?_) (fun c179 => ?_)
          · refine z_iconst (v := 0) dX5_isBroken_186 rfl ?_
            rw [g_t_isBroken, if_pos c5, if_pos c131, if_pos c142, if_pos c155, if_pos c179]
            exact z_iret dX5_isBroken_187 rfl rfl rfl rfl
          · refine z_iconst (v := 1) dX5_isBroken_182 rfl ?_
            refine z_goto (tgt := 187) dX5_isBroken_183 (by decide) ?_
            rw [g_t_isBroken, if_pos c5, if_pos c131, if_pos c142, if_pos c155, if_neg c179]
            exact z_iret dX5_isBroken_187 rfl rfl rfl rfl
      · refine z_iload_6 dX5_isBroken_145 ?_
        refine z_goto (tgt := 152) dX5_isBroken_147 (by decide) ?_
        refine z_imul dX5_isBroken_152 ?_
        refine z_iload_3 dX5_isBroken_153 ?_
        refine z_iadd dX5_isBroken_154 ?_
        refine z_icmp_ne (tgt := 182) dX5_isBroken_155 (by decide) (fun c155 => ?_) (fun c155 => ?_)
        · refine z_iconst (v := 1) dX5_isBroken_182 rfl ?_
          refine z_goto (tgt := 187) dX5_isBroken_183 (by decide) ?_
          rw [g_t_isBroken, if_pos c5, if_pos c131, if_neg c142, if_neg c155]
          exact z_iret dX5_isBroken_187 rfl rfl rfl rfl
        · refine z_aload_0 dX5_isBroken_158 ?_
          refine z_get (k := 8) (v := .ref 5) dX5_isBroken_159 rfl rfl rfl (by decide) zf_X5_38 zw_in5 ?_
          refine z_iload_1 dX5_isBroken_162 ?_
          refine z_ialdN (k := k) dX5_isBroken_163 rfl (by first | omega | assumption) (by decide) ?_
          refine z_iload_2 dX5_isBroken_164 ?_
          refine z_iload_2 dX5_isBroken_165 ?_
          refine z_if_ge_f (tgt := 174) dX5_isBroken_166 (by decide) c142 ?_
          refine z_iload_5 dX5_isBroken_169 ?_
          refine z_goto (tgt := 176) dX5_isBroken_171 (by decide) ?_
          refine z_imul dX5_isBroken_176 ?_
          refine z_iload_3 dX5_isBroken_177 ?_
          refine z_iadd dX5_isBroken_178 ?_
          refine z_icmp_eq (tgt := 186) dX5_isBroken_179 (by decide) (fun c179 => ?_) (fun c179 => ?_)
          · refine z_iconst (v := 0) dX5_isBroken_186 rfl ?_
            rw [g_t_isBroken, if_pos c5, if_pos c131, if_neg c142, if_pos c155, if_pos c179]
            exact z_iret dX5_isBroken_187 rfl rfl rfl rfl
          · refine z_iconst (v := 1) dX5_isBroken_182 rfl ?_
            refine z_goto (tgt := 187) dX5_isBroken_183 (by decide) ?_
            rw [g_t_isBroken, if_pos c5, if_pos c131, if_neg c142, if_pos c155, if_neg c179]
            exact z_iret dX5_isBroken_187 rfl rfl rfl rfl
  · refine z_aload_0 dX5_isBroken_8 ?_
    refine z_iload_1 dX5_isBroken_9 ?_
    refine Z.call0s (zRun.V (ρ := fun i => i) (k_isMarked T k (by first | omega | assumption) (by first | omega | assumption)) dX5_isBroken_10 zy_X5_isMarked zm_X5_98 rfl rfl rfl rfl (Nat.le_of_ble_eq_true rfl) (by decide) (by decide)) (zlen2 9 rfl rfl) ?_
    rw [g_t_isBroken, if_neg c5]
    exact z_iret dX5_isBroken_13 rfl (zb_nar _) rfl rfl
theorem thc_F (T U : TS) (f : Nat → Int32) : (th T ++ tho 9 U).set 1 (.inl (0, 128, .inl f)) = th (tn T, tu T, tp T, ta T, f, tL T, tS T, tlo T, thi T, tfa T, tog T, tva T) ++ tho 9 U := rfl
theorem thc_L (T U : TS) (f : Nat → Int32) : (th T ++ tho 9 U).set 2 (.inl (0, 128, .inl f)) = th (tn T, tu T, tp T, ta T, tF T, f, tS T, tlo T, thi T, tfa T, tog T, tva T) ++ tho 9 U := rfl
theorem thc_S (T U : TS) (f : Nat → Int64) : (th T ++ tho 9 U).set 3 (.inl (1, 128, .inr (.inl f))) = th (tn T, tu T, tp T, ta T, tF T, tL T, f, tlo T, thi T, tfa T, tog T, tva T) ++ tho 9 U := rfl
theorem thc_lo (T U : TS) (f : Nat → Int32) : (th T ++ tho 9 U).set 4 (.inl (0, 128, .inl f)) = th (tn T, tu T, tp T, ta T, tF T, tL T, tS T, f, thi T, tfa T, tog T, tva T) ++ tho 9 U := rfl
theorem thc_hi (T U : TS) (f : Nat → Int32) : (th T ++ tho 9 U).set 5 (.inl (0, 128, .inl f)) = th (tn T, tu T, tp T, ta T, tF T, tL T, tS T, tlo T, f, tfa T, tog T, tva T) ++ tho 9 U := rfl
theorem thc_fa (T U : TS) (f : Nat → Int32) : (th T ++ tho 9 U).set 6 (.inl (0, 128, .inl f)) = th (tn T, tu T, tp T, ta T, tF T, tL T, tS T, tlo T, thi T, f, tog T, tva T) ++ tho 9 U := rfl
theorem thc_og (T U : TS) (f : Nat → Int32) : (th T ++ tho 9 U).set 7 (.inl (0, 128, .inl f)) = th (tn T, tu T, tp T, ta T, tF T, tL T, tS T, tlo T, thi T, tfa T, f, tva T) ++ tho 9 U := rfl
theorem thc_va (T U : TS) (f : Nat → Int32) : (th T ++ tho 9 U).set 8 (.inl (0, 40, .inl f)) = th (tn T, tu T, tp T, ta T, tF T, tL T, tS T, tlo T, thi T, tfa T, tog T, f) ++ tho 9 U := rfl
def tCopy (U T : TS) : TS := (tn U, tu U, tp U, ta U, va_cpy (tF U) (tF T) (0 : Int32).toNatClampNeg (0 : Int32).toNatClampNeg (128 : Int32).toNatClampNeg, va_cpy (tL U) (tL T) (0 : Int32).toNatClampNeg (0 : Int32).toNatClampNeg (128 : Int32).toNatClampNeg, va_cpy (tS U) (tS T) (0 : Int32).toNatClampNeg (0 : Int32).toNatClampNeg (128 : Int32).toNatClampNeg, va_cpy (tlo U) (tlo T) (0 : Int32).toNatClampNeg (0 : Int32).toNatClampNeg (128 : Int32).toNatClampNeg, va_cpy (thi U) (thi T) (0 : Int32).toNatClampNeg (0 : Int32).toNatClampNeg (128 : Int32).toNatClampNeg, va_cpy (tfa U) (tfa T) (0 : Int32).toNatClampNeg (0 : Int32).toNatClampNeg (128 : Int32).toNatClampNeg, va_cpy (tog U) (tog T) (0 : Int32).toNatClampNeg (0 : Int32).toNatClampNeg (128 : Int32).toNatClampNeg, va_cpy (tva U) (tva T) (0 : Int32).toNatClampNeg (0 : Int32).toNatClampNeg (40 : Int32).toNatClampNeg)
theorem k_copyFrom (T U : TS) : zM sc yX5_copyFrom cX5_copyFrom 2 none 1 0 0 [.ref 0, .ref 9] (th T ++ tho 9 U) (.inl none) (th (tCopy U T) ++ tho 9 U) := by
  refine zM.at (ls := [some (.ref 0), some (.ref 9)]) zy_X5_copyFrom.2.2.2.2.2 (Nat.le_of_ble_eq_true rfl) rfl ?_
  refine z_aload_1 dX5_copyFrom_0 ?_
  refine z_ifnonnull (tgt := 5) dX5_copyFrom_1 (by decide) ?_
  refine z_aload_0 dX5_copyFrom_5 ?_
  refine z_aload_1 dX5_copyFrom_6 ?_
  refine z_get (k := 0) dX5_copyFrom_7 rfl rfl rfl (by decide) zf_X5_11 zw_in5 ?_
  refine z_put (k := 0) (ty := tyX5) dX5_copyFrom_10 rfl rfl (by decide) zf_X5_11 zw_in5 tyX5_ok nmX5 rfl (fun _ => ⟨rfl, rfl⟩) (Nat.le_of_ble_eq_true rfl) ?_
  refine z_aload_0 dX5_copyFrom_13 ?_
  refine z_aload_1 dX5_copyFrom_14 ?_
  refine z_get (k := 1) dX5_copyFrom_15 rfl rfl rfl (by decide) zf_X5_15 zw_in5 ?_
  refine z_put (k := 1) (ty := tyX5) dX5_copyFrom_18 rfl rfl (by decide) zf_X5_15 zw_in5 tyX5_ok nmX5 rfl (fun _ => ⟨rfl, rfl⟩) (Nat.le_of_ble_eq_true rfl) ?_
  refine z_aload_0 dX5_copyFrom_21 ?_
  refine z_aload_1 dX5_copyFrom_22 ?_
  refine z_get (k := 2) dX5_copyFrom_23 rfl rfl rfl (by decide) zf_X5_18 zw_in5 ?_
  refine z_put (k := 2) (ty := tyX5) dX5_copyFrom_26 rfl rfl (by decide) zf_X5_18 zw_in5 tyX5_ok nmX5 rfl (fun _ => ⟨rfl, rfl⟩) (Nat.le_of_ble_eq_true rfl) ?_
  refine z_aload_0 dX5_copyFrom_29 ?_
  refine z_aload_1 dX5_copyFrom_30 ?_
  refine z_get (k := 3) dX5_copyFrom_31 rfl rfl rfl (by decide) zf_X5_21 zw_in5 ?_
  refine z_put (k := 3) (ty := tyX5) dX5_copyFrom_34 rfl rfl (by decide) zf_X5_21 zw_in5 tyX5_ok nmX5 rfl (fun _ => ⟨rfl, rfl⟩) (Nat.le_of_ble_eq_true rfl) ?_
  refine Z.heap (h2 := th (tn U, tu U, tp U, ta U, tF T, tL T, tS T, tlo T, thi T, tfa T, tog T, tva T) ++ tho 9 U) rfl ?_
  refine Z.namePT (fun T0 e0 => ?_)
  refine z_aload_1 dX5_copyFrom_37 ?_
  refine z_get (k := 4) dX5_copyFrom_38 rfl rfl rfl (by decide) zf_X5_24 zw_in5 ?_
  refine z_iconst (v := 0) dX5_copyFrom_41 rfl ?_
  refine z_aload_0 dX5_copyFrom_42 ?_
  refine z_get (k := 4) dX5_copyFrom_43 rfl rfl rfl (by decide) zf_X5_24 zw_in5 ?_
  refine z_iconst (v := 0) dX5_copyFrom_46 rfl ?_
  refine z_sipush (v := 128) dX5_copyFrom_47 rfl ?_
  refine z_copyi (f := tF U) (g := tF T0) dX5_copyFrom_50 zac_l rfl rfl (by decide) (by decide) (by decide) (by decide) (by decide) (by decide) (Nat.le_of_ble_eq_true rfl) ?_
  refine Z.heap (thc_F _ _ _) ?_
  refine Z.namePT (fun T1 e1 => ?_)
  refine z_aload_1 dX5_copyFrom_53 ?_
  refine z_get (k := 5) dX5_copyFrom_54 rfl rfl rfl (by decide) zf_X5_28 zw_in5 ?_
  refine z_iconst (v := 0) dX5_copyFrom_57 rfl ?_
  refine z_aload_0 dX5_copyFrom_58 ?_
  refine z_get (k := 5) dX5_copyFrom_59 rfl rfl rfl (by decide) zf_X5_28 zw_in5 ?_
  refine z_iconst (v := 0) dX5_copyFrom_62 rfl ?_
  refine z_sipush (v := 128) dX5_copyFrom_63 rfl ?_
  refine z_copyi (f := tL U) (g := tL T1) dX5_copyFrom_66 zac_l rfl rfl (by decide) (by decide) (by decide) (by decide) (by decide) (by decide) (Nat.le_of_ble_eq_true rfl) ?_
  refine Z.heap (thc_L _ _ _) ?_
  refine Z.namePT (fun T2 e2 => ?_)
  refine z_aload_1 dX5_copyFrom_69 ?_
  refine z_get (k := 6) dX5_copyFrom_70 rfl rfl rfl (by decide) zf_X5_31 zw_in5 ?_
  refine z_iconst (v := 0) dX5_copyFrom_73 rfl ?_
  refine z_aload_0 dX5_copyFrom_74 ?_
  refine z_get (k := 6) dX5_copyFrom_75 rfl rfl rfl (by decide) zf_X5_31 zw_in5 ?_
  refine z_iconst (v := 0) dX5_copyFrom_78 rfl ?_
  refine z_sipush (v := 128) dX5_copyFrom_79 rfl ?_
  refine z_copyl (f := tS U) (g := tS T2) dX5_copyFrom_82 zac_l rfl rfl (by decide) (by decide) (by decide) (by decide) (by decide) (by decide) (Nat.le_of_ble_eq_true rfl) ?_
  refine Z.heap (thc_S _ _ _) ?_
  refine Z.namePT (fun T3 e3 => ?_)
  refine z_aload_1 dX5_copyFrom_85 ?_
  refine z_get (k := 7) dX5_copyFrom_86 rfl rfl rfl (by decide) zf_X5_35 zw_in5 ?_
  refine z_iconst (v := 0) dX5_copyFrom_89 rfl ?_
  refine z_aload_0 dX5_copyFrom_90 ?_
  refine z_get (k := 7) dX5_copyFrom_91 rfl rfl rfl (by decide) zf_X5_35 zw_in5 ?_
  refine z_iconst (v := 0) dX5_copyFrom_94 rfl ?_
  refine z_sipush (v := 128) dX5_copyFrom_95 rfl ?_
  refine z_copyi (f := tlo U) (g := tlo T3) dX5_copyFrom_98 zac_l rfl rfl (by decide) (by decide) (by decide) (by decide) (by decide) (by decide) (Nat.le_of_ble_eq_true rfl) ?_
  refine Z.heap (thc_lo _ _ _) ?_
  refine Z.namePT (fun T4 e4 => ?_)
  refine z_aload_1 dX5_copyFrom_101 ?_
  refine z_get (k := 8) dX5_copyFrom_102 rfl rfl rfl (by decide) zf_X5_38 zw_in5 ?_
  refine z_iconst (v := 0) dX5_copyFrom_105 rfl ?_
  refine z_aload_0 dX5_copyFrom_106 ?_
  refine z_get (k := 8) dX5_copyFrom_107 rfl rfl rfl (by decide) zf_X5_38 zw_in5 ?_
  refine z_iconst (v := 0) dX5_copyFrom_110 rfl ?_
  refine z_sipush (v := 128) dX5_copyFrom_111 rfl ?_
  refine z_copyi (f := thi U) (g := thi T4) dX5_copyFrom_114 zac_l rfl rfl (by decide) (by decide) (by decide) (by decide) (by decide) (by decide) (Nat.le_of_ble_eq_true rfl) ?_
  refine Z.heap (thc_hi _ _ _) ?_
  refine Z.namePT (fun T5 e5 => ?_)
  refine z_aload_1 dX5_copyFrom_117 ?_
  refine z_get (k := 9) dX5_copyFrom_118 rfl rfl rfl (by decide) zf_X5_41 zw_in5 ?_
  refine z_iconst (v := 0) dX5_copyFrom_121 rfl ?_
  refine z_aload_0 dX5_copyFrom_122 ?_
  refine z_get (k := 9) dX5_copyFrom_123 rfl rfl rfl (by decide) zf_X5_41 zw_in5 ?_
  refine z_iconst (v := 0) dX5_copyFrom_126 rfl ?_
  refine z_sipush (v := 128) dX5_copyFrom_127 rfl ?_
  refine z_copyi (f := tfa U) (g := tfa T5) dX5_copyFrom_130 zac_l rfl rfl (by decide) (by decide) (by decide) (by decide) (by decide) (by decide) (Nat.le_of_ble_eq_true rfl) ?_
  refine Z.heap (thc_fa _ _ _) ?_
  refine Z.namePT (fun T6 e6 => ?_)
  refine z_aload_1 dX5_copyFrom_133 ?_
  refine z_get (k := 10) dX5_copyFrom_134 rfl rfl rfl (by decide) zf_X5_44 zw_in5 ?_
  refine z_iconst (v := 0) dX5_copyFrom_137 rfl ?_
  refine z_aload_0 dX5_copyFrom_138 ?_
  refine z_get (k := 10) dX5_copyFrom_139 rfl rfl rfl (by decide) zf_X5_44 zw_in5 ?_
  refine z_iconst (v := 0) dX5_copyFrom_142 rfl ?_
  refine z_sipush (v := 128) dX5_copyFrom_143 rfl ?_
  refine z_copyi (f := tog U) (g := tog T6) dX5_copyFrom_146 zac_l rfl rfl (by decide) (by decide) (by decide) (by decide) (by decide) (by decide) (Nat.le_of_ble_eq_true rfl) ?_
  refine Z.heap (thc_og _ _ _) ?_
  refine Z.namePT (fun T7 e7 => ?_)
  refine z_aload_1 dX5_copyFrom_149 ?_
  refine z_get (k := 11) dX5_copyFrom_150 rfl rfl rfl (by decide) zf_X5_47 zw_in5 ?_
  refine z_iconst (v := 0) dX5_copyFrom_153 rfl ?_
  refine z_aload_0 dX5_copyFrom_154 ?_
  refine z_get (k := 11) dX5_copyFrom_155 rfl rfl rfl (by decide) zf_X5_47 zw_in5 ?_
  refine z_iconst (v := 0) dX5_copyFrom_158 rfl ?_
  refine z_bipush (v := 40) dX5_copyFrom_159 rfl ?_
  refine z_copyi (f := tva U) (g := tva T7) dX5_copyFrom_161 zac_l rfl rfl (by decide) (by decide) (by decide) (by decide) (by decide) (by decide) (Nat.le_of_ble_eq_true rfl) ?_
  refine Z.heap (thc_va _ _ _) ?_
  refine Z.namePT (fun T8 e8 => ?_)
  subst e8
  subst e7
  subst e6
  subst e5
  subst e4
  subst e3
  subst e2
  subst e1
  subst e0
  refine z_vret dX5_copyFrom_164 rfl rfl (congrArg (fun z => th z ++ tho 9 U) ?_)
  simp only [tCopy, tn_mk, tu_mk, tp_mk, ta_mk, tF_mk, tL_mk, tS_mk, tlo_mk, thi_mk, tfa_mk, tog_mk, tva_mk]
theorem k_t_isBroken_ (T : TS) (k : Nat) (h1 : 1 ≤ k) (h2 : k < 128) : zM sc yX5_isBroken cX5_isBroken 9 (some .boolean) 1 0 0 [.ref 0, .int (nI k)] (th T) (.inl (some (.int (zb (g_t_isBroken k T))))) (th T) := k_t_isBroken k T h1 h2
def g_isElement (x : Int32) : Bool := decide (tEl x)
theorem k_isElement_ (x : Int32) : zM sc yX6_isElement cX6_isElement 1 (some .boolean) 0 0 0 [.int x] [] (.inl (some (.int (zb (g_isElement x))))) [] := k_isElement x
noncomputable def g_c_6_violations_L2 (n : Nat) : Nat → Int32 → Nat → ZS → ZS → ZS → TS → Int32
  | 0, c, _, _, _, _, _ => c
  | fu + 1, c, k, S, X, R, T => (if ((g_isElement (tva T k))) = true then g_c_6_violations_L2 n fu c (k + 1) S X R T else g_c_6_violations_L2 n fu (c + 1) (k + 1) S X R T)
theorem l_g_c_6_violations_L2 (n : Nat) : ∀ (fu : Nat) (c : Int32) (k : Nat) (S : ZS) (X : ZS) (R : ZS) (T : TS) , (tn T = nI n) → (n ≤ 40) → (k + fu = n) → Z sc yX6_violations cX6_violations 3 (some .int) 2 0 0 33 [some (.ref 0), some (.int (c)), some (.int (nI (k)))] [] (qh S X R T) (.inl (some (.int (g_c_6_violations_L2 n fu c k S X R T)))) (qh S X R T) := by
  intro fu
  induction fu with
  | zero =>
    intro c k S X R T hn h40 hk
    refine z_iload_2 dX6_violations_33 ?_
    refine z_aload_0 dX6_violations_34 ?_
    refine z_get (k := 0) (v := .ref 1) dX6_violations_35 rfl rfl rfl (by decide) zf_X6_10 zw_in6 ?_
    refine Z.shs (qh S X R T) (zRun.V (ρ := zsh 1) (k_size T) dX6_violations_38 zy_X5_size zm_X6_99 rfl rfl rfl rfl (Nat.le_of_ble_eq_true rfl) (by decide) (by decide) (zsh_fix 1)) (zsh_inj (Nat.le_of_ble_eq_true rfl)) ⟨rfl, rfl, rfl, rfl, rfl, rfl, rfl, rfl, rfl, trivial⟩ (zlen2 9 rfl rfl) rfl rfl ?_
    refine z_topi (w := nI (n)) hn ?_
    refine z_icmpN_ge_t (tgt := 67) dX6_violations_41 (by decide) (x := k) (z := n) (by first | omega | assumption) (by first | omega | assumption) (by omega) ?_
    refine z_iload_1 dX6_violations_67 ?_
    rw [g_c_6_violations_L2]
    exact z_iret dX6_violations_68 rfl (zint _) rfl rfl
  | succ fu ih =>
    intro c k S X R T hn h40 hk
    refine z_iload_2 dX6_violations_33 ?_
    refine z_aload_0 dX6_violations_34 ?_
    refine z_get (k := 0) (v := .ref 1) dX6_violations_35 rfl rfl rfl (by decide) zf_X6_10 zw_in6 ?_
    refine Z.shs (qh S X R T) (zRun.V (ρ := zsh 1) (k_size T) dX6_violations_38 zy_X5_size zm_X6_99 rfl rfl rfl rfl (Nat.le_of_ble_eq_true rfl) (by decide) (by decide) (zsh_fix 1)) (zsh_inj (Nat.le_of_ble_eq_true rfl)) ⟨rfl, rfl, rfl, rfl, rfl, rfl, rfl, rfl, rfl, trivial⟩ (zlen2 9 rfl rfl) rfl rfl ?_
    refine z_topi (w := nI (n)) hn ?_
    refine z_icmpN_ge_f (tgt := 67) dX6_violations_41 (by decide) (x := k) (z := n) (by first | omega | assumption) (by first | omega | assumption) (by omega) ?_
    refine z_aload_0 dX6_violations_44 ?_
    refine z_get (k := 0) (v := .ref 1) dX6_violations_45 rfl rfl rfl (by decide) zf_X6_10 zw_in6 ?_
    refine z_iload_2 dX6_violations_48 ?_
    refine Z.shs (qh S X R T) (zRun.V (ρ := zsh 1) (k_valueAt T k (by first | omega | assumption)) dX6_violations_49 zy_X5_valueAt zm_X6_140 rfl rfl rfl rfl (Nat.le_of_ble_eq_true rfl) (by decide) (by decide) (zsh_fix 1)) (zsh_inj (Nat.le_of_ble_eq_true rfl)) ⟨rfl, rfl, rfl, rfl, rfl, rfl, rfl, rfl, rfl, trivial⟩ (zlen2 9 rfl rfl) rfl rfl ?_
    refine Z.callE (zRun.S (ρ := fun i => i) (k_isElement_ (tva T k) ) dX6_violations_52 zy_X6_isElement zm_X6_255 rfl rfl (Nat.le_of_ble_eq_true rfl) (by decide) (by decide)) ?_
    refine z_ifB_ne (tgt := 61) dX6_violations_55 (by decide) (fun c55 => ?_) (fun c55 => ?_)
    · refine z_iinc_2 (v := nI (k + 1)) dX6_violations_61 (nI_add _ 1) rfl (by decide) ?_
      refine z_goto (tgt := 33) dX6_violations_64 (by decide) ?_
      rw [g_c_6_violations_L2, if_pos c55]
      exact ih c (k + 1) S X R T (by first | omega | assumption) (by first | omega | assumption) (by first | omega | assumption)
    · refine z_iinc_1 (v := c + 1) dX6_violations_58 rfl rfl (by decide) ?_
      refine z_iinc_2 (v := nI (k + 1)) dX6_violations_61 (nI_add _ 1) rfl (by decide) ?_
      refine z_goto (tgt := 33) dX6_violations_64 (by decide) ?_
      rw [g_c_6_violations_L2, if_neg c55]
      exact ih (c + 1) (k + 1) S X R T (by first | omega | assumption) (by first | omega | assumption) (by first | omega | assumption)
noncomputable def g_c_6_violations_L1 (n : Nat) : Nat → Int32 → Nat → ZS → ZS → ZS → TS → Int32
  | 0, c, _, S, X, R, T => g_c_6_violations_L2 n n c 0 S X R T
  | fu + 1, c, k, S, X, R, T => (if (g_t_isBroken k T) = true then g_c_6_violations_L1 n fu (c + 1) (k + 1) S X R T else g_c_6_violations_L1 n fu c (k + 1) S X R T)
theorem l_g_c_6_violations_L1 (n : Nat) : ∀ (fu : Nat) (c : Int32) (k : Nat) (S : ZS) (X : ZS) (R : ZS) (T : TS) , (tn T = nI n) → (n ≤ 40) → (k + fu = 128) → (1 ≤ k) → Z sc yX6_violations cX6_violations 3 (some .int) 2 0 0 4 [some (.ref 0), some (.int (c)), some (.int (nI (k)))] [] (qh S X R T) (.inl (some (.int (g_c_6_violations_L1 n fu c k S X R T)))) (qh S X R T) := by
  intro fu
  induction fu with
  | zero =>
    intro c k S X R T hn h40 hk hk1
    refine z_iload_2 dX6_violations_4 ?_
    refine z_sipush (v := 128) dX6_violations_5 rfl ?_
    refine z_icmpN_ge_t (tgt := 31) dX6_violations_8 (by decide) (x := k) (z := 128) (by first | omega | assumption) (by first | omega | assumption) (by omega) ?_
    refine z_iconst (v := 0) dX6_violations_31 rfl ?_
    refine z_istore_2 dX6_violations_32 rfl (by decide) ?_
    rw [g_c_6_violations_L1]
    exact l_g_c_6_violations_L2 n n c 0 S X R T (by first | omega | assumption) (by first | omega | assumption) (by first | omega | assumption)
  | succ fu ih =>
    intro c k S X R T hn h40 hk hk1
    refine z_iload_2 dX6_violations_4 ?_
    refine z_sipush (v := 128) dX6_violations_5 rfl ?_
    refine z_icmpN_ge_f (tgt := 31) dX6_violations_8 (by decide) (x := k) (z := 128) (by first | omega | assumption) (by first | omega | assumption) (by omega) ?_
    refine z_aload_0 dX6_violations_11 ?_
    refine z_get (k := 0) (v := .ref 1) dX6_violations_12 rfl rfl rfl (by decide) zf_X6_10 zw_in6 ?_
    refine z_iload_2 dX6_violations_15 ?_
    refine Z.shs (qh S X R T) (zRun.V (ρ := zsh 1) (k_t_isBroken_ T k (by first | omega | assumption) (by first | omega | assumption)) dX6_violations_16 zy_X5_isBroken zm_X6_252 rfl rfl rfl rfl (Nat.le_of_ble_eq_true rfl) (by decide) (by decide) (zsh_fix 1)) (zsh_inj (Nat.le_of_ble_eq_true rfl)) ⟨rfl, rfl, rfl, rfl, rfl, rfl, rfl, rfl, rfl, trivial⟩ (zlen2 9 rfl rfl) rfl rfl ?_
    refine z_ifB_eq (tgt := 25) dX6_violations_19 (by decide) (fun c19 => ?_) (fun c19 => ?_)
    · refine z_iinc_2 (v := nI (k + 1)) dX6_violations_25 (nI_add _ 1) rfl (by decide) ?_
      refine z_goto (tgt := 4) dX6_violations_28 (by decide) ?_
      rw [g_c_6_violations_L1, if_neg c19]
      exact ih c (k + 1) S X R T (by first | omega | assumption) (by first | omega | assumption) (by first | omega | assumption) (by first | omega | assumption)
    · refine z_iinc_1 (v := c + 1) dX6_violations_22 rfl rfl (by decide) ?_
      refine z_iinc_2 (v := nI (k + 1)) dX6_violations_25 (nI_add _ 1) rfl (by decide) ?_
      refine z_goto (tgt := 4) dX6_violations_28 (by decide) ?_
      rw [g_c_6_violations_L1, if_pos c19]
      exact ih (c + 1) (k + 1) S X R T (by first | omega | assumption) (by first | omega | assumption) (by first | omega | assumption) (by first | omega | assumption)
noncomputable def g_c_6_violations (n : Nat) (S : ZS) (X : ZS) (R : ZS) (T : TS) : Int32 := g_c_6_violations_L1 n 127 0 1 S X R T
theorem k_c_6_violations (n : Nat) (S : ZS) (X : ZS) (R : ZS) (T : TS) (hn : tn T = nI n) (h40 : n ≤ 40) : zM sc yX6_violations cX6_violations 3 (some .int) 2 0 0 [.ref 0] (qh S X R T) (.inl (some (.int (g_c_6_violations n S X R T)))) (qh S X R T) := by
  refine zM.at (ls := [some (.ref 0), none, none]) zy_X6_violations.2.2.2.2.2 (Nat.le_of_ble_eq_true rfl) rfl ?_
  refine z_iconst (v := 0) dX6_violations_0 rfl ?_
  refine z_istore_1 dX6_violations_1 rfl (by decide) ?_
  refine z_iconst (v := 1) dX6_violations_2 rfl ?_
  refine z_istore_2 dX6_violations_3 rfl (by decide) ?_
  rw [g_c_6_violations]
  exact l_g_c_6_violations_L1 n 127 0 1 S X R T (by first | omega | assumption) (by first | omega | assumption) (by first | omega | assumption) (by first | omega | assumption)
