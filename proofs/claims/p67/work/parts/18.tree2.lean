variable {sc : SC}
theorem k_size (T : TS) : zM sc yX5_size cX5_size 1 (some .int) 0 0 0 [.ref 0] (th T) (.inl (some (.int (tn T)))) (th T) := by
  refine zM.at (ls := [some (.ref 0)]) zy_X5_size.2.2.2.2.2 (Nat.le_of_ble_eq_true rfl) rfl ?_
  refine z_aload_0 dX5_size_0 ?_
  refine z_get (k := 0) dX5_size_1 rfl rfl rfl (by decide) zf_X5_11 zw_in5 ?_
  exact z_iret dX5_size_4 rfl rfl rfl rfl
theorem k_updates (T : TS) : zM sc yX5_updates cX5_updates 1 (some .int) 0 0 0 [.ref 0] (th T) (.inl (some (.int (tu T)))) (th T) := by
  refine zM.at (ls := [some (.ref 0)]) zy_X5_updates.2.2.2.2.2 (Nat.le_of_ble_eq_true rfl) rfl ?_
  refine z_aload_0 dX5_updates_0 ?_
  refine z_get (k := 1) dX5_updates_1 rfl rfl rfl (by decide) zf_X5_15 zw_in5 ?_
  exact z_iret dX5_updates_4 rfl rfl rfl rfl
theorem k_pushes (T : TS) : zM sc yX5_pushes cX5_pushes 1 (some .int) 0 0 0 [.ref 0] (th T) (.inl (some (.int (tp T)))) (th T) := by
  refine zM.at (ls := [some (.ref 0)]) zy_X5_pushes.2.2.2.2.2 (Nat.le_of_ble_eq_true rfl) rfl ?_
  refine z_aload_0 dX5_pushes_0 ?_
  refine z_get (k := 2) dX5_pushes_1 rfl rfl rfl (by decide) zf_X5_18 zw_in5 ?_
  exact z_iret dX5_pushes_4 rfl rfl rfl rfl
theorem k_applications (T : TS) : zM sc yX5_applications cX5_applications 1 (some .int) 0 0 0 [.ref 0] (th T) (.inl (some (.int (ta T)))) (th T) := by
  refine zM.at (ls := [some (.ref 0)]) zy_X5_applications.2.2.2.2.2 (Nat.le_of_ble_eq_true rfl) rfl ?_
  refine z_aload_0 dX5_applications_0 ?_
  refine z_get (k := 3) dX5_applications_1 rfl rfl rfl (by decide) zf_X5_21 zw_in5 ?_
  exact z_iret dX5_applications_4 rfl rfl rfl rfl
def zmin (a b : Int32) : Int32 := if b < a then b else a
def zmax (a b : Int32) : Int32 := if a < b then b else a
def tGather (T : TS) (k : Nat) : TS := (tn T, tu T, tp T, ta T, tF T, tL T, vp_updL (tS T) k (tS T (2 * k) + tS T (2 * k + 1)), upd (tlo T) k (zmin (tlo T (2 * k)) (tlo T (2 * k + 1))), upd (thi T) k (zmax (thi T (2 * k)) (thi T (2 * k + 1))), tfa T, tog T, tva T)
def tW (T : TS) (k : Nat) : Int32 := tL T k - tF T k + 1
def tMark (T : TS) (k : Nat) (f g : Int32) : TS := (tn T, tu T, tp T, ta T, tF T, tL T, vp_updL (tS T) k (f.toInt64 * tS T k + g.toInt64 * (tW T k).toInt64), upd (tlo T) k (f * (if 0 ≤ f then tlo T k else thi T k) + g), upd (thi T) k (f * (if 0 ≤ f then thi T k else tlo T k) + g), (if tW T k ≤ 1 then tfa T else upd (tfa T) k (f * tfa T k)), (if tW T k ≤ 1 then tog T else upd (tog T) k (f * tog T k + g)), tva T)
def tPlant (T : TS) (k : Nat) : TS := if tF T k < 0 ∨ ¬ tF T k < 40 then T else (tn T, tu T, tp T, ta T, tF T, tL T, vp_updL (tS T) k (tva T (tF T k).toNatClampNeg).toInt64, upd (tlo T) k (tva T (tF T k).toNatClampNeg), upd (thi T) k (tva T (tF T k).toNatClampNeg), tfa T, tog T, tva T)
theorem k_gather (T : TS) (k : Nat) (h1 : 1 ≤ k) (h2 : k < 64) : zM sc yX5_gather cX5_gather 4 none 1 0 0 [.ref 0, .int (nI k)] (th T) (.inl none) (th (tGather T k)) := by
  refine zM.at (ls := [some (.ref 0), some (.int (nI k)), none, none]) zy_X5_gather.2.2.2.2.2 (Nat.le_of_ble_eq_true rfl) rfl ?_
  refine z_iload_1 dX5_gather_0 ?_
  refine z_iconst (v := 1) dX5_gather_1 rfl ?_
  refine z_icmp_lt_f 82 dX5_gather_2 (by decide) (by first | assumption | (simp (disch := omega) only [Int32.lt_iff_toInt_lt, Int32.le_iff_toInt_le, nI_toInt, Int32.reduceToInt] at *; omega) | (simp (disch := omega) only [Int32.lt_iff_toInt_lt, Int32.le_iff_toInt_le, nI_toInt, Int32.reduceToInt]; omega)) ?_
  refine z_iload_1 dX5_gather_5 ?_
  refine z_bipush (v := 64) dX5_gather_6 rfl ?_
  refine z_icmp_ge_f 82 dX5_gather_8 (by decide) (by first | assumption | (simp (disch := omega) only [Int32.lt_iff_toInt_lt, Int32.le_iff_toInt_le, nI_toInt, Int32.reduceToInt] at *; omega) | (simp (disch := omega) only [Int32.lt_iff_toInt_lt, Int32.le_iff_toInt_le, nI_toInt, Int32.reduceToInt]; omega)) ?_
  refine z_iconst (v := 2) dX5_gather_11 rfl ?_
  refine z_iload_1 dX5_gather_12 ?_
  refine z_imul dX5_gather_13 ?_
  refine z_topi (w := nI (2 * k)) (zq2 k) ?_
  refine z_istore_2 dX5_gather_14 rfl (by decide) ?_
  refine z_iconst (v := 2) dX5_gather_15 rfl ?_
  refine z_iload_1 dX5_gather_16 ?_
  refine z_imul dX5_gather_17 ?_
  refine z_topi (w := nI (2 * k)) (zq2 k) ?_
  refine z_iconst (v := 1) dX5_gather_18 rfl ?_
  refine z_iadd dX5_gather_19 ?_
  refine z_topi (w := nI (2 * k + 1)) (zq1 _) ?_
  refine z_istore_3 dX5_gather_20 rfl (by decide) ?_
  refine z_aload_0 dX5_gather_21 ?_
  refine z_get (k := 6) dX5_gather_22 rfl rfl rfl (by decide) zf_X5_31 zw_in5 ?_
  refine z_iload_1 dX5_gather_25 ?_
  refine z_aload_0 dX5_gather_26 ?_
  refine z_get (k := 6) dX5_gather_27 rfl rfl rfl (by decide) zf_X5_31 zw_in5 ?_
  refine z_iload_2 dX5_gather_30 ?_
  refine z_laldN dX5_gather_31 rfl (by omega) (by decide) ?_
  refine z_aload_0 dX5_gather_32 ?_
  refine z_get (k := 6) dX5_gather_33 rfl rfl rfl (by decide) zf_X5_31 zw_in5 ?_
  refine z_iload_3 dX5_gather_36 ?_
  refine z_laldN dX5_gather_37 rfl (by omega) (by decide) ?_
  refine z_ladd dX5_gather_38 ?_
  refine z_lastN dX5_gather_39 rfl (by omega) (by decide) ?_
  refine z_aload_0 dX5_gather_40 ?_
  refine z_get (k := 7) dX5_gather_41 rfl rfl rfl (by decide) zf_X5_35 zw_in5 ?_
  refine z_iload_1 dX5_gather_44 ?_
  refine z_aload_0 dX5_gather_45 ?_
  refine z_get (k := 7) dX5_gather_46 rfl rfl rfl (by decide) zf_X5_35 zw_in5 ?_
  refine z_iload_2 dX5_gather_49 ?_
  refine z_ialdN dX5_gather_50 rfl (by omega) (by decide) ?_
  refine z_aload_0 dX5_gather_51 ?_
  refine z_get (k := 7) dX5_gather_52 rfl rfl rfl (by decide) zf_X5_35 zw_in5 ?_
  refine z_iload_3 dX5_gather_55 ?_
  refine z_ialdN dX5_gather_56 rfl (by omega) (by decide) ?_
  refine z_mn dX5_gather_57 zm_X5_76 (by decide) (Nat.le_of_ble_eq_true rfl) ?_
  refine z_iastN dX5_gather_60 rfl (by omega) (by decide) ?_
  refine z_aload_0 dX5_gather_61 ?_
  refine z_get (k := 8) dX5_gather_62 rfl rfl rfl (by decide) zf_X5_38 zw_in5 ?_
  refine z_iload_1 dX5_gather_65 ?_
  refine z_aload_0 dX5_gather_66 ?_
  refine z_get (k := 8) dX5_gather_67 rfl rfl rfl (by decide) zf_X5_38 zw_in5 ?_
  refine z_iload_2 dX5_gather_70 ?_
  refine z_ialdN dX5_gather_71 rfl (by omega) (by decide) ?_
  refine z_aload_0 dX5_gather_72 ?_
  refine z_get (k := 8) dX5_gather_73 rfl rfl rfl (by decide) zf_X5_38 zw_in5 ?_
  refine z_iload_3 dX5_gather_76 ?_
  refine z_ialdN dX5_gather_77 rfl (by omega) (by decide) ?_
  refine z_mx dX5_gather_78 zm_X5_82 (by decide) (Nat.le_of_ble_eq_true rfl) ?_
  refine z_iastN dX5_gather_81 rfl (by omega) (by decide) ?_
  exact z_vret dX5_gather_82 rfl rfl rfl
theorem k_mark (T : TS) (k : Nat) (f g : Int32) (h1 : 1 ≤ k) (h2 : k < 128) : zM sc yX5_mark cX5_mark 7 none 0 0 0 [.ref 0, .int (nI k), .int f, .int g] (th T) (.inl none) (th (tMark T k f g)) := by
  refine zM.at (ls := [some (.ref 0), some (.int (nI k)), some (.int f), some (.int g), none, none, none]) zy_X5_mark.2.2.2.2.2 (Nat.le_of_ble_eq_true rfl) rfl ?_
  refine z_iload_1 dX5_mark_0 ?_
  refine z_iconst (v := 1) dX5_mark_1 rfl ?_
  refine z_icmp_lt_f 12 dX5_mark_2 (by decide) (by first | assumption | (simp (disch := omega) only [Int32.lt_iff_toInt_lt, Int32.le_iff_toInt_le, nI_toInt, Int32.reduceToInt] at *; omega) | (simp (disch := omega) only [Int32.lt_iff_toInt_lt, Int32.le_iff_toInt_le, nI_toInt, Int32.reduceToInt]; omega)) ?_
  refine z_iload_1 dX5_mark_5 ?_
  refine z_sipush (v := 128) dX5_mark_6 rfl ?_
  refine z_icmp_lt_t (tgt := 13) dX5_mark_9 (by decide) (by first | assumption | (simp (disch := omega) only [Int32.lt_iff_toInt_lt, Int32.le_iff_toInt_le, nI_toInt, Int32.reduceToInt] at *; omega) | (simp (disch := omega) only [Int32.lt_iff_toInt_lt, Int32.le_iff_toInt_le, nI_toInt, Int32.reduceToInt]; omega)) ?_
  refine z_aload_0 dX5_mark_13 ?_
  refine z_get (k := 5) dX5_mark_14 rfl rfl rfl (by decide) zf_X5_28 zw_in5 ?_
  refine z_iload_1 dX5_mark_17 ?_
  refine z_ialdN dX5_mark_18 rfl (by omega) (by decide) ?_
  refine z_aload_0 dX5_mark_19 ?_
  refine z_get (k := 4) dX5_mark_20 rfl rfl rfl (by decide) zf_X5_24 zw_in5 ?_
  refine z_iload_1 dX5_mark_23 ?_
  refine z_ialdN dX5_mark_24 rfl (by omega) (by decide) ?_
  refine z_isub dX5_mark_25 ?_
  refine z_iconst (v := 1) dX5_mark_26 rfl ?_
  refine z_iadd dX5_mark_27 ?_
  refine z_istore_4 dX5_mark_28 rfl (by decide) ?_
  refine z_iload_2 dX5_mark_30 ?_
  refine z_if_ge (tgt := 43) dX5_mark_31 (by decide) (fun c => ?_) (fun c => ?_)
  · refine z_aload_0 dX5_mark_43 ?_
    refine z_get (k := 7) dX5_mark_44 rfl rfl rfl (by decide) zf_X5_35 zw_in5 ?_
    refine z_iload_1 dX5_mark_47 ?_
    refine z_ialdN dX5_mark_48 rfl (by omega) (by decide) ?_
    refine z_istore_5 dX5_mark_49 rfl (by decide) ?_
    refine z_iload_2 dX5_mark_51 ?_
    refine z_if_ge_t (tgt := 64) dX5_mark_52 (by decide) c ?_
    refine z_aload_0 dX5_mark_64 ?_
    refine z_get (k := 8) dX5_mark_65 rfl rfl rfl (by decide) zf_X5_38 zw_in5 ?_
    refine z_iload_1 dX5_mark_68 ?_
    refine z_ialdN dX5_mark_69 rfl (by omega) (by decide) ?_
    refine z_istore_6 dX5_mark_70 rfl (by decide) ?_
    refine z_aload_0 dX5_mark_72 ?_
    refine z_get (k := 6) dX5_mark_73 rfl rfl rfl (by decide) zf_X5_31 zw_in5 ?_
    refine z_iload_1 dX5_mark_76 ?_
    refine z_iload_2 dX5_mark_77 ?_
    refine z_i2l dX5_mark_78 ?_
    refine z_aload_0 dX5_mark_79 ?_
    refine z_get (k := 6) dX5_mark_80 rfl rfl rfl (by decide) zf_X5_31 zw_in5 ?_
    refine z_iload_1 dX5_mark_83 ?_
    refine z_laldN dX5_mark_84 rfl (by omega) (by decide) ?_
    refine z_lmul dX5_mark_85 ?_
    refine z_iload_3 dX5_mark_86 ?_
    refine z_i2l dX5_mark_87 ?_
    refine z_iload_4 dX5_mark_88 ?_
    refine z_i2l dX5_mark_90 ?_
    refine z_lmul dX5_mark_91 ?_
    refine z_ladd dX5_mark_92 ?_
    refine z_lastN dX5_mark_93 rfl (by omega) (by decide) ?_
    refine z_aload_0 dX5_mark_94 ?_
    refine z_get (k := 7) dX5_mark_95 rfl rfl rfl (by decide) zf_X5_35 zw_in5 ?_
    refine z_iload_1 dX5_mark_98 ?_
    refine z_iload_2 dX5_mark_99 ?_
    refine z_iload_5 dX5_mark_100 ?_
    refine z_imul dX5_mark_102 ?_
    refine z_iload_3 dX5_mark_103 ?_
    refine z_iadd dX5_mark_104 ?_
    refine z_iastN dX5_mark_105 rfl (by omega) (by decide) ?_
    refine z_aload_0 dX5_mark_106 ?_
    refine z_get (k := 8) dX5_mark_107 rfl rfl rfl (by decide) zf_X5_38 zw_in5 ?_
    refine z_iload_1 dX5_mark_110 ?_
    refine z_iload_2 dX5_mark_111 ?_
    refine z_iload_6 dX5_mark_112 ?_
    refine z_imul dX5_mark_114 ?_
    refine z_iload_3 dX5_mark_115 ?_
    refine z_iadd dX5_mark_116 ?_
    refine z_iastN dX5_mark_117 rfl (by omega) (by decide) ?_
    refine z_iload_4 dX5_mark_118 ?_
    refine z_iconst (v := 1) dX5_mark_120 rfl ?_
    refine z_icmp_le (tgt := 154) dX5_mark_121 (by decide) (fun c3 => ?_) (fun c3 => ?_)
    · exact z_vret dX5_mark_154 rfl rfl (by rw [tMark, if_pos (show tW T k ≤ 1 from c3), if_pos (show tW T k ≤ 1 from c3), if_pos c, if_pos c]; rfl)
    · refine z_aload_0 dX5_mark_124 ?_
      refine z_get (k := 9) dX5_mark_125 rfl rfl rfl (by decide) zf_X5_41 zw_in5 ?_
      refine z_iload_1 dX5_mark_128 ?_
      refine z_iload_2 dX5_mark_129 ?_
      refine z_aload_0 dX5_mark_130 ?_
      refine z_get (k := 9) dX5_mark_131 rfl rfl rfl (by decide) zf_X5_41 zw_in5 ?_
      refine z_iload_1 dX5_mark_134 ?_
      refine z_ialdN dX5_mark_135 rfl (by omega) (by decide) ?_
      refine z_imul dX5_mark_136 ?_
      refine z_iastN dX5_mark_137 rfl (by omega) (by decide) ?_
      refine z_aload_0 dX5_mark_138 ?_
      refine z_get (k := 10) dX5_mark_139 rfl rfl rfl (by decide) zf_X5_44 zw_in5 ?_
      refine z_iload_1 dX5_mark_142 ?_
      refine z_iload_2 dX5_mark_143 ?_
      refine z_aload_0 dX5_mark_144 ?_
      refine z_get (k := 10) dX5_mark_145 rfl rfl rfl (by decide) zf_X5_44 zw_in5 ?_
      refine z_iload_1 dX5_mark_148 ?_
      refine z_ialdN dX5_mark_149 rfl (by omega) (by decide) ?_
      refine z_imul dX5_mark_150 ?_
      refine z_iload_3 dX5_mark_151 ?_
      refine z_iadd dX5_mark_152 ?_
      refine z_iastN dX5_mark_153 rfl (by omega) (by decide) ?_
      exact z_vret dX5_mark_154 rfl rfl (by rw [tMark, if_neg (show ¬ tW T k ≤ 1 from c3), if_neg (show ¬ tW T k ≤ 1 from c3), if_pos c, if_pos c]; rfl)
  · refine z_aload_0 dX5_mark_34 ?_
    refine z_get (k := 8) dX5_mark_35 rfl rfl rfl (by decide) zf_X5_38 zw_in5 ?_
    refine z_iload_1 dX5_mark_38 ?_
    refine z_ialdN dX5_mark_39 rfl (by omega) (by decide) ?_
    refine z_goto (tgt := 49) dX5_mark_40 (by decide) ?_
    refine z_istore_5 dX5_mark_49 rfl (by decide) ?_
    refine z_iload_2 dX5_mark_51 ?_
    refine z_if_ge_f 64 dX5_mark_52 (by decide) c ?_
    refine z_aload_0 dX5_mark_55 ?_
    refine z_get (k := 7) dX5_mark_56 rfl rfl rfl (by decide) zf_X5_35 zw_in5 ?_
    refine z_iload_1 dX5_mark_59 ?_
    refine z_ialdN dX5_mark_60 rfl (by omega) (by decide) ?_
    refine z_goto (tgt := 70) dX5_mark_61 (by decide) ?_
    refine z_istore_6 dX5_mark_70 rfl (by decide) ?_
    refine z_aload_0 dX5_mark_72 ?_
    refine z_get (k := 6) dX5_mark_73 rfl rfl rfl (by decide) zf_X5_31 zw_in5 ?_
    refine z_iload_1 dX5_mark_76 ?_
    refine z_iload_2 dX5_mark_77 ?_
    refine z_i2l dX5_mark_78 ?_
    refine z_aload_0 dX5_mark_79 ?_
    refine z_get (k := 6) dX5_mark_80 rfl rfl rfl (by decide) zf_X5_31 zw_in5 ?_
    refine z_iload_1 dX5_mark_83 ?_
    refine z_laldN dX5_mark_84 rfl (by omega) (by decide) ?_
    refine z_lmul dX5_mark_85 ?_
    refine z_iload_3 dX5_mark_86 ?_
    refine z_i2l dX5_mark_87 ?_
    refine z_iload_4 dX5_mark_88 ?_
    refine z_i2l dX5_mark_90 ?_
    refine z_lmul dX5_mark_91 ?_
    refine z_ladd dX5_mark_92 ?_
    refine z_lastN dX5_mark_93 rfl (by omega) (by decide) ?_
    refine z_aload_0 dX5_mark_94 ?_
    refine z_get (k := 7) dX5_mark_95 rfl rfl rfl (by decide) zf_X5_35 zw_in5 ?_
    refine z_iload_1 dX5_mark_98 ?_
    refine z_iload_2 dX5_mark_99 ?_
    refine z_iload_5 dX5_mark_100 ?_
    refine z_imul dX5_mark_102 ?_
    refine z_iload_3 dX5_mark_103 ?_
    refine z_iadd dX5_mark_104 ?_
    refine z_iastN dX5_mark_105 rfl (by omega) (by decide) ?_
    refine z_aload_0 dX5_mark_106 ?_
    refine z_get (k := 8) dX5_mark_107 rfl rfl rfl (by decide) zf_X5_38 zw_in5 ?_
    refine z_iload_1 dX5_mark_110 ?_
    refine z_iload_2 dX5_mark_111 ?_
    refine z_iload_6 dX5_mark_112 ?_
    refine z_imul dX5_mark_114 ?_
    refine z_iload_3 dX5_mark_115 ?_
    refine z_iadd dX5_mark_116 ?_
    refine z_iastN dX5_mark_117 rfl (by omega) (by decide) ?_
    refine z_iload_4 dX5_mark_118 ?_
    refine z_iconst (v := 1) dX5_mark_120 rfl ?_
    refine z_icmp_le (tgt := 154) dX5_mark_121 (by decide) (fun c3 => ?_) (fun c3 => ?_)
    · exact z_vret dX5_mark_154 rfl rfl (by rw [tMark, if_pos (show tW T k ≤ 1 from c3), if_pos (show tW T k ≤ 1 from c3), if_neg c, if_neg c]; rfl)
    · refine z_aload_0 dX5_mark_124 ?_
      refine z_get (k := 9) dX5_mark_125 rfl rfl rfl (by decide) zf_X5_41 zw_in5 ?_
      refine z_iload_1 dX5_mark_128 ?_
      refine z_iload_2 dX5_mark_129 ?_
      refine z_aload_0 dX5_mark_130 ?_
      refine z_get (k := 9) dX5_mark_131 rfl rfl rfl (by decide) zf_X5_41 zw_in5 ?_
      refine z_iload_1 dX5_mark_134 ?_
      refine z_ialdN dX5_mark_135 rfl (by omega) (by decide) ?_
      refine z_imul dX5_mark_136 ?_
      refine z_iastN dX5_mark_137 rfl (by omega) (by decide) ?_
      refine z_aload_0 dX5_mark_138 ?_
      refine z_get (k := 10) dX5_mark_139 rfl rfl rfl (by decide) zf_X5_44 zw_in5 ?_
      refine z_iload_1 dX5_mark_142 ?_
      refine z_iload_2 dX5_mark_143 ?_
      refine z_aload_0 dX5_mark_144 ?_
      refine z_get (k := 10) dX5_mark_145 rfl rfl rfl (by decide) zf_X5_44 zw_in5 ?_
      refine z_iload_1 dX5_mark_148 ?_
      refine z_ialdN dX5_mark_149 rfl (by omega) (by decide) ?_
      refine z_imul dX5_mark_150 ?_
      refine z_iload_3 dX5_mark_151 ?_
      refine z_iadd dX5_mark_152 ?_
      refine z_iastN dX5_mark_153 rfl (by omega) (by decide) ?_
      exact z_vret dX5_mark_154 rfl rfl (by rw [tMark, if_neg (show ¬ tW T k ≤ 1 from c3), if_neg (show ¬ tW T k ≤ 1 from c3), if_neg c, if_neg c]; rfl)
theorem k_plant (T : TS) (k : Nat) (h1 : 1 ≤ k) (h2 : k < 128) : zM sc yX5_plant cX5_plant 3 none 0 0 0 [.ref 0, .int (nI k)] (th T) (.inl none) (th (tPlant T k)) := by
  refine zM.at (ls := [some (.ref 0), some (.int (nI k)), none]) zy_X5_plant.2.2.2.2.2 (Nat.le_of_ble_eq_true rfl) rfl ?_
  refine z_iload_1 dX5_plant_0 ?_
  refine z_iconst (v := 1) dX5_plant_1 rfl ?_
  refine z_icmp_lt_f 12 dX5_plant_2 (by decide) (by first | assumption | (simp (disch := omega) only [Int32.lt_iff_toInt_lt, Int32.le_iff_toInt_le, nI_toInt, Int32.reduceToInt] at *; omega) | (simp (disch := omega) only [Int32.lt_iff_toInt_lt, Int32.le_iff_toInt_le, nI_toInt, Int32.reduceToInt]; omega)) ?_
  refine z_iload_1 dX5_plant_5 ?_
  refine z_sipush (v := 128) dX5_plant_6 rfl ?_
  refine z_icmp_lt_t (tgt := 13) dX5_plant_9 (by decide) (by first | assumption | (simp (disch := omega) only [Int32.lt_iff_toInt_lt, Int32.le_iff_toInt_le, nI_toInt, Int32.reduceToInt] at *; omega) | (simp (disch := omega) only [Int32.lt_iff_toInt_lt, Int32.le_iff_toInt_le, nI_toInt, Int32.reduceToInt]; omega)) ?_
  refine z_aload_0 dX5_plant_13 ?_
  refine z_get (k := 4) dX5_plant_14 rfl rfl rfl (by decide) zf_X5_24 zw_in5 ?_
  refine z_iload_1 dX5_plant_17 ?_
  refine z_ialdN dX5_plant_18 rfl (by omega) (by decide) ?_
  refine z_istore_2 dX5_plant_19 rfl (by decide) ?_
  refine z_iload_2 dX5_plant_20 ?_
  refine z_if_lt (tgt := 67) dX5_plant_21 (by decide) (fun c => ?_) (fun c => ?_)
  · exact z_vret dX5_plant_67 rfl rfl (by rw [tPlant, if_pos (Or.inl c)])
  · refine z_iload_2 dX5_plant_24 ?_
    refine z_bipush (v := 40) dX5_plant_25 rfl ?_
    refine z_icmp_ge (tgt := 67) dX5_plant_27 (by decide) (fun c2 => ?_) (fun c2 => ?_)
    · exact z_vret dX5_plant_67 rfl rfl (by rw [tPlant, if_pos (Or.inr (Int32.not_lt.mpr c2))])
    · refine z_aload_0 dX5_plant_30 ?_
      refine z_get (k := 6) dX5_plant_31 rfl rfl rfl (by decide) zf_X5_31 zw_in5 ?_
      refine z_iload_1 dX5_plant_34 ?_
      refine z_aload_0 dX5_plant_35 ?_
      refine z_get (k := 11) dX5_plant_36 rfl rfl rfl (by decide) zf_X5_47 zw_in5 ?_
      refine z_iload_2 dX5_plant_39 ?_
      refine z_iald dX5_plant_40 rfl (by rw [vp_in_iff]; simp only [Int32.lt_iff_toInt_lt, Int32.le_iff_toInt_le, Int32.reduceToInt] at c c2; omega) ?_
      refine z_i2l dX5_plant_41 ?_
      refine z_lastN dX5_plant_42 rfl (by omega) (by decide) ?_
      refine z_aload_0 dX5_plant_43 ?_
      refine z_get (k := 7) dX5_plant_44 rfl rfl rfl (by decide) zf_X5_35 zw_in5 ?_
      refine z_iload_1 dX5_plant_47 ?_
      refine z_aload_0 dX5_plant_48 ?_
      refine z_get (k := 11) dX5_plant_49 rfl rfl rfl (by decide) zf_X5_47 zw_in5 ?_
      refine z_iload_2 dX5_plant_52 ?_
      refine z_iald dX5_plant_53 rfl (by rw [vp_in_iff]; simp only [Int32.lt_iff_toInt_lt, Int32.le_iff_toInt_le, Int32.reduceToInt] at c c2; omega) ?_
      refine z_iastN dX5_plant_54 rfl (by omega) (by decide) ?_
      refine z_aload_0 dX5_plant_55 ?_
      refine z_get (k := 8) dX5_plant_56 rfl rfl rfl (by decide) zf_X5_38 zw_in5 ?_
      refine z_iload_1 dX5_plant_59 ?_
      refine z_aload_0 dX5_plant_60 ?_
      refine z_get (k := 11) dX5_plant_61 rfl rfl rfl (by decide) zf_X5_47 zw_in5 ?_
      refine z_iload_2 dX5_plant_64 ?_
      refine z_iald dX5_plant_65 rfl (by rw [vp_in_iff]; simp only [Int32.lt_iff_toInt_lt, Int32.le_iff_toInt_le, Int32.reduceToInt] at c c2; omega) ?_
      refine z_iastN dX5_plant_66 rfl (by omega) (by decide) ?_
      exact z_vret dX5_plant_67 rfl rfl (by rw [tPlant, if_neg (fun z => z.elim c (fun z => z (Int32.not_le.mp c2)))]; rfl)
