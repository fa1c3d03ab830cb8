variable {sc : SC}

noncomputable def g_m_grows_L2 (n : Nat) : Nat → Nat → ZS → ZS
  | 0, _, S => S
  | fu + 1, k, S => (if nI ((gp n k).1) = nI (gp n k).2 - 1 then g_m_grows_L2 n fu (k + 1) (sA 10 ((gp n k).1) (nI (k)) S) else (if nI (gp n k).2 - 1 ≤ nI ((gp n k).1) then g_m_grows_L2 n fu (k + 1) S else g_m_grows_L2 n fu (k + 1) (sA 9 (2 * k + 1) (nI (gp n k).2 - 1) (sA 8 (2 * k + 1) (nI ((((gp n k).1 + ((gp n k).2 - 1)) / 2) + 1)) (sA 9 (2 * k) (nI (((gp n k).1 + ((gp n k).2 - 1)) / 2)) (sA 8 (2 * k) (nI ((gp n k).1)) S))))))
theorem l_g_m_grows_L2 (n : Nat) : ∀ (fu : Nat) (k : Nat) (S : ZS) (j2 : Option Value), (k + fu = 128) → (1 ≤ k) → (n ≤ 40) → (gr2 n k S) → Z sc yX7_grows cX7_grows 3 none 0 0 0 69 [some (.ref 0), some (.int (nI (k))), j2] [] (mh S) (.inl none) (mh (g_m_grows_L2 n fu k S)) := by
  intro fu
  induction fu with
  | zero =>
    intro k S j2 hk hk1 h40 hg
    refine z_iload_1 dX7_grows_69 ?_
    refine z_sipush (v := 128) dX7_grows_70 rfl ?_
    refine z_icmpN_ge_t (tgt := 195) dX7_grows_73 (by decide) (x := k) (z := 128) (by first | omega | assumption) (by first | omega | assumption) (by omega) ?_
    rw [g_m_grows_L2]
    exact z_vret dX7_grows_195 rfl rfl rfl
  | succ fu ih =>
    intro k S j2 hk hk1 h40 hg
    refine z_iload_1 dX7_grows_69 ?_
    refine z_sipush (v := 128) dX7_grows_70 rfl ?_
    refine z_icmpN_ge_f (tgt := 195) dX7_grows_73 (by decide) (x := k) (z := 128) (by first | omega | assumption) (by first | omega | assumption) (by omega) ?_
    have hLk := ((hg.1 k (by omega)).1 (by omega)).1
    have hHk := ((hg.1 k (by omega)).1 (by omega)).2
    have ha40 := gp_40 n k h40
    refine z_aload_0 dX7_grows_76 ?_
    refine z_get (k := 16) (v := .ref 9) dX7_grows_77 rfl rfl rfl (by decide) zf_X7_39 zw_in7 ?_
    refine z_iload_1 dX7_grows_80 ?_
    refine z_ialdN (k := k) dX7_grows_81 rfl (by first | omega | assumption) (by decide) ?_
    refine z_topi (w := S.2 8 (k)) rfl ?_
    refine z_topi (w := nI ((gp n k).1)) hLk ?_
    refine z_aload_0 dX7_grows_82 ?_
    refine z_get (k := 17) (v := .ref 10) dX7_grows_83 rfl rfl rfl (by decide) zf_X7_42 zw_in7 ?_
    refine z_iload_1 dX7_grows_86 ?_
    refine z_ialdN (k := k) dX7_grows_87 rfl (by first | omega | assumption) (by decide) ?_
    refine z_topi (w := S.2 9 (k)) rfl ?_
    refine z_topi (w := nI (gp n k).2 - 1) hHk ?_
    refine z_icmp_ne (tgt := 106) dX7_grows_88 (by decide) (fun c88 => ?_) (fun c88 => ?_)
    · have hnl := fun e => c88 ((zgp_eq ha40.1 ha40.2).mpr e)
      refine z_aload_0 dX7_grows_106 ?_
      refine z_get (k := 16) (v := .ref 9) dX7_grows_107 rfl rfl rfl (by decide) zf_X7_39 zw_in7 ?_
      refine z_iload_1 dX7_grows_110 ?_
      refine z_ialdN (k := k) dX7_grows_111 rfl (by first | omega | assumption) (by decide) ?_
      refine z_topi (w := S.2 8 (k)) rfl ?_
      refine z_topi (w := nI ((gp n k).1)) hLk ?_
      refine z_aload_0 dX7_grows_112 ?_
      refine z_get (k := 17) (v := .ref 10) dX7_grows_113 rfl rfl rfl (by decide) zf_X7_42 zw_in7 ?_
      refine z_iload_1 dX7_grows_116 ?_
      refine z_ialdN (k := k) dX7_grows_117 rfl (by first | omega | assumption) (by decide) ?_
      refine z_topi (w := S.2 9 (k)) rfl ?_
      refine z_topi (w := nI (gp n k).2 - 1) hHk ?_
      refine z_icmp_ge (tgt := 189) dX7_grows_118 (by decide) (fun c118 => ?_) (fun c118 => ?_)
      · refine z_iinc_1 (v := nI (k + 1)) dX7_grows_189 (nI_add _ 1) rfl (by decide) ?_
        refine z_goto (tgt := 69) dX7_grows_192 (by decide) ?_
        rw [g_m_grows_L2, if_neg c88, if_pos c118]
        exact ih (k + 1) S _ (by first | omega | assumption) (by first | omega | assumption) (by first | omega | assumption) (by first | exact gr2_leaf hg h40 hk1 (by omega) hlf | exact gr2_in hg h40 hk1 hw h64 | exact gr2_none hg h40 hk1 (by omega) hnl (zgp_ge ha40.1 ha40.2 c118))
      · have hw := zgp_lt ha40.1 ha40.2 c118
        have h64 := gp_near n k h40 (by omega) hw
        have hHk2 : S.2 9 k = nI ((gp n k).2 - 1) := hHk.trans (pk_sub (a := (gp n k).2) (b := 1) (by omega))
        refine z_aload_0 dX7_grows_121 ?_
        refine z_get (k := 16) (v := .ref 9) dX7_grows_122 rfl rfl rfl (by decide) zf_X7_39 zw_in7 ?_
        refine z_iload_1 dX7_grows_125 ?_
        refine z_ialdN (k := k) dX7_grows_126 rfl (by first | omega | assumption) (by decide) ?_
        refine z_topi (w := S.2 8 (k)) rfl ?_
        refine z_topi (w := nI ((gp n k).1)) hLk ?_
        refine z_aload_0 dX7_grows_127 ?_
        refine z_get (k := 17) (v := .ref 10) dX7_grows_128 rfl rfl rfl (by decide) zf_X7_42 zw_in7 ?_
        refine z_iload_1 dX7_grows_131 ?_
        refine z_ialdN (k := k) dX7_grows_132 rfl (by first | omega | assumption) (by decide) ?_
        refine z_topi (w := S.2 9 (k)) rfl ?_
        refine z_topi (w := nI ((gp n k).2 - 1)) hHk2 ?_
        refine z_iadd dX7_grows_133 ?_
        refine z_topi (w := nI ((gp n k).1 + ((gp n k).2 - 1))) (nI_add _ _) ?_
        refine z_iconst (v := 2) dX7_grows_134 rfl ?_
        refine z_idiv dX7_grows_135 (by decide) ?_
        refine z_topi (w := nI (((gp n k).1 + ((gp n k).2 - 1)) / 2)) (pk_div (by first | omega | assumption) (by decide) (by decide)) ?_
        refine z_istore_2 dX7_grows_136 rfl (by decide) ?_
        refine z_aload_0 dX7_grows_137 ?_
        refine z_get (k := 16) (v := .ref 9) dX7_grows_138 rfl rfl rfl (by decide) zf_X7_39 zw_in7 ?_
        refine z_iconst (v := 2) dX7_grows_141 rfl ?_
        refine z_iload_1 dX7_grows_142 ?_
        refine z_imul dX7_grows_143 ?_
        refine z_topi (w := nI (2 * k)) (pk_mul _ _) ?_
        refine z_aload_0 dX7_grows_144 ?_
        refine z_get (k := 16) (v := .ref 9) dX7_grows_145 rfl rfl rfl (by decide) zf_X7_39 zw_in7 ?_
        refine z_iload_1 dX7_grows_148 ?_
        refine z_ialdN (k := k) dX7_grows_149 rfl (by first | omega | assumption) (by decide) ?_
        refine z_topi (w := S.2 8 (k)) rfl ?_
        refine z_topi (w := nI ((gp n k).1)) hLk ?_
        refine z_iastN (k := (2 * k)) dX7_grows_150 rfl (by first | omega | assumption) (by decide) ?_
        refine Z.heap (h2 := mh (sA 8 (2 * k) (nI ((gp n k).1)) S)) rfl ?_
        refine z_aload_0 dX7_grows_151 ?_
        refine z_get (k := 17) (v := .ref 10) dX7_grows_152 rfl rfl rfl (by decide) zf_X7_42 zw_in7 ?_
        refine z_iconst (v := 2) dX7_grows_155 rfl ?_
        refine z_iload_1 dX7_grows_156 ?_
        refine z_imul dX7_grows_157 ?_
        refine z_topi (w := nI (2 * k)) (pk_mul _ _) ?_
        refine z_iload_2 dX7_grows_158 ?_
        refine z_iastN (k := (2 * k)) dX7_grows_159 rfl (by first | omega | assumption) (by decide) ?_
        refine Z.heap (h2 := mh (sA 9 (2 * k) (nI (((gp n k).1 + ((gp n k).2 - 1)) / 2)) (sA 8 (2 * k) (nI ((gp n k).1)) S))) rfl ?_
        refine z_aload_0 dX7_grows_160 ?_
        refine z_get (k := 16) (v := .ref 9) dX7_grows_161 rfl rfl rfl (by decide) zf_X7_39 zw_in7 ?_
        refine z_iconst (v := 2) dX7_grows_164 rfl ?_
        refine z_iload_1 dX7_grows_165 ?_
        refine z_imul dX7_grows_166 ?_
        refine z_topi (w := nI (2 * k)) (pk_mul _ _) ?_
        refine z_iconst (v := 1) dX7_grows_167 rfl ?_
        refine z_iadd dX7_grows_168 ?_
        refine z_topi (w := nI (2 * k + 1)) (nI_add _ _) ?_
        refine z_iload_2 dX7_grows_169 ?_
        refine z_iconst (v := 1) dX7_grows_170 rfl ?_
        refine z_iadd dX7_grows_171 ?_
        refine z_topi (w := nI ((((gp n k).1 + ((gp n k).2 - 1)) / 2) + 1)) (nI_add _ _) ?_
        refine z_iastN (k := (2 * k + 1)) dX7_grows_172 rfl (by first | omega | assumption) (by decide) ?_
        refine Z.heap (h2 := mh (sA 8 (2 * k + 1) (nI ((((gp n k).1 + ((gp n k).2 - 1)) / 2) + 1)) (sA 9 (2 * k) (nI (((gp n k).1 + ((gp n k).2 - 1)) / 2)) (sA 8 (2 * k) (nI ((gp n k).1)) S)))) rfl ?_
        refine z_aload_0 dX7_grows_173 ?_
        refine z_get (k := 17) (v := .ref 10) dX7_grows_174 rfl rfl rfl (by decide) zf_X7_42 zw_in7 ?_
        refine z_iconst (v := 2) dX7_grows_177 rfl ?_
        refine z_iload_1 dX7_grows_178 ?_
        refine z_imul dX7_grows_179 ?_
        refine z_topi (w := nI (2 * k)) (pk_mul _ _) ?_
        refine z_iconst (v := 1) dX7_grows_180 rfl ?_
        refine z_iadd dX7_grows_181 ?_
        refine z_topi (w := nI (2 * k + 1)) (nI_add _ _) ?_
        refine z_aload_0 dX7_grows_182 ?_
        refine z_get (k := 17) (v := .ref 10) dX7_grows_183 rfl rfl rfl (by decide) zf_X7_42 zw_in7 ?_
        refine z_iload_1 dX7_grows_186 ?_
        refine z_ialdN (k := k) dX7_grows_187 rfl (by first | omega | assumption) (by decide) ?_
        refine z_topi (w := (sA 9 (2 * k) (nI (((gp n k).1 + ((gp n k).2 - 1)) / 2)) (sA 8 (2 * k) (nI ((gp n k).1)) S)).2 9 (k)) (by rw [sA_x (by decide)]) ?_
        refine z_topi (w := nI (gp n k).2 - 1) (by rw [sA_o (by omega), sA_x (by decide)]; exact hHk) ?_
        refine z_iastN (k := (2 * k + 1)) dX7_grows_188 rfl (by first | omega | assumption) (by decide) ?_
        refine Z.heap (h2 := mh (sA 9 (2 * k + 1) (nI (gp n k).2 - 1) (sA 8 (2 * k + 1) (nI ((((gp n k).1 + ((gp n k).2 - 1)) / 2) + 1)) (sA 9 (2 * k) (nI (((gp n k).1 + ((gp n k).2 - 1)) / 2)) (sA 8 (2 * k) (nI ((gp n k).1)) S))))) rfl ?_
        refine z_iinc_1 (v := nI (k + 1)) dX7_grows_189 (nI_add _ 1) rfl (by decide) ?_
        refine z_goto (tgt := 69) dX7_grows_192 (by decide) ?_
        rw [g_m_grows_L2, if_neg c88, if_neg c118]
        exact ih (k + 1) (sA 9 (2 * k + 1) (nI (gp n k).2 - 1) (sA 8 (2 * k + 1) (nI ((((gp n k).1 + ((gp n k).2 - 1)) / 2) + 1)) (sA 9 (2 * k) (nI (((gp n k).1 + ((gp n k).2 - 1)) / 2)) (sA 8 (2 * k) (nI ((gp n k).1)) S)))) _ (by first | omega | assumption) (by first | omega | assumption) (by first | omega | assumption) (by first | exact gr2_leaf hg h40 hk1 (by omega) hlf | exact gr2_in hg h40 hk1 hw h64 | exact gr2_none hg h40 hk1 (by omega) hnl (zgp_ge ha40.1 ha40.2 c118))
    · have hlf := (zgp_eq ha40.1 ha40.2).mp c88
      refine z_aload_0 dX7_grows_91 ?_
      refine z_get (k := 18) (v := .ref 11) dX7_grows_92 rfl rfl rfl (by decide) zf_X7_45 zw_in7 ?_
      refine z_aload_0 dX7_grows_95 ?_
      refine z_get (k := 16) (v := .ref 9) dX7_grows_96 rfl rfl rfl (by decide) zf_X7_39 zw_in7 ?_
      refine z_iload_1 dX7_grows_99 ?_
      refine z_ialdN (k := k) dX7_grows_100 rfl (by first | omega | assumption) (by decide) ?_
      refine z_topi (w := S.2 8 (k)) rfl ?_
      refine z_topi (w := nI ((gp n k).1)) hLk ?_
      refine z_iload_1 dX7_grows_101 ?_
      refine z_iastN (k := ((gp n k).1)) dX7_grows_102 rfl (by first | omega | assumption) (by decide) ?_
      refine Z.heap (h2 := mh (sA 10 ((gp n k).1) (nI (k)) S)) rfl ?_
      refine z_goto (tgt := 189) dX7_grows_103 (by decide) ?_
      refine z_iinc_1 (v := nI (k + 1)) dX7_grows_189 (nI_add _ 1) rfl (by decide) ?_
      refine z_goto (tgt := 69) dX7_grows_192 (by decide) ?_
      rw [g_m_grows_L2, if_pos c88]
      exact ih (k + 1) (sA 10 ((gp n k).1) (nI (k)) S) _ (by first | omega | assumption) (by first | omega | assumption) (by first | omega | assumption) (by first | exact gr2_leaf hg h40 hk1 (by omega) hlf | exact gr2_in hg h40 hk1 hw h64 | exact gr2_none hg h40 hk1 (by omega) hnl (zgp_ge ha40.1 ha40.2 c118))
noncomputable def g_m_grows_L1 (n : Nat) : Nat → Nat → ZS → ZS
  | 0, _, S => g_m_grows_L2 n 127 1 (sA 9 (1) (nI (n - 1)) S)
  | fu + 1, k, S => g_m_grows_L1 n fu (k + 1) (sA 9 (k) ((-1)) (sA 8 (k) (0) S))
theorem l_g_m_grows_L1 (n : Nat) : ∀ (fu : Nat) (k : Nat) (S : ZS) (j2 : Option Value), (k + fu = 128) → (1 ≤ n) → (n ≤ 40) → (S.2 0 0 = nI n) → (gr1 k S) → Z sc yX7_grows cX7_grows 3 none 0 0 0 26 [some (.ref 0), some (.int (nI (k))), j2] [] (mh S) (.inl none) (mh (g_m_grows_L1 n fu k S)) := by
  intro fu
  induction fu with
  | zero =>
    intro k S j2 hk h1 h40 hc hg
    refine z_iload_1 dX7_grows_26 ?_
    refine z_sipush (v := 128) dX7_grows_27 rfl ?_
    refine z_icmpN_ge_t (tgt := 53) dX7_grows_30 (by decide) (x := k) (z := 128) (by first | omega | assumption) (by first | omega | assumption) (by omega) ?_
    refine z_aload_0 dX7_grows_53 ?_
    refine z_get (k := 17) (v := .ref 10) dX7_grows_54 rfl rfl rfl (by decide) zf_X7_42 zw_in7 ?_
    refine z_iconst (v := 1) dX7_grows_57 rfl ?_
    refine z_aload_0 dX7_grows_58 ?_
    refine z_get (k := 0) (v := .ref 1) dX7_grows_59 rfl rfl rfl (by decide) zf_X7_7 zw_in7 ?_
    refine z_iconst (v := 0) dX7_grows_62 rfl ?_
    refine z_ialdN (k := 0) dX7_grows_63 rfl (by first | omega | assumption) (by decide) ?_
    refine z_topi (w := S.2 0 (0)) rfl ?_
    refine z_topi (w := nI (n)) hc ?_
    refine z_iconst (v := 1) dX7_grows_64 rfl ?_
    refine z_isub dX7_grows_65 ?_
    refine z_topi (w := nI (n - 1)) (pk_sub (a := n) (b := 1) (by first | omega | assumption)) ?_
    refine z_iastN (k := 1) dX7_grows_66 rfl (by first | omega | assumption) (by decide) ?_
    refine Z.heap (h2 := mh (sA 9 (1) (nI (n - 1)) S)) rfl ?_
    refine z_iconst (v := 1) dX7_grows_67 rfl ?_
    refine z_istore_1 dX7_grows_68 rfl (by decide) ?_
    rw [g_m_grows_L1]
    exact l_g_m_grows_L2 n 127 1 (sA 9 (1) (nI (n - 1)) S) _ (by first | omega | assumption) (by first | omega | assumption) (by first | omega | assumption) (gr2_0 ((by omega : k = 128) ▸ hg) h1 h40)
  | succ fu ih =>
    intro k S j2 hk h1 h40 hc hg
    refine z_iload_1 dX7_grows_26 ?_
    refine z_sipush (v := 128) dX7_grows_27 rfl ?_
    refine z_icmpN_ge_f (tgt := 53) dX7_grows_30 (by decide) (x := k) (z := 128) (by first | omega | assumption) (by first | omega | assumption) (by omega) ?_
    refine z_aload_0 dX7_grows_33 ?_
    refine z_get (k := 16) (v := .ref 9) dX7_grows_34 rfl rfl rfl (by decide) zf_X7_39 zw_in7 ?_
    refine z_iload_1 dX7_grows_37 ?_
    refine z_iconst (v := 0) dX7_grows_38 rfl ?_
    refine z_iastN (k := k) dX7_grows_39 rfl (by first | omega | assumption) (by decide) ?_
    refine Z.heap (h2 := mh (sA 8 (k) (0) S)) rfl ?_
    refine z_aload_0 dX7_grows_40 ?_
    refine z_get (k := 17) (v := .ref 10) dX7_grows_41 rfl rfl rfl (by decide) zf_X7_42 zw_in7 ?_
    refine z_iload_1 dX7_grows_44 ?_
    refine z_iconst (v := (-1)) dX7_grows_45 rfl ?_
    refine z_iastN (k := k) dX7_grows_46 rfl (by first | omega | assumption) (by decide) ?_
    refine Z.heap (h2 := mh (sA 9 (k) ((-1)) (sA 8 (k) (0) S))) rfl ?_
    refine z_iinc_1 (v := nI (k + 1)) dX7_grows_47 (nI_add _ 1) rfl (by decide) ?_
    refine z_goto (tgt := 26) dX7_grows_50 (by decide) ?_
    rw [g_m_grows_L1]
    exact ih (k + 1) (sA 9 (k) ((-1)) (sA 8 (k) (0) S)) _ (by first | omega | assumption) (by first | omega | assumption) (by first | omega | assumption) (by rw [sA_x (by decide), sA_x (by decide)]; exact hc) (gr1_step hg)
noncomputable def g_m_grows (n : Nat) (S : ZS) : ZS := (if S.1 19 = nI (n) then S else g_m_grows_L1 n 128 0 (sI 19 (nI (n)) S))
theorem k_m_grows (n : Nat) (S : ZS) (h1 : 1 ≤ n) (h40 : n ≤ 40) (hc : S.2 0 0 = nI n) : zM sc yX7_grows cX7_grows 3 none 0 0 0 [.ref 0] (mh S) (.inl none) (mh (g_m_grows n S)) := by
  refine zM.at (ls := [some (.ref 0), none, none]) zy_X7_grows.2.2.2.2.2 (Nat.le_of_ble_eq_true rfl) rfl ?_
  refine z_aload_0 dX7_grows_0 ?_
  refine z_get (k := 19) (v := .int (S.1 19)) dX7_grows_1 rfl rfl rfl (by decide) zf_X7_83 zw_in7 ?_
  refine z_aload_0 dX7_grows_4 ?_
  refine z_get (k := 0) (v := .ref 1) dX7_grows_5 rfl rfl rfl (by decide) zf_X7_7 zw_in7 ?_
  refine z_iconst (v := 0) dX7_grows_8 rfl ?_
  refine z_ialdN (k := 0) dX7_grows_9 rfl (by first | omega | assumption) (by decide) ?_
  refine z_topi (w := S.2 0 (0)) rfl ?_
  refine z_topi (w := nI (n)) hc ?_
  refine z_icmp_ne (tgt := 14) dX7_grows_10 (by decide) (fun c10 => ?_) (fun c10 => ?_)
  · refine z_aload_0 dX7_grows_14 ?_
    refine z_aload_0 dX7_grows_15 ?_
    refine z_get (k := 0) (v := .ref 1) dX7_grows_16 rfl rfl rfl (by decide) zf_X7_7 zw_in7 ?_
    refine z_iconst (v := 0) dX7_grows_19 rfl ?_
    refine z_ialdN (k := 0) dX7_grows_20 rfl (by first | omega | assumption) (by decide) ?_
    refine z_topi (w := S.2 0 (0)) rfl ?_
    refine z_topi (w := nI (n)) hc ?_
    refine z_put (k := 19) (ty := tyX7) dX7_grows_21 rfl rfl (by decide) zf_X7_83 zw_in7 tyX7_ok nmX7 rfl (fun _ => ⟨rfl, rfl⟩) (Nat.le_of_ble_eq_true rfl) ?_
    refine Z.heap (h2 := mh (sI 19 (nI (n)) S)) rfl ?_
    have hc2 : (sI 19 (nI n) S).2 0 0 = nI n := hc
    refine z_iconst (v := 0) dX7_grows_24 rfl ?_
    refine z_istore_1 dX7_grows_25 rfl (by decide) ?_
    rw [g_m_grows, if_neg c10]
    exact l_g_m_grows_L1 n 128 0 (sI 19 (nI (n)) S) _ (by first | omega | assumption) (by first | omega | assumption) (by first | omega | assumption) hc (fun j hj => absurd hj (Nat.not_lt_zero j))
  · rw [g_m_grows, if_pos c10]
    exact z_vret dX7_grows_13 rfl rfl rfl
