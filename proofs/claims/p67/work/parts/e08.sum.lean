variable {sc : SC}
/-! ===== sum ===== -/
section SUM
variable {S X R : ZS} {T : TS} {rest : List zO} {n : Nat} {w : Nat → Int32} {r : zR} {h' : List zO}
theorem l_sI (h : Rel n T w) {i : Nat} : ∀ (fu k : Nat) (s : Int64), k < 2 ^ fu → k < 128 → (k = 0 ∨ (gp n k).1 < (gp n k).2) →
    (∀ b : Option Value, Z sc yL_sum cL_sum 5 (some .long) 3 0 0 150 [some (.ref 0), some (.long (gsI T fu k s)), none, some (.int (nI i)), b] [] (qh S X R T ++ rest) r h') →
    Z sc yL_sum cL_sum 5 (some .long) 3 0 0 99 [some (.ref 0), some (.long s), none, some (.int (nI i)), some (.int (nI k))] [] (qh S X R T ++ rest) r h' := by
  have h40 := h.1.1.2
  intro fu
  induction fu with
  | zero =>
    intro k s h2 _ _ K
    have : k = 0 := by rw [Nat.pow_zero] at h2; omega
    subst this
    refine z_iload_4 dL_sum_99 ?_
    refine z_if_le_t (tgt := 150) dL_sum_101 (by decide) (by decide) ?_
    exact K _
  | succ fu ih =>
    intro k s h2 h8 hx K
    by_cases c : k = 0
    · subst c
      refine z_iload_4 dL_sum_99 ?_
      refine z_if_le_t (tgt := 150) dL_sum_101 (by decide) (by decide) ?_
      exact K _
    · have hxk : (gp n k).1 < (gp n k).2 := hx.resolve_left c
      have h3 : ¬ tF T k = -1 := fun z => by
        have h9 := gp_40 n k h40
        rw [((h.2.2.1 k (by omega) h8).1 hxk).1] at z
        exact nI_m1 (a := (gp n k).1) (by omega) (by rw [z]; exact Int32.le_refl _)
      have e : gsI T (fu + 1) k s = gsI T fu (k / 2) (31 * s + tS T k + 5 * (tfa T k).toInt64 + 11 * (tog T k).toInt64) := by rw [gsI, if_neg c]
      rw [e] at K
      refine z_iload_4 dL_sum_99 ?_
      refine z_if_le_f 150 dL_sum_101 (by decide) (fun z => by have := (nI_leI (a := k) (b := 0) (by omega) (by decide)).mp z; omega) ?_
      refine z_ldc2 dL_sum_104 zk_L_45 ?_
      refine z_lload_1 dL_sum_107 ?_
      refine z_lmul dL_sum_108 ?_
      refine z_aload_0 dL_sum_109 ?_
      refine z_iload_4 dL_sum_110 ?_
      refine z_q (As := [.int (nI k)]) (k_c_6_storedSum k S X R T (by omega) h8 h3) dL_sum_112 zy_X6_storedSum zm_L_55 rfl rfl (Nat.le_of_ble_eq_true rfl) (by decide) (by decide) ?_
      refine z_ladd dL_sum_115 ?_
      refine z_ldc2 dL_sum_116 zk_L_59 ?_
      refine z_aload_0 dL_sum_119 ?_
      refine z_iload_4 dL_sum_120 ?_
      refine z_q (As := [.int (nI k)]) (k_c_6_markFactor k S X R T (by omega) h8 h3) dL_sum_122 zy_X6_markFactor zm_L_61 rfl rfl (Nat.le_of_ble_eq_true rfl) (by decide) (by decide) ?_
      refine z_i2l dL_sum_125 ?_
      refine z_lmul dL_sum_126 ?_
      refine z_ladd dL_sum_127 ?_
      refine z_ldc2 dL_sum_128 zk_L_64 ?_
      refine z_aload_0 dL_sum_131 ?_
      refine z_iload_4 dL_sum_132 ?_
      refine z_q (As := [.int (nI k)]) (k_c_6_markOffset k S X R T (by omega) h8 h3) dL_sum_134 zy_X6_markOffset zm_L_66 rfl rfl (Nat.le_of_ble_eq_true rfl) (by decide) (by decide) ?_
      refine z_i2l dL_sum_137 ?_
      refine z_lmul dL_sum_138 ?_
      refine z_ladd dL_sum_139 ?_
      refine z_lstore_1 dL_sum_140 rfl (by decide) ?_
      refine z_iload_4 dL_sum_141 ?_
      refine z_iconst (v := 2) dL_sum_143 rfl ?_
      refine z_idiv dL_sum_144 (by decide) ?_
      refine z_topi (w := nI (k / 2)) (pk_div (d := 2) (by omega) (by decide) (by decide)) ?_
      refine z_istore_4 dL_sum_145 rfl (by decide) ?_
      refine z_goto (tgt := 99) dL_sum_147 (by decide) ?_
      refine ih (k / 2) _ (by rw [Nat.pow_succ] at h2; omega) (by omega) ?_ K
      by_cases c2 : k / 2 = 0
      · exact Or.inl c2
      · have := (gp_par h40 (by omega) h8 hxk).1
        exact Or.inr (by omega)
theorem l_s2 (h : Rel n T w) : ∀ (m i : Nat) (s : Int64) (b : Option Value), i + m = n →
    Z sc yL_sum cL_sum 5 (some .long) 3 0 0 84 [some (.ref 0), some (.long s), none, some (.int (nI i)), b] [] (qh S X R T ++ rest) (.inl (some (.long (gs2 n T m i s)))) (qh S X R T ++ rest) := by
  have h40 := h.1.1.2
  have hn := h.1.2.1
  intro m
  induction m with
  | zero =>
    intro i s b hi
    have : i = n := by omega
    subst this
    refine z_iload_3 dL_sum_84 ?_
    refine z_aload_0 dL_sum_85 ?_
    refine z_q (As := []) (k_c_6_elementCount i S X R T hn h40) dL_sum_86 zy_X6_elementCount zm_L_7 rfl rfl (Nat.le_of_ble_eq_true rfl) (by decide) (by decide) ?_
    refine z_icmp_ge_t (tgt := 156) dL_sum_89 (by decide) (Int32.le_refl _) ?_
    refine z_lload_1 dL_sum_156 ?_
    exact z_lret dL_sum_157 rfl rfl rfl
  | succ m ih =>
    intro i s b hi
    have hl := lf_gp h40 (show i < n by omega)
    refine z_iload_3 dL_sum_84 ?_
    refine z_aload_0 dL_sum_85 ?_
    refine z_q (As := []) (k_c_6_elementCount n S X R T hn h40) dL_sum_86 zy_X6_elementCount zm_L_7 rfl rfl (Nat.le_of_ble_eq_true rfl) (by decide) (by decide) ?_
    refine z_icmp_ge_f 156 dL_sum_89 (by decide) (fun z => by have := (nI_leI (a := n) (b := i) (by omega) (by omega)).mp z; omega) ?_
    refine z_aload_0 dL_sum_92 ?_
    refine z_iload_3 dL_sum_93 ?_
    refine z_q (As := [.int (nI i)]) (k_c_6_leafOf n i S X R T hn h40 (by omega)) dL_sum_94 zy_X6_leafOf zm_L_52 rfl rfl (Nat.le_of_ble_eq_true rfl) (by decide) (by decide) ?_
    refine z_topi (w := nI (lf n i)) (by rw [g_c_6_leafOf, Rel_leaf h (by omega)]) ?_
    refine z_istore_4 dL_sum_97 rfl (by decide) ?_
    refine l_sI h 7 (lf n i) s (by have := hl.2.2; omega) hl.2.2 (Or.inr (by rw [hl.1]; exact Nat.lt_succ_self _)) (fun b => ?_)
    refine z_iinc_3 (v := nI (i + 1)) dL_sum_150 (zinc _) rfl (by decide) ?_
    refine z_goto (tgt := 84) dL_sum_153 (by decide) ?_
    exact ih (i + 1) _ _ (by omega)
theorem l_s1 (h : Rel n T w) : ∀ (m i : Nat) (s : Int64), i + m = n →
    Z sc yL_sum cL_sum 5 (some .long) 3 0 0 44 [some (.ref 0), some (.long s), none, some (.int (nI i)), none] [] (qh S X R T ++ rest) (.inl (some (.long (gs2 n T n 0 (gs1 n S X R T m i s))))) (qh S X R T ++ rest) := by
  have h40 := h.1.1.2
  have hn := h.1.2.1
  intro m
  induction m with
  | zero =>
    intro i s hi
    have : i = n := by omega
    subst this
    refine z_iload_3 dL_sum_44 ?_
    refine z_aload_0 dL_sum_45 ?_
    refine z_q (As := []) (k_c_6_elementCount i S X R T hn h40) dL_sum_46 zy_X6_elementCount zm_L_7 rfl rfl (Nat.le_of_ble_eq_true rfl) (by decide) (by decide) ?_
    refine z_icmp_ge_t (tgt := 82) dL_sum_49 (by decide) (Int32.le_refl _) ?_
    refine z_iconst (v := nI 0) dL_sum_82 (by decide) ?_
    refine z_istore_3 dL_sum_83 rfl (by decide) ?_
    exact l_s2 h i 0 s none (by omega)
  | succ m ih =>
    intro i s hi
    refine z_iload_3 dL_sum_44 ?_
    refine z_aload_0 dL_sum_45 ?_
    refine z_q (As := []) (k_c_6_elementCount n S X R T hn h40) dL_sum_46 zy_X6_elementCount zm_L_7 rfl rfl (Nat.le_of_ble_eq_true rfl) (by decide) (by decide) ?_
    refine z_icmp_ge_f 82 dL_sum_49 (by decide) (fun z => by have := (nI_leI (a := n) (b := i) (by omega) (by omega)).mp z; omega) ?_
    refine z_ldc2 dL_sum_52 zk_L_45 ?_
    refine z_lload_1 dL_sum_55 ?_
    refine z_lmul dL_sum_56 ?_
    refine z_aload_0 dL_sum_57 ?_
    refine z_iload_3 dL_sum_58 ?_
    refine z_q (As := [.int (nI i)]) (k_c_6_element n i S X R T hn h40 (by omega)) dL_sum_59 zy_X6_element zm_L_19 rfl rfl (Nat.le_of_ble_eq_true rfl) (by decide) (by decide) ?_
    refine z_i2l dL_sum_62 ?_
    refine z_ladd dL_sum_63 ?_
    refine z_ldc2 dL_sum_64 zk_L_47 ?_
    refine z_aload_0 dL_sum_67 ?_
    refine z_iload_3 dL_sum_68 ?_
    refine z_q (As := [.int (nI i)]) (k_c_6_marksAbove n i S X R T hn h40 (by omega)) dL_sum_69 zy_X6_marksAbove zm_L_49 rfl rfl (Nat.le_of_ble_eq_true rfl) (by decide) (by decide) ?_
    refine z_i2l dL_sum_72 ?_
    refine z_lmul dL_sum_73 ?_
    refine z_ladd dL_sum_74 ?_
    refine z_lstore_1 dL_sum_75 rfl (by decide) ?_
    refine z_iinc_3 (v := nI (i + 1)) dL_sum_76 (zinc _) rfl (by decide) ?_
    refine z_goto (tgt := 44) dL_sum_79 (by decide) ?_
    exact ih (i + 1) _ (by omega)
theorem k_sum (h : Rel n T w) : zM sc yL_sum cL_sum 5 (some .long) 3 0 0 [.ref 0] (qh S X R T ++ rest) (.inl (some (.long (gS n S X R T)))) (qh S X R T ++ rest) := by
  have h40 := h.1.1.2
  have hn := h.1.2.1
  refine zM.at (ls := [some (.ref 0), none, none, none, none]) zy_L_sum.2.2.2.2 (Nat.le_of_ble_eq_true rfl) rfl ?_
  refine z_aload_0 dL_sum_0 ?_
  refine z_q (As := []) (k_c_6_updateCount n S X R T hn h40) dL_sum_1 zy_X6_updateCount zm_L_27 rfl rfl (Nat.le_of_ble_eq_true rfl) (by decide) (by decide) ?_
  refine z_i2l dL_sum_4 ?_
  refine z_ldc2 dL_sum_5 zk_L_30 ?_
  refine z_aload_0 dL_sum_8 ?_
  refine z_q (As := []) (k_c_6_pushCount n S X R T hn h40) dL_sum_9 zy_X6_pushCount zm_L_32 rfl rfl (Nat.le_of_ble_eq_true rfl) (by decide) (by decide) ?_
  refine z_i2l dL_sum_12 ?_
  refine z_lmul dL_sum_13 ?_
  refine z_ladd dL_sum_14 ?_
  refine z_ldc2 dL_sum_15 zk_L_35 ?_
  refine z_aload_0 dL_sum_18 ?_
  refine z_q (As := []) (k_c_6_appliedCount n S X R T hn h40) dL_sum_19 zy_X6_appliedCount zm_L_37 rfl rfl (Nat.le_of_ble_eq_true rfl) (by decide) (by decide) ?_
  refine z_i2l dL_sum_22 ?_
  refine z_lmul dL_sum_23 ?_
  refine z_ladd dL_sum_24 ?_
  refine z_ldc2 dL_sum_25 zk_L_40 ?_
  refine z_aload_0 dL_sum_28 ?_
  refine z_q (As := []) (k_c_6_elementCount n S X R T hn h40) dL_sum_29 zy_X6_elementCount zm_L_7 rfl rfl (Nat.le_of_ble_eq_true rfl) (by decide) (by decide) ?_
  refine z_i2l dL_sum_32 ?_
  refine z_lmul dL_sum_33 ?_
  refine z_ladd dL_sum_34 ?_
  refine z_aload_0 dL_sum_35 ?_
  refine z_q (As := []) (k_c_6_markedNodes n S X R T hn h40) dL_sum_36 zy_X6_markedNodes zm_L_42 rfl rfl (Nat.le_of_ble_eq_true rfl) (by decide) (by decide) ?_
  refine z_i2l dL_sum_39 ?_
  refine z_ladd dL_sum_40 ?_
  refine z_lstore_1 dL_sum_41 rfl (by decide) ?_
  refine z_iconst (v := nI 0) dL_sum_42 (by decide) ?_
  refine z_istore_3 dL_sum_43 rfl (by decide) ?_
  exact l_s1 h n 0 _ (by omega)
end SUM
