variable {sc : SC}
/-! ===== isSame ===== -/
section SAME
variable {S X R : ZS} {T : TS} {rest : List zO} {a n : Nat} {f : Nat → Int32}
theorem l_same (hr : (qh S X R T ++ rest)[a]? = some (.inl (0, 40, .inl f))) (hn : tn T = nI n) (h40 : n ≤ 40) (h1 : 1 ≤ n) (hv : ∀ i, i < n → tva T i = f i) : ∀ (m i : Nat) (s : Int64), i + m = n → g_c_6_totalOf_L 0 (n - 1) m i s S X R T = g_c_6_sum n 0 (n - 1) S X R T →
    Z sc yL_isSame cL_isSame 6 (some .boolean) 4 0 0 34 [some (.ref 0), some (.ref a), some (.int (nI n)), some (.long s), none, some (.int (nI i))] [] (qh S X R T ++ rest) (.inl (some (.int 1))) (qh S X R T ++ rest) := by
  intro m
  induction m with
  | zero =>
    intro i s hi hs
    have : i = n := by omega
    subst this
    have es : s = g_c_6_sum i 0 (i - 1) S X R T := hs
    refine z_iload_5 dL_isSame_34 ?_
    refine z_iload_2 dL_isSame_36 ?_
    refine z_icmp_ge_t (tgt := 69) dL_isSame_37 (by decide) (Int32.le_refl _) ?_
    refine z_aload_0 dL_isSame_69 ?_
    refine z_iconst (v := nI 0) dL_isSame_70 (by decide) ?_
    refine z_iload_2 dL_isSame_71 ?_
    refine z_iconst (v := 1) dL_isSame_72 rfl ?_
    refine z_isub dL_isSame_73 ?_
    refine z_topi (w := nI (i - 1)) (pk_sub (b := 1) h1) ?_
    refine z_q (As := [.int (nI 0), .int (nI (i - 1))]) (k_c_6_sum i 0 (i - 1) S X R T hn h40 (Nat.zero_le _) (by omega)) dL_isSame_74 zy_X6_sum zm_L_23 rfl rfl (Nat.le_of_ble_eq_true rfl) (by decide) (by decide) ?_
    refine z_lload_3 dL_isSame_77 ?_
    refine z_lcmp dL_isSame_78 ?_
    refine z_if_ne_f 86 dL_isSame_79 (by decide) ((lg_cmp_eq _ _).mpr es.symm) ?_
    refine z_iconst (v := 1) dL_isSame_82 rfl ?_
    refine z_goto (tgt := 87) dL_isSame_83 (by decide) ?_
    exact z_iret dL_isSame_87 rfl rfl rfl rfl
  | succ m ih =>
    intro i s hi hs
    refine z_iload_5 dL_isSame_34 ?_
    refine z_iload_2 dL_isSame_36 ?_
    refine z_icmp_ge_f 69 dL_isSame_37 (by decide) (fun z => by have := (nI_leI (a := n) (b := i) (by omega) (by omega)).mp z; omega) ?_
    refine z_aload_0 dL_isSame_40 ?_
    refine z_iload_5 dL_isSame_41 ?_
    refine z_q (As := [.int (nI i)]) (k_c_6_element n i S X R T hn h40 (by omega)) dL_isSame_43 zy_X6_element zm_L_19 rfl rfl (Nat.le_of_ble_eq_true rfl) (by decide) (by decide) ?_
    refine z_aload_1 dL_isSame_46 ?_
    refine z_iload_5 dL_isSame_47 ?_
    refine z_ialdN (k := i) dL_isSame_49 hr (by omega) (by decide) ?_
    refine z_icmp_eq_t (tgt := 55) dL_isSame_50 (by decide) (hv i (by omega)) ?_
    refine z_lload_3 dL_isSame_55 ?_
    refine z_aload_1 dL_isSame_56 ?_
    refine z_iload_5 dL_isSame_57 ?_
    refine z_ialdN (k := i) dL_isSame_59 hr (by omega) (by decide) ?_
    refine z_i2l dL_isSame_60 ?_
    refine z_ladd dL_isSame_61 ?_
    refine z_lstore_3 dL_isSame_62 rfl (by decide) ?_
    refine z_iinc_5 (v := nI (i + 1)) dL_isSame_63 (zinc _) rfl (by decide) ?_
    refine z_goto (tgt := 34) dL_isSame_66 (by decide) ?_
    refine ih (i + 1) (s + (f i).toInt64) (by omega) ?_
    rw [← hs, ← hv i (by omega)]
    rfl
theorem k_isSame {w : Nat → Int32} (h : Rel n T w) (hr : (qh S X R T ++ rest)[a]? = some (.inl (0, 40, .inl f))) (hv : ∀ i, i < n → tva T i = f i) : zM sc yL_isSame cL_isSame 6 (some .boolean) 4 0 0 [.ref 0, .ref a, .int (nI n)] (qh S X R T ++ rest) (.inl (some (.int 1))) (qh S X R T ++ rest) := by
  have h1 := h.1.1.1
  have h40 := h.1.1.2
  have hn := h.1.2.1
  refine zM.at (ls := [some (.ref 0), some (.ref a), some (.int (nI n)), none, none, none]) zy_L_isSame.2.2.2.2 (Nat.le_of_ble_eq_true rfl) rfl ?_
  refine z_lconst (v := 0) dL_isSame_0 rfl ?_
  refine z_lstore_3 dL_isSame_1 rfl (by decide) ?_
  refine z_aload_0 dL_isSame_2 ?_
  refine z_q (As := []) (k_c_6_elementCount n S X R T hn h40) dL_isSame_3 zy_X6_elementCount zm_L_7 rfl rfl (Nat.le_of_ble_eq_true rfl) (by decide) (by decide) ?_
  refine z_iload_2 dL_isSame_6 ?_
  refine z_icmp_ne_f 29 dL_isSame_7 (by decide) rfl ?_
  refine z_aload_0 dL_isSame_10 ?_
  refine z_q (As := []) (k_c_6_nodeCount n S X R T hn h40 h1) dL_isSame_11 zy_X6_nodeCount zm_L_13 rfl rfl (Nat.le_of_ble_eq_true rfl) (by decide) (by decide) ?_
  refine z_iconst (v := 2) dL_isSame_14 rfl ?_
  refine z_iload_2 dL_isSame_15 ?_
  refine z_imul dL_isSame_16 ?_
  refine z_iconst (v := 1) dL_isSame_17 rfl ?_
  refine z_isub dL_isSame_18 ?_
  refine z_icmp_ne_f 29 dL_isSame_19 (by decide) ?_ ?_
  · rw [show (2 : Int32) = nI 2 by decide, show (1 : Int32) = nI 1 by decide, pk_mul, pk_sub (by omega)]
    rfl
  refine z_aload_0 dL_isSame_22 ?_
  refine z_q (As := []) (k_c_6_violations n S X R T hn h40) dL_isSame_23 zy_X6_violations zm_L_16 rfl rfl (Nat.le_of_ble_eq_true rfl) (by decide) (by decide) ?_
  refine z_if_eq_t (tgt := 31) dL_isSame_26 (by decide) (Rel_vio h S X R) ?_
  refine z_iconst (v := nI 0) dL_isSame_31 (by decide) ?_
  refine z_istore_5 dL_isSame_32 rfl (by decide) ?_
  refine l_same hr hn h40 h1 hv n 0 0 (by omega) ?_
  show _ = g_c_6_totalOf_L 0 (n - 1) (n - 1 + 1 - 0) 0 0 S X R T
  rw [show n - 1 + 1 - 0 = n by omega]
end SAME
