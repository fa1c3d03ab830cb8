variable {sc : SC}

noncomputable def g_m_storedSum_L (n : Nat) (k : Nat) : Nat → Int64 → Nat → ZS → Int64 × ZS
  | 0, s, _, S => (s, S)
  | fu + 1, s, i, S => g_m_storedSum_L n k fu (s + (((g_m_seenFrom n k i S)).toInt64)) (i + 1) S
theorem l_g_m_storedSum_L (n : Nat) (k : Nat) : ∀ (fu : Nat) (s : Int64) (i : Nat) (S : ZS) , (1 ≤ n) → (n ≤ 40) → (1 ≤ k) → (k < 128) → ((gp n k).1 < (gp n k).2) → (mGr n S) → (i + fu = (gp n k).2) → ((gp n k).1 ≤ i) → Z sc yX7_storedSum cX7_storedSum 5 (some .long) 2 0 0 32 [some (.ref 0), some (.int (nI (k))), some (.long (s)), none, some (.int (nI (i)))] [] (mh S) (.inl (some (.long (g_m_storedSum_L n k fu s i S).1))) (mh (g_m_storedSum_L n k fu s i S).2) := by
  intro fu
  induction fu with
  | zero =>
    intro s i S h1 h40 k1 k2 hp hG hi hi1
    have hgn := gp_n n k
    refine z_iload_4 dX7_storedSum_32 ?_
    refine z_aload_0 dX7_storedSum_34 ?_
    refine z_get (k := 17) (v := .ref 10) dX7_storedSum_35 rfl rfl rfl (by decide) zf_X7_42 zw_in7 ?_
    refine z_iload_1 dX7_storedSum_38 ?_
    refine z_ialdN (k := k) dX7_storedSum_39 rfl (by first | omega | assumption) (by decide) ?_
    refine z_topi (w := S.2 9 (k)) rfl ?_
    refine z_topi (w := nI ((gp n k).2 - 1)) (hG.hi1 (by first | omega | assumption) hp) ?_
    refine z_icmpN_gt_t (tgt := 60) dX7_storedSum_40 (by decide) (x := i) (z := (gp n k).2 - 1) (by first | omega | assumption) (by first | omega | assumption) (by omega) ?_
    refine z_lload_2 dX7_storedSum_60 ?_
    rw [g_m_storedSum_L]
    exact z_lret dX7_storedSum_61 rfl rfl rfl
  | succ fu ih =>
    intro s i S h1 h40 k1 k2 hp hG hi hi1
    have hgn := gp_n n k
    refine z_iload_4 dX7_storedSum_32 ?_
    refine z_aload_0 dX7_storedSum_34 ?_
    refine z_get (k := 17) (v := .ref 10) dX7_storedSum_35 rfl rfl rfl (by decide) zf_X7_42 zw_in7 ?_
    refine z_iload_1 dX7_storedSum_38 ?_
    refine z_ialdN (k := k) dX7_storedSum_39 rfl (by first | omega | assumption) (by decide) ?_
    refine z_topi (w := S.2 9 (k)) rfl ?_
    refine z_topi (w := nI ((gp n k).2 - 1)) (hG.hi1 (by first | omega | assumption) hp) ?_
    refine z_icmpN_gt_f (tgt := 60) dX7_storedSum_40 (by decide) (x := i) (z := (gp n k).2 - 1) (by first | omega | assumption) (by first | omega | assumption) (by omega) ?_
    refine z_lload_2 dX7_storedSum_43 ?_
    refine z_aload_0 dX7_storedSum_44 ?_
    refine z_iload_1 dX7_storedSum_45 ?_
    refine z_iload_4 dX7_storedSum_46 ?_
    refine Z.call0s (zRun.V (ρ := fun i => i) (k_m_seenFrom n k i S k1 k2 h40 (by omega) hG (lf_anc h40 k2 (by omega) (by omega))) dX7_storedSum_48 zy_X7_seenFrom zm_X7_89 rfl rfl rfl rfl (Nat.le_of_ble_eq_true rfl) (by decide) (by decide)) (zlen2 14 rfl rfl) ?_
    refine z_i2l dX7_storedSum_51 ?_
    refine z_ladd dX7_storedSum_52 ?_
    refine z_lstore_2 dX7_storedSum_53 rfl (by decide) ?_
    refine z_iinc_4 (v := nI (i + 1)) dX7_storedSum_54 (nI_add _ 1) rfl (by decide) ?_
    refine z_goto (tgt := 32) dX7_storedSum_57 (by decide) ?_
    have hgn := gp_n n k
    rw [g_m_storedSum_L]
    exact ih (s + (((g_m_seenFrom n k i S)).toInt64)) (i + 1) S (by first | omega | assumption) (by first | omega | assumption) (by first | omega | assumption) (by first | omega | assumption) (by first | omega | assumption) hG (by first | omega | assumption) (by first | omega | assumption)
noncomputable def g_m_storedSum (n : Nat) (k : Nat) (S : ZS) : Int64 × ZS := g_m_storedSum_L n k ((gp n k).2 - (gp n k).1) 0 ((gp n k).1) (sI 15 (0) (g_m_grows n S))
theorem k_m_storedSum (n : Nat) (k : Nat) (S : ZS) (h1 : 1 ≤ n) (h40 : n ≤ 40) (k1 : 1 ≤ k) (k2 : k < 128) (hp : (gp n k).1 < (gp n k).2) (hO : mOK n S) : zM sc yX7_storedSum cX7_storedSum 5 (some .long) 2 0 0 [.ref 0, .int (nI (k))] (mh S) (.inl (some (.long (g_m_storedSum n k S).1))) (mh (g_m_storedSum n k S).2) := by
  refine zM.at (ls := [some (.ref 0), some (.int (nI (k))), none, none, none]) zy_X7_storedSum.2.2.2.2.2 (Nat.le_of_ble_eq_true rfl) rfl ?_
  refine z_aload_0 dX7_storedSum_0 ?_
  refine z_aload_0 dX7_storedSum_1 ?_
  refine z_iload_1 dX7_storedSum_2 ?_
  refine Z.call0s (zRun.V (ρ := fun i => i) (k_m_isNode n k S h1 h40 k1 k2 hO) dX7_storedSum_3 zy_X7_isNode zm_X7_210 rfl rfl rfl rfl (Nat.le_of_ble_eq_true rfl) (by decide) (by decide)) (zlen2 14 rfl rfl) ?_
  refine z_topi (w := 1) (by rw [isNode_eq h40, decide_eq_true hp]; rfl) ?_
  refine Z.heap (h2 := mh (g_m_grows n S)) (by rw [isNode_2]) ?_
  refine z_if_ne_t (tgt := 13) dX7_storedSum_6 (by decide) (by decide) ?_
  refine z_iconst (v := 0) dX7_storedSum_13 rfl ?_
  refine Z.call0s (zRun.V (ρ := fun i => i) (k_m_throwsOne (false) (g_m_grows n S) ) dX7_storedSum_14 zy_X7_throwsOne zm_X7_284 rfl rfl rfl rfl (Nat.le_of_ble_eq_true rfl) (by decide) (by decide)) (zlen2 14 rfl rfl) ?_
  refine Z.heap (h2 := mh (sI 15 (0) (g_m_grows n S))) rfl ?_
  refine z_topi (w := 0) rfl ?_
  refine z_if_eq_t (tgt := 22) dX7_storedSum_17 (by decide) (by decide) ?_
  have hgn := gp_n n k
  refine z_lconst (v := 0) dX7_storedSum_22 rfl ?_
  refine z_lstore_2 dX7_storedSum_23 rfl (by decide) ?_
  refine z_aload_0 dX7_storedSum_24 ?_
  refine z_get (k := 16) (v := .ref 9) dX7_storedSum_25 rfl rfl rfl (by decide) zf_X7_39 zw_in7 ?_
  refine z_iload_1 dX7_storedSum_28 ?_
  refine z_ialdN (k := k) dX7_storedSum_29 rfl (by first | omega | assumption) (by decide) ?_
  refine z_topi (w := ((g_m_grows n S)).2 8 (k)) (by rw [sI_2]) ?_
  refine z_topi (w := nI ((gp n k).1)) ((mGr_of h1 h40 hO).lo (by first | omega | assumption)) ?_
  refine z_istore_4 dX7_storedSum_30 rfl (by decide) ?_
  rw [g_m_storedSum]
  exact l_g_m_storedSum_L n k ((gp n k).2 - (gp n k).1) 0 ((gp n k).1) (sI 15 (0) (g_m_grows n S)) (by first | omega | assumption) (by first | omega | assumption) (by first | omega | assumption) (by first | omega | assumption) (by first | omega | assumption) ((mGr_of h1 h40 hO).sI (by decide)) (by first | omega | assumption) (by first | omega | assumption)
noncomputable def g_m_storedOne_L (n : Nat) (k : Nat) (e : Int32) : Nat → Int32 → Nat → ZS → Int32 × ZS
  | 0, b, _, S => (b, S)
  | fu + 1, b, i, S => (if e * (g_m_seenFrom n k i S) ≤ e * b then g_m_storedOne_L n k e fu b (i + 1) S else g_m_storedOne_L n k e fu (g_m_seenFrom n k i S) (i + 1) S)
theorem l_g_m_storedOne_L (n : Nat) (k : Nat) (e : Int32) : ∀ (fu : Nat) (b : Int32) (i : Nat) (S : ZS) (j5 : Option Value), (1 ≤ n) → (n ≤ 40) → (1 ≤ k) → (k < 128) → ((gp n k).1 < (gp n k).2) → (mGr n S) → (i + fu = (gp n k).2) → ((gp n k).1 ≤ i) → Z sc yX7_storedOne cX7_storedOne 6 (some .int) 2 0 0 42 [some (.ref 0), some (.int (nI (k))), some (.int (e)), some (.int (b)), some (.int (nI (i))), j5] [] (mh S) (.inl (some (.int (g_m_storedOne_L n k e fu b i S).1))) (mh (g_m_storedOne_L n k e fu b i S).2) := by
  intro fu
  induction fu with
  | zero =>
    intro b i S j5 h1 h40 k1 k2 hp hG hi hi1
    have hgn := gp_n n k
    refine z_iload_4 dX7_storedOne_42 ?_
    refine z_aload_0 dX7_storedOne_44 ?_
    refine z_get (k := 17) (v := .ref 10) dX7_storedOne_45 rfl rfl rfl (by decide) zf_X7_42 zw_in7 ?_
    refine z_iload_1 dX7_storedOne_48 ?_
    refine z_ialdN (k := k) dX7_storedOne_49 rfl (by first | omega | assumption) (by decide) ?_
    refine z_topi (w := S.2 9 (k)) rfl ?_
    refine z_topi (w := nI ((gp n k).2 - 1)) (hG.hi1 (by first | omega | assumption) hp) ?_
    refine z_icmpN_gt_t (tgt := 85) dX7_storedOne_50 (by decide) (x := i) (z := (gp n k).2 - 1) (by first | omega | assumption) (by first | omega | assumption) (by omega) ?_
    refine z_iload_3 dX7_storedOne_85 ?_
    rw [g_m_storedOne_L]
    exact z_iret dX7_storedOne_86 rfl (zint _) rfl rfl
  | succ fu ih =>
    intro b i S j5 h1 h40 k1 k2 hp hG hi hi1
    have hgn := gp_n n k
    refine z_iload_4 dX7_storedOne_42 ?_
    refine z_aload_0 dX7_storedOne_44 ?_
    refine z_get (k := 17) (v := .ref 10) dX7_storedOne_45 rfl rfl rfl (by decide) zf_X7_42 zw_in7 ?_
    refine z_iload_1 dX7_storedOne_48 ?_
    refine z_ialdN (k := k) dX7_storedOne_49 rfl (by first | omega | assumption) (by decide) ?_
    refine z_topi (w := S.2 9 (k)) rfl ?_
    refine z_topi (w := nI ((gp n k).2 - 1)) (hG.hi1 (by first | omega | assumption) hp) ?_
    refine z_icmpN_gt_f (tgt := 85) dX7_storedOne_50 (by decide) (x := i) (z := (gp n k).2 - 1) (by first | omega | assumption) (by first | omega | assumption) (by omega) ?_
    refine z_aload_0 dX7_storedOne_53 ?_
    refine z_iload_1 dX7_storedOne_54 ?_
    refine z_iload_4 dX7_storedOne_55 ?_
    refine Z.call0s (zRun.V (ρ := fun i => i) (k_m_seenFrom n k i S k1 k2 h40 (by omega) hG (lf_anc h40 k2 (by omega) (by omega))) dX7_storedOne_57 zy_X7_seenFrom zm_X7_89 rfl rfl rfl rfl (Nat.le_of_ble_eq_true rfl) (by decide) (by decide)) (zlen2 14 rfl rfl) ?_
    refine z_istore_5 dX7_storedOne_60 rfl (by decide) ?_
    refine z_iload_2 dX7_storedOne_62 ?_
    refine z_iload_5 dX7_storedOne_63 ?_
    refine z_imul dX7_storedOne_65 ?_
    refine z_iload_2 dX7_storedOne_66 ?_
    refine z_iload_3 dX7_storedOne_67 ?_
    refine z_imul dX7_storedOne_68 ?_
    refine z_icmp_le (tgt := 77) dX7_storedOne_69 (by decide) (fun c69 => ?_) (fun c69 => ?_)
    · refine z_iload_3 dX7_storedOne_77 ?_
      refine z_istore_3 dX7_storedOne_78 rfl (by decide) ?_
      refine z_iinc_4 (v := nI (i + 1)) dX7_storedOne_79 (nI_add _ 1) rfl (by decide) ?_
      refine z_goto (tgt := 42) dX7_storedOne_82 (by decide) ?_
      have hgn := gp_n n k
      rw [g_m_storedOne_L, if_pos c69]
      exact ih b (i + 1) S _ (by first | omega | assumption) (by first | omega | assumption) (by first | omega | assumption) (by first | omega | assumption) (by first | omega | assumption) hG (by first | omega | assumption) (by first | omega | assumption)
    · refine z_iload_5 dX7_storedOne_72 ?_
      refine z_goto (tgt := 78) dX7_storedOne_74 (by decide) ?_
      refine z_istore_3 dX7_storedOne_78 rfl (by decide) ?_
      refine z_iinc_4 (v := nI (i + 1)) dX7_storedOne_79 (nI_add _ 1) rfl (by decide) ?_
      refine z_goto (tgt := 42) dX7_storedOne_82 (by decide) ?_
      have hgn := gp_n n k
      rw [g_m_storedOne_L, if_neg c69]
      exact ih (g_m_seenFrom n k i S) (i + 1) S _ (by first | omega | assumption) (by first | omega | assumption) (by first | omega | assumption) (by first | omega | assumption) (by first | omega | assumption) hG (by first | omega | assumption) (by first | omega | assumption)
noncomputable def g_m_storedOne (n : Nat) (k : Nat) (e : Int32) (S : ZS) : Int32 × ZS := g_m_storedOne_L n k e ((gp n k).2 - (gp n k).1) (g_m_seenFrom n k ((gp n k).1) (sI 15 (0) (g_m_grows n S))) ((gp n k).1) (sI 15 (0) (g_m_grows n S))
theorem k_m_storedOne (n : Nat) (k : Nat) (e : Int32) (S : ZS) (h1 : 1 ≤ n) (h40 : n ≤ 40) (k1 : 1 ≤ k) (k2 : k < 128) (hp : (gp n k).1 < (gp n k).2) (hO : mOK n S) : zM sc yX7_storedOne cX7_storedOne 6 (some .int) 2 0 0 [.ref 0, .int (nI (k)), .int (e)] (mh S) (.inl (some (.int (g_m_storedOne n k e S).1))) (mh (g_m_storedOne n k e S).2) := by
  refine zM.at (ls := [some (.ref 0), some (.int (nI (k))), some (.int (e)), none, none, none]) zy_X7_storedOne.2.2.2.2.2 (Nat.le_of_ble_eq_true rfl) rfl ?_
  refine z_aload_0 dX7_storedOne_0 ?_
  refine z_aload_0 dX7_storedOne_1 ?_
  refine z_iload_1 dX7_storedOne_2 ?_
  refine Z.call0s (zRun.V (ρ := fun i => i) (k_m_isNode n k S h1 h40 k1 k2 hO) dX7_storedOne_3 zy_X7_isNode zm_X7_210 rfl rfl rfl rfl (Nat.le_of_ble_eq_true rfl) (by decide) (by decide)) (zlen2 14 rfl rfl) ?_
  refine z_topi (w := 1) (by rw [isNode_eq h40, decide_eq_true hp]; rfl) ?_
  refine Z.heap (h2 := mh (g_m_grows n S)) (by rw [isNode_2]) ?_
  refine z_if_ne_t (tgt := 13) dX7_storedOne_6 (by decide) (by decide) ?_
  refine z_iconst (v := 0) dX7_storedOne_13 rfl ?_
  refine Z.call0s (zRun.V (ρ := fun i => i) (k_m_throwsOne (false) (g_m_grows n S) ) dX7_storedOne_14 zy_X7_throwsOne zm_X7_284 rfl rfl rfl rfl (Nat.le_of_ble_eq_true rfl) (by decide) (by decide)) (zlen2 14 rfl rfl) ?_
  refine Z.heap (h2 := mh (sI 15 (0) (g_m_grows n S))) rfl ?_
  refine z_topi (w := 0) rfl ?_
  refine z_if_eq_t (tgt := 22) dX7_storedOne_17 (by decide) (by decide) ?_
  have hgn := gp_n n k
  refine z_aload_0 dX7_storedOne_22 ?_
  refine z_iload_1 dX7_storedOne_23 ?_
  refine z_aload_0 dX7_storedOne_24 ?_
  refine z_get (k := 16) (v := .ref 9) dX7_storedOne_25 rfl rfl rfl (by decide) zf_X7_39 zw_in7 ?_
  refine z_iload_1 dX7_storedOne_28 ?_
  refine z_ialdN (k := k) dX7_storedOne_29 rfl (by first | omega | assumption) (by decide) ?_
  refine z_topi (w := ((g_m_grows n S)).2 8 (k)) (by rw [sI_2]) ?_
  refine z_topi (w := nI ((gp n k).1)) ((mGr_of h1 h40 hO).lo (by first | omega | assumption)) ?_
  refine Z.call0s (zRun.V (ρ := fun i => i) (k_m_seenFrom n k ((gp n k).1) (sI 15 (0) (g_m_grows n S)) k1 k2 h40 (by omega) ((mGr_of h1 h40 hO).sI (by decide)) (lf_anc h40 k2 (Nat.le_refl _) hp)) dX7_storedOne_30 zy_X7_seenFrom zm_X7_89 rfl rfl rfl rfl (Nat.le_of_ble_eq_true rfl) (by decide) (by decide)) (zlen2 14 rfl rfl) ?_
  refine z_istore_3 dX7_storedOne_33 rfl (by decide) ?_
  refine z_aload_0 dX7_storedOne_34 ?_
  refine z_get (k := 16) (v := .ref 9) dX7_storedOne_35 rfl rfl rfl (by decide) zf_X7_39 zw_in7 ?_
  refine z_iload_1 dX7_storedOne_38 ?_
  refine z_ialdN (k := k) dX7_storedOne_39 rfl (by first | omega | assumption) (by decide) ?_
  refine z_topi (w := ((g_m_grows n S)).2 8 (k)) (by rw [sI_2]) ?_
  refine z_topi (w := nI ((gp n k).1)) ((mGr_of h1 h40 hO).lo (by first | omega | assumption)) ?_
  refine z_istore_4 dX7_storedOne_40 rfl (by decide) ?_
  rw [g_m_storedOne]
  exact l_g_m_storedOne_L n k e ((gp n k).2 - (gp n k).1) (g_m_seenFrom n k ((gp n k).1) (sI 15 (0) (g_m_grows n S))) ((gp n k).1) (sI 15 (0) (g_m_grows n S)) _ (by first | omega | assumption) (by first | omega | assumption) (by first | omega | assumption) (by first | omega | assumption) (by first | omega | assumption) ((mGr_of h1 h40 hO).sI (by decide)) (by first | omega | assumption) (by first | omega | assumption)
noncomputable def g_m_storedSum_x1 (n : Nat) (_k : Nat) (S : ZS) : Int64 × ZS := (0, (sI 15 (1) (g_m_grows n S)))
theorem k_m_storedSum_x1 (n : Nat) (k : Nat) (S : ZS) (h1 : 1 ≤ n) (h40 : n ≤ 40) (k1 : 1 ≤ k) (k2 : k < 128) (hp : ¬ (gp n k).1 < (gp n k).2) (hO : mOK n S) : zM sc yX7_storedSum cX7_storedSum 5 (some .long) 2 0 0 [.ref 0, .int (nI (k))] (mh S) (.inl (some (.long (g_m_storedSum_x1 n k S).1))) (mh (g_m_storedSum_x1 n k S).2) := by
  refine zM.at (ls := [some (.ref 0), some (.int (nI (k))), none, none, none]) zy_X7_storedSum.2.2.2.2.2 (Nat.le_of_ble_eq_true rfl) rfl ?_
  refine z_aload_0 dX7_storedSum_0 ?_
  refine z_aload_0 dX7_storedSum_1 ?_
  refine z_iload_1 dX7_storedSum_2 ?_
  refine Z.call0s (zRun.V (ρ := fun i => i) (k_m_isNode n k S h1 h40 k1 k2 hO) dX7_storedSum_3 zy_X7_isNode zm_X7_210 rfl rfl rfl rfl (Nat.le_of_ble_eq_true rfl) (by decide) (by decide)) (zlen2 14 rfl rfl) ?_
  refine z_topi (w := 0) (by rw [isNode_eq h40, decide_eq_false hp]; rfl) ?_
  refine Z.heap (h2 := mh (g_m_grows n S)) (by rw [isNode_2]) ?_
  refine z_if_ne_f (tgt := 13) dX7_storedSum_6 (by decide) (by decide) ?_
  refine z_iconst (v := 1) dX7_storedSum_9 rfl ?_
  refine z_goto (tgt := 14) dX7_storedSum_10 (by decide) ?_
  refine Z.call0s (zRun.V (ρ := fun i => i) (k_m_throwsOne (true) (g_m_grows n S) ) dX7_storedSum_14 zy_X7_throwsOne zm_X7_284 rfl rfl rfl rfl (Nat.le_of_ble_eq_true rfl) (by decide) (by decide)) (zlen2 14 rfl rfl) ?_
  refine Z.heap (h2 := mh (sI 15 (1) (g_m_grows n S))) rfl ?_
  refine z_topi (w := 1) rfl ?_
  refine z_if_eq_f (tgt := 22) dX7_storedSum_17 (by decide) (by decide) ?_
  refine z_lconst (v := 0) dX7_storedSum_20 rfl ?_
  rw [g_m_storedSum_x1]
  exact z_lret dX7_storedSum_21 rfl rfl rfl
noncomputable def g_m_storedSum_x2 (n : Nat) (_x : Int32) (S : ZS) : Int64 × ZS := (0, (sI 15 (1) (g_m_grows n S)))
theorem k_m_storedSum_x2 (n : Nat) (x : Int32) (S : ZS) (h1 : 1 ≤ n) (h40 : n ≤ 40) (hx : ¬ (1 ≤ x ∧ x ≤ 127)) (hO : mOK n S) : zM sc yX7_storedSum cX7_storedSum 5 (some .long) 2 0 0 [.ref 0, .int (x)] (mh S) (.inl (some (.long (g_m_storedSum_x2 n x S).1))) (mh (g_m_storedSum_x2 n x S).2) := by
  refine zM.at (ls := [some (.ref 0), some (.int (x)), none, none, none]) zy_X7_storedSum.2.2.2.2.2 (Nat.le_of_ble_eq_true rfl) rfl ?_
  refine z_aload_0 dX7_storedSum_0 ?_
  refine z_aload_0 dX7_storedSum_1 ?_
  refine z_iload_1 dX7_storedSum_2 ?_
  refine Z.call0s (zRun.V (ρ := fun i => i) (k_m_isNodeX n (x) S h1 h40 hx hO) dX7_storedSum_3 zy_X7_isNode zm_X7_210 rfl rfl rfl rfl (Nat.le_of_ble_eq_true rfl) (by decide) (by decide)) (zlen2 14 rfl rfl) ?_
  refine z_topi (w := 0) rfl ?_
  refine Z.heap (h2 := mh (g_m_grows n S)) (by rw [(show (g_m_isNodeX n x S).2 = g_m_grows n S from rfl)]) ?_
  refine z_if_ne_f (tgt := 13) dX7_storedSum_6 (by decide) (by decide) ?_
  refine z_iconst (v := 1) dX7_storedSum_9 rfl ?_
  refine z_goto (tgt := 14) dX7_storedSum_10 (by decide) ?_
  refine Z.call0s (zRun.V (ρ := fun i => i) (k_m_throwsOne (true) (g_m_grows n S) ) dX7_storedSum_14 zy_X7_throwsOne zm_X7_284 rfl rfl rfl rfl (Nat.le_of_ble_eq_true rfl) (by decide) (by decide)) (zlen2 14 rfl rfl) ?_
  refine Z.heap (h2 := mh (sI 15 (1) (g_m_grows n S))) rfl ?_
  refine z_topi (w := 1) rfl ?_
  refine z_if_eq_f (tgt := 22) dX7_storedSum_17 (by decide) (by decide) ?_
  refine z_lconst (v := 0) dX7_storedSum_20 rfl ?_
  rw [g_m_storedSum_x2]
  exact z_lret dX7_storedSum_21 rfl rfl rfl
noncomputable def g_m_storedOne_x1 (n : Nat) (_k : Nat) (_e : Int32) (S : ZS) : Int32 × ZS := (0, (sI 15 (1) (g_m_grows n S)))
theorem k_m_storedOne_x1 (n : Nat) (k : Nat) (e : Int32) (S : ZS) (h1 : 1 ≤ n) (h40 : n ≤ 40) (k1 : 1 ≤ k) (k2 : k < 128) (hp : ¬ (gp n k).1 < (gp n k).2) (hO : mOK n S) : zM sc yX7_storedOne cX7_storedOne 6 (some .int) 2 0 0 [.ref 0, .int (nI (k)), .int (e)] (mh S) (.inl (some (.int (g_m_storedOne_x1 n k e S).1))) (mh (g_m_storedOne_x1 n k e S).2) := by
  refine zM.at (ls := [some (.ref 0), some (.int (nI (k))), some (.int (e)), none, none, none]) zy_X7_storedOne.2.2.2.2.2 (Nat.le_of_ble_eq_true rfl) rfl ?_
  refine z_aload_0 dX7_storedOne_0 ?_
  refine z_aload_0 dX7_storedOne_1 ?_
  refine z_iload_1 dX7_storedOne_2 ?_
  refine Z.call0s (zRun.V (ρ := fun i => i) (k_m_isNode n k S h1 h40 k1 k2 hO) dX7_storedOne_3 zy_X7_isNode zm_X7_210 rfl rfl rfl rfl (Nat.le_of_ble_eq_true rfl) (by decide) (by decide)) (zlen2 14 rfl rfl) ?_
  refine z_topi (w := 0) (by rw [isNode_eq h40, decide_eq_false hp]; rfl) ?_
  refine Z.heap (h2 := mh (g_m_grows n S)) (by rw [isNode_2]) ?_
  refine z_if_ne_f (tgt := 13) dX7_storedOne_6 (by decide) (by decide) ?_
  refine z_iconst (v := 1) dX7_storedOne_9 rfl ?_
  refine z_goto (tgt := 14) dX7_storedOne_10 (by decide) ?_
  refine Z.call0s (zRun.V (ρ := fun i => i) (k_m_throwsOne (true) (g_m_grows n S) ) dX7_storedOne_14 zy_X7_throwsOne zm_X7_284 rfl rfl rfl rfl (Nat.le_of_ble_eq_true rfl) (by decide) (by decide)) (zlen2 14 rfl rfl) ?_
  refine Z.heap (h2 := mh (sI 15 (1) (g_m_grows n S))) rfl ?_
  refine z_topi (w := 1) rfl ?_
  refine z_if_eq_f (tgt := 22) dX7_storedOne_17 (by decide) (by decide) ?_
  refine z_iconst (v := 0) dX7_storedOne_20 rfl ?_
  rw [g_m_storedOne_x1]
  exact z_iret dX7_storedOne_21 rfl (zint _) rfl rfl
noncomputable def g_m_storedOne_x2 (n : Nat) (_x : Int32) (_e : Int32) (S : ZS) : Int32 × ZS := (0, (sI 15 (1) (g_m_grows n S)))
theorem k_m_storedOne_x2 (n : Nat) (x : Int32) (e : Int32) (S : ZS) (h1 : 1 ≤ n) (h40 : n ≤ 40) (hx : ¬ (1 ≤ x ∧ x ≤ 127)) (hO : mOK n S) : zM sc yX7_storedOne cX7_storedOne 6 (some .int) 2 0 0 [.ref 0, .int (x), .int (e)] (mh S) (.inl (some (.int (g_m_storedOne_x2 n x e S).1))) (mh (g_m_storedOne_x2 n x e S).2) := by
  refine zM.at (ls := [some (.ref 0), some (.int (x)), some (.int (e)), none, none, none]) zy_X7_storedOne.2.2.2.2.2 (Nat.le_of_ble_eq_true rfl) rfl ?_
  refine z_aload_0 dX7_storedOne_0 ?_
  refine z_aload_0 dX7_storedOne_1 ?_
  refine z_iload_1 dX7_storedOne_2 ?_
  refine Z.call0s (zRun.V (ρ := fun i => i) (k_m_isNodeX n (x) S h1 h40 hx hO) dX7_storedOne_3 zy_X7_isNode zm_X7_210 rfl rfl rfl rfl (Nat.le_of_ble_eq_true rfl) (by decide) (by decide)) (zlen2 14 rfl rfl) ?_
  refine z_topi (w := 0) rfl ?_
  refine Z.heap (h2 := mh (g_m_grows n S)) (by rw [(show (g_m_isNodeX n x S).2 = g_m_grows n S from rfl)]) ?_
  refine z_if_ne_f (tgt := 13) dX7_storedOne_6 (by decide) (by decide) ?_
  refine z_iconst (v := 1) dX7_storedOne_9 rfl ?_
  refine z_goto (tgt := 14) dX7_storedOne_10 (by decide) ?_
  refine Z.call0s (zRun.V (ρ := fun i => i) (k_m_throwsOne (true) (g_m_grows n S) ) dX7_storedOne_14 zy_X7_throwsOne zm_X7_284 rfl rfl rfl rfl (Nat.le_of_ble_eq_true rfl) (by decide) (by decide)) (zlen2 14 rfl rfl) ?_
  refine Z.heap (h2 := mh (sI 15 (1) (g_m_grows n S))) rfl ?_
  refine z_topi (w := 1) rfl ?_
  refine z_if_eq_f (tgt := 22) dX7_storedOne_17 (by decide) (by decide) ?_
  refine z_iconst (v := 0) dX7_storedOne_20 rfl ?_
  rw [g_m_storedOne_x2]
  exact z_iret dX7_storedOne_21 rfl (zint _) rfl rfl
noncomputable def g_m_storedLeast (n : Nat) (k : Nat) (S : ZS) : Int32 × ZS := ((g_m_storedOne n k ((-1)) S).1, (g_m_storedOne n k ((-1)) S).2)
theorem k_m_storedLeast (n : Nat) (k : Nat) (S : ZS) (h1 : 1 ≤ n) (h40 : n ≤ 40) (k1 : 1 ≤ k) (k2 : k < 128) (hp : (gp n k).1 < (gp n k).2) (hO : mOK n S) : zM sc yX7_storedLeast cX7_storedLeast 2 (some .int) 3 0 0 [.ref 0, .int (nI (k))] (mh S) (.inl (some (.int (g_m_storedLeast n k S).1))) (mh (g_m_storedLeast n k S).2) := by
  refine zM.at (ls := [some (.ref 0), some (.int (nI (k)))]) zy_X7_storedLeast.2.2.2.2.2 (Nat.le_of_ble_eq_true rfl) rfl ?_
  refine z_aload_0 dX7_storedLeast_0 ?_
  refine z_iload_1 dX7_storedLeast_1 ?_
  refine z_iconst (v := (-1)) dX7_storedLeast_2 rfl ?_
  refine Z.call0s (zRun.V (ρ := fun i => i) (k_m_storedOne n k ((-1)) S h1 h40 k1 k2 hp hO) dX7_storedLeast_3 zy_X7_storedOne zm_X7_328 rfl rfl rfl rfl (Nat.le_of_ble_eq_true rfl) (by decide) (by decide)) (zlen2 14 rfl rfl) ?_
  rw [g_m_storedLeast]
  exact z_iret dX7_storedLeast_6 rfl (zint _) rfl rfl
noncomputable def g_m_storedLeast_x1 (n : Nat) (k : Nat) (S : ZS) : Int32 × ZS := ((g_m_storedOne_x1 n k ((-1)) S).1, (g_m_storedOne_x1 n k ((-1)) S).2)
theorem k_m_storedLeast_x1 (n : Nat) (k : Nat) (S : ZS) (h1 : 1 ≤ n) (h40 : n ≤ 40) (k1 : 1 ≤ k) (k2 : k < 128) (hp : ¬ (gp n k).1 < (gp n k).2) (hO : mOK n S) : zM sc yX7_storedLeast cX7_storedLeast 2 (some .int) 3 0 0 [.ref 0, .int (nI (k))] (mh S) (.inl (some (.int (g_m_storedLeast_x1 n k S).1))) (mh (g_m_storedLeast_x1 n k S).2) := by
  refine zM.at (ls := [some (.ref 0), some (.int (nI (k)))]) zy_X7_storedLeast.2.2.2.2.2 (Nat.le_of_ble_eq_true rfl) rfl ?_
  refine z_aload_0 dX7_storedLeast_0 ?_
  refine z_iload_1 dX7_storedLeast_1 ?_
  refine z_iconst (v := (-1)) dX7_storedLeast_2 rfl ?_
  refine Z.call0s (zRun.V (ρ := fun i => i) (k_m_storedOne_x1 n k ((-1)) S h1 h40 k1 k2 hp hO) dX7_storedLeast_3 zy_X7_storedOne zm_X7_328 rfl rfl rfl rfl (Nat.le_of_ble_eq_true rfl) (by decide) (by decide)) (zlen2 14 rfl rfl) ?_
  rw [g_m_storedLeast_x1]
  exact z_iret dX7_storedLeast_6 rfl (zint _) rfl rfl
noncomputable def g_m_storedLeast_x2 (n : Nat) (x : Int32) (S : ZS) : Int32 × ZS := ((g_m_storedOne_x2 n (x) ((-1)) S).1, (g_m_storedOne_x2 n (x) ((-1)) S).2)
theorem k_m_storedLeast_x2 (n : Nat) (x : Int32) (S : ZS) (h1 : 1 ≤ n) (h40 : n ≤ 40) (hx : ¬ (1 ≤ x ∧ x ≤ 127)) (hO : mOK n S) : zM sc yX7_storedLeast cX7_storedLeast 2 (some .int) 3 0 0 [.ref 0, .int (x)] (mh S) (.inl (some (.int (g_m_storedLeast_x2 n x S).1))) (mh (g_m_storedLeast_x2 n x S).2) := by
  refine zM.at (ls := [some (.ref 0), some (.int (x))]) zy_X7_storedLeast.2.2.2.2.2 (Nat.le_of_ble_eq_true rfl) rfl ?_
  refine z_aload_0 dX7_storedLeast_0 ?_
  refine z_iload_1 dX7_storedLeast_1 ?_
  refine z_iconst (v := (-1)) dX7_storedLeast_2 rfl ?_
  refine Z.call0s (zRun.V (ρ := fun i => i) (k_m_storedOne_x2 n (x) ((-1)) S h1 h40 hx hO) dX7_storedLeast_3 zy_X7_storedOne zm_X7_328 rfl rfl rfl rfl (Nat.le_of_ble_eq_true rfl) (by decide) (by decide)) (zlen2 14 rfl rfl) ?_
  rw [g_m_storedLeast_x2]
  exact z_iret dX7_storedLeast_6 rfl (zint _) rfl rfl
noncomputable def g_m_storedGreatest (n : Nat) (k : Nat) (S : ZS) : Int32 × ZS := ((g_m_storedOne n k (1) S).1, (g_m_storedOne n k (1) S).2)
theorem k_m_storedGreatest (n : Nat) (k : Nat) (S : ZS) (h1 : 1 ≤ n) (h40 : n ≤ 40) (k1 : 1 ≤ k) (k2 : k < 128) (hp : (gp n k).1 < (gp n k).2) (hO : mOK n S) : zM sc yX7_storedGreatest cX7_storedGreatest 2 (some .int) 3 0 0 [.ref 0, .int (nI (k))] (mh S) (.inl (some (.int (g_m_storedGreatest n k S).1))) (mh (g_m_storedGreatest n k S).2) := by
  refine zM.at (ls := [some (.ref 0), some (.int (nI (k)))]) zy_X7_storedGreatest.2.2.2.2.2 (Nat.le_of_ble_eq_true rfl) rfl ?_
  refine z_aload_0 dX7_storedGreatest_0 ?_
  refine z_iload_1 dX7_storedGreatest_1 ?_
  refine z_iconst (v := 1) dX7_storedGreatest_2 rfl ?_
  refine Z.call0s (zRun.V (ρ := fun i => i) (k_m_storedOne n k (1) S h1 h40 k1 k2 hp hO) dX7_storedGreatest_3 zy_X7_storedOne zm_X7_328 rfl rfl rfl rfl (Nat.le_of_ble_eq_true rfl) (by decide) (by decide)) (zlen2 14 rfl rfl) ?_
  rw [g_m_storedGreatest]
  exact z_iret dX7_storedGreatest_6 rfl (zint _) rfl rfl
noncomputable def g_m_storedGreatest_x1 (n : Nat) (k : Nat) (S : ZS) : Int32 × ZS := ((g_m_storedOne_x1 n k (1) S).1, (g_m_storedOne_x1 n k (1) S).2)
theorem k_m_storedGreatest_x1 (n : Nat) (k : Nat) (S : ZS) (h1 : 1 ≤ n) (h40 : n ≤ 40) (k1 : 1 ≤ k) (k2 : k < 128) (hp : ¬ (gp n k).1 < (gp n k).2) (hO : mOK n S) : zM sc yX7_storedGreatest cX7_storedGreatest 2 (some .int) 3 0 0 [.ref 0, .int (nI (k))] (mh S) (.inl (some (.int (g_m_storedGreatest_x1 n k S).1))) (mh (g_m_storedGreatest_x1 n k S).2) := by
  refine zM.at (ls := [some (.ref 0), some (.int (nI (k)))]) zy_X7_storedGreatest.2.2.2.2.2 (Nat.le_of_ble_eq_true rfl) rfl ?_
  refine z_aload_0 dX7_storedGreatest_0 ?_
  refine z_iload_1 dX7_storedGreatest_1 ?_
  refine z_iconst (v := 1) dX7_storedGreatest_2 rfl ?_
  refine Z.call0s (zRun.V (ρ := fun i => i) (k_m_storedOne_x1 n k (1) S h1 h40 k1 k2 hp hO) dX7_storedGreatest_3 zy_X7_storedOne zm_X7_328 rfl rfl rfl rfl (Nat.le_of_ble_eq_true rfl) (by decide) (by decide)) (zlen2 14 rfl rfl) ?_
  rw [g_m_storedGreatest_x1]
  exact z_iret dX7_storedGreatest_6 rfl (zint _) rfl rfl
noncomputable def g_m_storedGreatest_x2 (n : Nat) (x : Int32) (S : ZS) : Int32 × ZS := ((g_m_storedOne_x2 n (x) (1) S).1, (g_m_storedOne_x2 n (x) (1) S).2)
theorem k_m_storedGreatest_x2 (n : Nat) (x : Int32) (S : ZS) (h1 : 1 ≤ n) (h40 : n ≤ 40) (hx : ¬ (1 ≤ x ∧ x ≤ 127)) (hO : mOK n S) : zM sc yX7_storedGreatest cX7_storedGreatest 2 (some .int) 3 0 0 [.ref 0, .int (x)] (mh S) (.inl (some (.int (g_m_storedGreatest_x2 n x S).1))) (mh (g_m_storedGreatest_x2 n x S).2) := by
  refine zM.at (ls := [some (.ref 0), some (.int (x))]) zy_X7_storedGreatest.2.2.2.2.2 (Nat.le_of_ble_eq_true rfl) rfl ?_
  refine z_aload_0 dX7_storedGreatest_0 ?_
  refine z_iload_1 dX7_storedGreatest_1 ?_
  refine z_iconst (v := 1) dX7_storedGreatest_2 rfl ?_
  refine Z.call0s (zRun.V (ρ := fun i => i) (k_m_storedOne_x2 n (x) (1) S h1 h40 hx hO) dX7_storedGreatest_3 zy_X7_storedOne zm_X7_328 rfl rfl rfl rfl (Nat.le_of_ble_eq_true rfl) (by decide) (by decide)) (zlen2 14 rfl rfl) ?_
  rw [g_m_storedGreatest_x2]
  exact z_iret dX7_storedGreatest_6 rfl (zint _) rfl rfl
