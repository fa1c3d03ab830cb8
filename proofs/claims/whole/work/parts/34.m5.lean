variable {sc : SC}

theorem zAnc_1 {m : Nat} (h1 : 1 ≤ m) (h2 : m < 128) : zAnc 6 m 1 := by
  rcases (by omega : m < 2 ∨ (2 ≤ m ∧ m < 4) ∨ (4 ≤ m ∧ m < 8) ∨ (8 ≤ m ∧ m < 16) ∨ (16 ≤ m ∧ m < 32) ∨ (32 ≤ m ∧ m < 64) ∨ (64 ≤ m)) with h | h | h | h | h | h | h
  · exact ⟨0, by decide, by omega⟩
  · exact ⟨1, by decide, by omega⟩
  · exact ⟨2, by decide, by omega⟩
  · exact ⟨3, by decide, by omega⟩
  · exact ⟨4, by decide, by omega⟩
  · exact ⟨5, by decide, by omega⟩
  · exact ⟨6, by decide, by omega⟩
theorem zAnc_lf {n i : Nat} (hn : n ≤ 40) (hi : i < n) : zAnc 6 (lf n i) 1 := zAnc_1 (lf_gp hn hi).2.1 (lf_gp hn hi).2.2
theorem mGr.sA {n j i : Nat} {v : Int32} {S : ZS} (h : mGr n S) (h8 : ¬ j = 8) (h9 : ¬ j = 9) (h10 : ¬ j = 10) (h0 : j = 0 → ¬ i = 0) : mGr n (sA j i v S) := by
  refine ⟨?_, h.2.1, fun k hk => ?_, fun k hk => ?_⟩
  · by_cases e : j = 0
    · subst e
      rw [sA_o (fun z => h0 rfl z.symm)]; exact h.1
    · rw [sA_x (fun z => e z.symm)]; exact h.1
  · rw [sA_x (fun z => h8 z.symm), sA_x (fun z => h9 z.symm)]; exact h.2.2.1 k hk
  · rw [sA_x (fun z => h10 z.symm)]; exact h.2.2.2 k hk
theorem mGr.sI {n k : Nat} {v : Int32} {S : ZS} (h : mGr n S) (h9 : ¬ k = 19) : mGr n (sI k v S) := by
  refine ⟨h.1, ?_, h.2.2⟩
  show upd S.1 k v 19 = nI n
  rw [upd, if_neg (fun z => h9 z.symm)]; exact h.2.1
noncomputable def g_m_value (n : Nat) (i : Nat) (S : ZS) : Int32 × ZS := ((g_m_seenFrom n 1 i (g_m_grows n S)), (g_m_grows n S))
theorem k_m_value (n : Nat) (i : Nat) (S : ZS) (h1 : 1 ≤ n) (h40 : n ≤ 40) (hi : i < n) (hO : mOK n S) : zM sc yX7_value cX7_value 2 (some .int) 1 0 0 [.ref 0, .int (nI (i))] (mh S) (.inl (some (.int (g_m_value n i S).1))) (mh (g_m_value n i S).2) := by
  refine zM.at (ls := [some (.ref 0), some (.int (nI (i)))]) zy_X7_value.2.2.2.2.2 (Nat.le_of_ble_eq_true rfl) rfl ?_
  refine z_aload_0 dX7_value_0 ?_
  refine Z.call0n (zRun.V (ρ := fun i => i) (k_m_grows n S h1 h40 hO.1) dX7_value_1 zy_X7_grows zm_X7_86 rfl rfl rfl rfl (Nat.le_of_ble_eq_true rfl) (by decide) (by decide)) (zlen2 14 rfl rfl) ?_
  refine z_aload_0 dX7_value_4 ?_
  refine z_iconst (v := 1) dX7_value_5 rfl ?_
  refine z_iload_1 dX7_value_6 ?_
  refine Z.call0s (zRun.V (ρ := fun i => i) (k_m_seenFrom n 1 i (g_m_grows n S) (by decide) (by decide) h40 hi (mGr_of h1 h40 hO) (zAnc_lf h40 hi)) dX7_value_7 zy_X7_seenFrom zm_X7_89 rfl rfl rfl rfl (Nat.le_of_ble_eq_true rfl) (by decide) (by decide)) (zlen2 14 rfl rfl) ?_
  rw [g_m_value]
  exact z_iret dX7_value_10 rfl rfl rfl rfl
noncomputable def g_m_valueG (n : Nat) (i : Nat) (S : ZS) : Int32 := (g_m_seenFrom n 1 i S)
theorem k_m_valueG (n : Nat) (i : Nat) (S : ZS) (h1 : 1 ≤ n) (h40 : n ≤ 40) (hi : i < n) (hG : mGr n S) : zM sc yX7_value cX7_value 2 (some .int) 1 0 0 [.ref 0, .int (nI (i))] (mh S) (.inl (some (.int (g_m_valueG n i S)))) (mh S) := by
  refine zM.at (ls := [some (.ref 0), some (.int (nI (i)))]) zy_X7_value.2.2.2.2.2 (Nat.le_of_ble_eq_true rfl) rfl ?_
  refine z_aload_0 dX7_value_0 ?_
  refine Z.call0n (zRun.V (ρ := fun i => i) (k_m_grows n S h1 h40 hG.1) dX7_value_1 zy_X7_grows zm_X7_86 rfl rfl rfl rfl (Nat.le_of_ble_eq_true rfl) (by decide) (by decide)) (zlen2 14 rfl rfl) ?_
  refine Z.heap (h2 := mh S) (by rw [hG.grows]) ?_
  refine z_aload_0 dX7_value_4 ?_
  refine z_iconst (v := 1) dX7_value_5 rfl ?_
  refine z_iload_1 dX7_value_6 ?_
  refine Z.call0s (zRun.V (ρ := fun i => i) (k_m_seenFrom n 1 i S (by decide) (by decide) h40 hi hG (zAnc_lf h40 hi)) dX7_value_7 zy_X7_seenFrom zm_X7_89 rfl rfl rfl rfl (Nat.le_of_ble_eq_true rfl) (by decide) (by decide)) (zlen2 14 rfl rfl) ?_
  rw [g_m_valueG]
  exact z_iret dX7_value_10 rfl rfl rfl rfl
noncomputable def g_m_clearMarks_L  : Nat → Nat → ZS → ZS
  | 0, _, S => S
  | fu + 1, k, S => g_m_clearMarks_L fu (k + 1) (sA 0 (172 + k) (0) (sA 0 (44 + k) (1) S))
theorem l_g_m_clearMarks_L  : ∀ (fu : Nat) (k : Nat) (S : ZS) , (k + fu = 128) → Z sc yX7_clearMarks cX7_clearMarks 2 none 0 0 0 2 [some (.ref 0), some (.int (nI (k)))] [] (mh S) (.inl none) (mh (g_m_clearMarks_L fu k S)) := by
  intro fu
  induction fu with
  | zero =>
    intro k S hk
    refine z_iload_1 dX7_clearMarks_2 ?_
    refine z_sipush (v := 128) dX7_clearMarks_3 rfl ?_
    refine z_icmpN_ge_t (tgt := 36) dX7_clearMarks_6 (by decide) (x := k) (z := 128) (by first | omega | assumption) (by first | omega | assumption) (by omega) ?_
    rw [g_m_clearMarks_L]
    exact z_vret dX7_clearMarks_36 rfl rfl rfl
  | succ fu ih =>
    intro k S hk
    refine z_iload_1 dX7_clearMarks_2 ?_
    refine z_sipush (v := 128) dX7_clearMarks_3 rfl ?_
    refine z_icmpN_ge_f (tgt := 36) dX7_clearMarks_6 (by decide) (x := k) (z := 128) (by first | omega | assumption) (by first | omega | assumption) (by omega) ?_
    refine z_aload_0 dX7_clearMarks_9 ?_
    refine z_get (k := 0) (v := .ref 1) dX7_clearMarks_10 rfl rfl rfl (by decide) zf_X7_7 zw_in7 ?_
    refine z_bipush (v := 44) dX7_clearMarks_13 rfl ?_
    refine z_iload_1 dX7_clearMarks_15 ?_
    refine z_iadd dX7_clearMarks_16 ?_
    refine z_topi (w := nI (44 + k)) (nI_add _ _) ?_
    refine z_iconst (v := 1) dX7_clearMarks_17 rfl ?_
    refine z_iastN (k := (44 + k)) dX7_clearMarks_18 rfl (by first | omega | assumption) (by decide) ?_
    refine Z.heap (h2 := mh (sA 0 (44 + k) (1) S)) rfl ?_
    refine z_aload_0 dX7_clearMarks_19 ?_
    refine z_get (k := 0) (v := .ref 1) dX7_clearMarks_20 rfl rfl rfl (by decide) zf_X7_7 zw_in7 ?_
    refine z_sipush (v := 172) dX7_clearMarks_23 rfl ?_
    refine z_iload_1 dX7_clearMarks_26 ?_
    refine z_iadd dX7_clearMarks_27 ?_
    refine z_topi (w := nI (172 + k)) (nI_add _ _) ?_
    refine z_iconst (v := 0) dX7_clearMarks_28 rfl ?_
    refine z_iastN (k := (172 + k)) dX7_clearMarks_29 rfl (by first | omega | assumption) (by decide) ?_
    refine Z.heap (h2 := mh (sA 0 (172 + k) (0) (sA 0 (44 + k) (1) S))) rfl ?_
    refine z_iinc_1 (v := nI (k + 1)) dX7_clearMarks_30 (nI_add _ 1) rfl (by decide) ?_
    refine z_goto (tgt := 2) dX7_clearMarks_33 (by decide) ?_
    rw [g_m_clearMarks_L]
    exact ih (k + 1) (sA 0 (172 + k) (0) (sA 0 (44 + k) (1) S)) (by first | omega | assumption)
noncomputable def g_m_clearMarks (S : ZS) : ZS := g_m_clearMarks_L (zopq 128) 0 S
theorem k_m_clearMarks (S : ZS)  : zM sc yX7_clearMarks cX7_clearMarks 2 none 0 0 0 [.ref 0] (mh S) (.inl none) (mh (g_m_clearMarks S)) := by
  refine zM.at (ls := [some (.ref 0), none]) zy_X7_clearMarks.2.2.2.2.2 (Nat.le_of_ble_eq_true rfl) rfl ?_
  have hz := zopq_eq 128
  refine z_iconst (v := 0) dX7_clearMarks_0 rfl ?_
  refine z_istore_1 dX7_clearMarks_1 rfl (by decide) ?_
  rw [g_m_clearMarks]
  exact l_g_m_clearMarks_L (zopq 128) 0 S (by first | omega | assumption)
noncomputable def g_m_applies (n : Nat) (k : Nat) (f : Int32) (o : Int32) (S : ZS) : ZS := (if ((g_m_ends n k S)) = true then (sA 0 (4 + ((gp n k).1)) ((f * (S.2 0 (4 + ((gp n k).1)))) + o) S) else (sA 0 (172 + k) ((f * (S.2 0 (172 + k))) + o) (sA 0 (44 + k) (f * (S.2 0 (44 + k))) S)))
theorem k_m_applies (n : Nat) (k : Nat) (f : Int32) (o : Int32) (S : ZS) (k1 : 1 ≤ k) (k2 : k < 128) (h40 : n ≤ 40) (hG : mGr n S) : zM sc yX7_applies cX7_applies 5 none 1 0 0 [.ref 0, .int (nI (k)), .int (f), .int (o)] (mh S) (.inl none) (mh (g_m_applies n k f o S)) := by
  refine zM.at (ls := [some (.ref 0), some (.int (nI (k))), some (.int (f)), some (.int (o)), none]) zy_X7_applies.2.2.2.2.2 (Nat.le_of_ble_eq_true rfl) rfl ?_
  have ha40 := gp_40 n k h40
  refine z_aload_0 dX7_applies_0 ?_
  refine z_iload_1 dX7_applies_1 ?_
  refine Z.call0s (zRun.V (ρ := fun i => i) (k_m_ends n k S (by first | omega | assumption) (by first | omega | assumption) (by first | omega | assumption)) dX7_applies_2 zy_X7_ends zm_X7_93 rfl rfl rfl rfl (Nat.le_of_ble_eq_true rfl) (by decide) (by decide)) (zlen2 14 rfl rfl) ?_
  refine z_ifB_eq (tgt := 37) dX7_applies_5 (by decide) (fun c5 => ?_) (fun c5 => ?_)
  · refine z_aload_0 dX7_applies_37 ?_
    refine z_get (k := 0) (v := .ref 1) dX7_applies_38 rfl rfl rfl (by decide) zf_X7_7 zw_in7 ?_
    refine z_bipush (v := 44) dX7_applies_41 rfl ?_
    refine z_iload_1 dX7_applies_43 ?_
    refine z_iadd dX7_applies_44 ?_
    refine z_topi (w := nI (44 + k)) (nI_add _ _) ?_
    refine z_iload_2 dX7_applies_45 ?_
    refine z_aload_0 dX7_applies_46 ?_
    refine z_get (k := 0) (v := .ref 1) dX7_applies_47 rfl rfl rfl (by decide) zf_X7_7 zw_in7 ?_
    refine z_bipush (v := 44) dX7_applies_50 rfl ?_
    refine z_iload_1 dX7_applies_52 ?_
    refine z_iadd dX7_applies_53 ?_
    refine z_topi (w := nI (44 + k)) (nI_add _ _) ?_
    refine z_ialdN (k := (44 + k)) dX7_applies_54 rfl (by first | omega | assumption) (by decide) ?_
    refine z_topi (w := S.2 0 (44 + k)) rfl ?_
    refine z_imul dX7_applies_55 ?_
    refine z_iastN (k := (44 + k)) dX7_applies_56 rfl (by first | omega | assumption) (by decide) ?_
    refine Z.heap (h2 := mh (sA 0 (44 + k) (f * (S.2 0 (44 + k))) S)) rfl ?_
    refine z_aload_0 dX7_applies_57 ?_
    refine z_get (k := 0) (v := .ref 1) dX7_applies_58 rfl rfl rfl (by decide) zf_X7_7 zw_in7 ?_
    refine z_sipush (v := 172) dX7_applies_61 rfl ?_
    refine z_iload_1 dX7_applies_64 ?_
    refine z_iadd dX7_applies_65 ?_
    refine z_topi (w := nI (172 + k)) (nI_add _ _) ?_
    refine z_iload_2 dX7_applies_66 ?_
    refine z_aload_0 dX7_applies_67 ?_
    refine z_get (k := 0) (v := .ref 1) dX7_applies_68 rfl rfl rfl (by decide) zf_X7_7 zw_in7 ?_
    refine z_sipush (v := 172) dX7_applies_71 rfl ?_
    refine z_iload_1 dX7_applies_74 ?_
    refine z_iadd dX7_applies_75 ?_
    refine z_topi (w := nI (172 + k)) (nI_add _ _) ?_
    refine z_ialdN (k := (172 + k)) dX7_applies_76 rfl (by first | omega | assumption) (by decide) ?_
    refine z_topi (w := S.2 0 (172 + k)) (by rw [sA_o (by omega)]) ?_
    refine z_imul dX7_applies_77 ?_
    refine z_iload_3 dX7_applies_78 ?_
    refine z_iadd dX7_applies_79 ?_
    refine z_iastN (k := (172 + k)) dX7_applies_80 rfl (by first | omega | assumption) (by decide) ?_
    refine Z.heap (h2 := mh (sA 0 (172 + k) ((f * (S.2 0 (172 + k))) + o) (sA 0 (44 + k) (f * (S.2 0 (44 + k))) S))) rfl ?_
    rw [g_m_applies, if_neg c5]
    exact z_vret dX7_applies_81 rfl rfl rfl
  · refine z_iconst (v := 4) dX7_applies_8 rfl ?_
    refine z_aload_0 dX7_applies_9 ?_
    refine z_get (k := 16) (v := .ref 9) dX7_applies_10 rfl rfl rfl (by decide) zf_X7_39 zw_in7 ?_
    refine z_iload_1 dX7_applies_13 ?_
    refine z_ialdN (k := k) dX7_applies_14 rfl (by first | omega | assumption) (by decide) ?_
    refine z_topi (w := S.2 8 (k)) rfl ?_
    refine z_topi (w := nI ((gp n k).1)) (hG.lo (by first | omega | assumption)) ?_
    refine z_iadd dX7_applies_15 ?_
    refine z_topi (w := nI (4 + ((gp n k).1))) (nI_add _ _) ?_
    refine z_istore_4 dX7_applies_16 rfl (by decide) ?_
    refine z_aload_0 dX7_applies_18 ?_
    refine z_get (k := 0) (v := .ref 1) dX7_applies_19 rfl rfl rfl (by decide) zf_X7_7 zw_in7 ?_
    refine z_iload_4 dX7_applies_22 ?_
    refine z_iload_2 dX7_applies_24 ?_
    refine z_aload_0 dX7_applies_25 ?_
    refine z_get (k := 0) (v := .ref 1) dX7_applies_26 rfl rfl rfl (by decide) zf_X7_7 zw_in7 ?_
    refine z_iload_4 dX7_applies_29 ?_
    refine z_ialdN (k := (4 + ((gp n k).1))) dX7_applies_31 rfl (by first | omega | assumption) (by decide) ?_
    refine z_topi (w := S.2 0 (4 + ((gp n k).1))) rfl ?_
    refine z_imul dX7_applies_32 ?_
    refine z_iload_3 dX7_applies_33 ?_
    refine z_iadd dX7_applies_34 ?_
    refine z_iastN (k := (4 + ((gp n k).1))) dX7_applies_35 rfl (by first | omega | assumption) (by decide) ?_
    refine Z.heap (h2 := mh (sA 0 (4 + ((gp n k).1)) ((f * (S.2 0 (4 + ((gp n k).1)))) + o) S)) rfl ?_
    rw [g_m_applies, if_pos c5]
    exact z_vret dX7_applies_36 rfl rfl rfl
theorem mGr_ap {n k : Nat} {f o : Int32} {S : ZS} (h : mGr n S) : mGr n (g_m_applies n k f o S) := by
  rw [g_m_applies]
  split
  · exact h.sA (by decide) (by decide) (by decide) (fun _ => by omega)
  · exact (h.sA (by decide) (by decide) (by decide) (fun _ => by omega)).sA (by decide) (by decide) (by decide) (fun _ => by omega)
noncomputable def s_m_pushes_1 (n : Nat) (k : Nat) (S : ZS) : ZS := (g_m_applies n (2 * k + 1) (S.2 0 (44 + k)) (S.2 0 (172 + k)) (g_m_applies n (2 * k) (S.2 0 (44 + k)) (S.2 0 (172 + k)) S))
noncomputable def g_m_pushes (n : Nat) (k : Nat) (S : ZS) : Bool × ZS := (if ((g_m_isMarked k S)) = true then (true, (sA 0 (2) ((((s_m_pushes_1 n k S)).2 0 (2)) + 1) (sA 0 (172 + k) (0) (sA 0 (44 + k) (1) (s_m_pushes_1 n k S))))) else (false, S))
theorem k_m_pushes (n : Nat) (k : Nat) (S : ZS) (k1 : 1 ≤ k) (k2 : k < 64) (h40 : n ≤ 40) (hG : mGr n S) : zM sc yX7_pushes cX7_pushes 4 (some .boolean) 2 0 0 [.ref 0, .int (nI (k))] (mh S) (.inl (some (.int (zb (g_m_pushes n k S).1)))) (mh (g_m_pushes n k S).2) := by
  refine zM.at (ls := [some (.ref 0), some (.int (nI (k))), none, none]) zy_X7_pushes.2.2.2.2.2 (Nat.le_of_ble_eq_true rfl) rfl ?_
  refine z_aload_0 dX7_pushes_0 ?_
  refine z_iload_1 dX7_pushes_1 ?_
  refine Z.call0s (zRun.V (ρ := fun i => i) (k_m_isMarked k S (by first | omega | assumption)) dX7_pushes_2 zy_X7_isMarked zm_X7_96 rfl rfl rfl rfl (Nat.le_of_ble_eq_true rfl) (by decide) (by decide)) (zlen2 14 rfl rfl) ?_
  refine z_ifB_ne (tgt := 10) dX7_pushes_5 (by decide) (fun c5 => ?_) (fun c5 => ?_)
  · refine z_aload_0 dX7_pushes_10 ?_
    refine z_get (k := 0) (v := .ref 1) dX7_pushes_11 rfl rfl rfl (by decide) zf_X7_7 zw_in7 ?_
    refine z_bipush (v := 44) dX7_pushes_14 rfl ?_
    refine z_iload_1 dX7_pushes_16 ?_
    refine z_iadd dX7_pushes_17 ?_
    refine z_topi (w := nI (44 + k)) (nI_add _ _) ?_
    refine z_ialdN (k := (44 + k)) dX7_pushes_18 rfl (by first | omega | assumption) (by decide) ?_
    refine z_topi (w := S.2 0 (44 + k)) rfl ?_
    refine z_istore_2 dX7_pushes_19 rfl (by decide) ?_
    refine z_aload_0 dX7_pushes_20 ?_
    refine z_get (k := 0) (v := .ref 1) dX7_pushes_21 rfl rfl rfl (by decide) zf_X7_7 zw_in7 ?_
    refine z_sipush (v := 172) dX7_pushes_24 rfl ?_
    refine z_iload_1 dX7_pushes_27 ?_
    refine z_iadd dX7_pushes_28 ?_
    refine z_topi (w := nI (172 + k)) (nI_add _ _) ?_
    refine z_ialdN (k := (172 + k)) dX7_pushes_29 rfl (by first | omega | assumption) (by decide) ?_
    refine z_topi (w := S.2 0 (172 + k)) rfl ?_
    refine z_istore_3 dX7_pushes_30 rfl (by decide) ?_
    refine z_aload_0 dX7_pushes_31 ?_
    refine z_iconst (v := 2) dX7_pushes_32 rfl ?_
    refine z_iload_1 dX7_pushes_33 ?_
    refine z_imul dX7_pushes_34 ?_
    refine z_topi (w := nI (2 * k)) (pk_mul _ _) ?_
    refine z_iload_2 dX7_pushes_35 ?_
    refine z_iload_3 dX7_pushes_36 ?_
    refine Z.call0n (zRun.V (ρ := fun i => i) (k_m_applies n (2 * k) (S.2 0 (44 + k)) (S.2 0 (172 + k)) S (by first | omega | assumption) (by first | omega | assumption) h40 hG) dX7_pushes_37 zy_X7_applies zm_X7_99 rfl rfl rfl rfl (Nat.le_of_ble_eq_true rfl) (by decide) (by decide)) (zlen2 14 rfl rfl) ?_
    refine z_aload_0 dX7_pushes_40 ?_
    refine z_iconst (v := 2) dX7_pushes_41 rfl ?_
    refine z_iload_1 dX7_pushes_42 ?_
    refine z_imul dX7_pushes_43 ?_
    refine z_topi (w := nI (2 * k)) (pk_mul _ _) ?_
    refine z_iconst (v := 1) dX7_pushes_44 rfl ?_
    refine z_iadd dX7_pushes_45 ?_
    refine z_topi (w := nI (2 * k + 1)) (nI_add _ _) ?_
    refine z_iload_2 dX7_pushes_46 ?_
    refine z_iload_3 dX7_pushes_47 ?_
    refine Z.call0n (zRun.V (ρ := fun i => i) (k_m_applies n (2 * k + 1) (S.2 0 (44 + k)) (S.2 0 (172 + k)) (g_m_applies n (2 * k) (S.2 0 (44 + k)) (S.2 0 (172 + k)) S) (by first | omega | assumption) (by first | omega | assumption) h40 (mGr_ap hG)) dX7_pushes_48 zy_X7_applies zm_X7_99 rfl rfl rfl rfl (Nat.le_of_ble_eq_true rfl) (by decide) (by decide)) (zlen2 14 rfl rfl) ?_
    refine z_aload_0 dX7_pushes_51 ?_
    refine z_get (k := 0) (v := .ref 1) dX7_pushes_52 rfl rfl rfl (by decide) zf_X7_7 zw_in7 ?_
    refine z_bipush (v := 44) dX7_pushes_55 rfl ?_
    refine z_iload_1 dX7_pushes_57 ?_
    refine z_iadd dX7_pushes_58 ?_
    refine z_topi (w := nI (44 + k)) (nI_add _ _) ?_
    refine z_iconst (v := 1) dX7_pushes_59 rfl ?_
    refine z_iastN (k := (44 + k)) dX7_pushes_60 rfl (by first | omega | assumption) (by decide) ?_
    refine Z.heap (h2 := mh (sA 0 (44 + k) (1) (s_m_pushes_1 n k S))) rfl ?_
    refine z_aload_0 dX7_pushes_61 ?_
    refine z_get (k := 0) (v := .ref 1) dX7_pushes_62 rfl rfl rfl (by decide) zf_X7_7 zw_in7 ?_
    refine z_sipush (v := 172) dX7_pushes_65 rfl ?_
    refine z_iload_1 dX7_pushes_68 ?_
    refine z_iadd dX7_pushes_69 ?_
    refine z_topi (w := nI (172 + k)) (nI_add _ _) ?_
    refine z_iconst (v := 0) dX7_pushes_70 rfl ?_
    refine z_iastN (k := (172 + k)) dX7_pushes_71 rfl (by first | omega | assumption) (by decide) ?_
    refine Z.heap (h2 := mh (sA 0 (172 + k) (0) (sA 0 (44 + k) (1) (s_m_pushes_1 n k S)))) rfl ?_
    refine z_aload_0 dX7_pushes_72 ?_
    refine z_get (k := 0) (v := .ref 1) dX7_pushes_73 rfl rfl rfl (by decide) zf_X7_7 zw_in7 ?_
    refine z_iconst (v := 2) dX7_pushes_76 rfl ?_
    refine z_dup2 dX7_pushes_77 rfl rfl ?_
    refine z_ialdN (k := 2) dX7_pushes_78 rfl (by first | omega | assumption) (by decide) ?_
    refine z_topi (w := ((s_m_pushes_1 n k S)).2 0 (2)) (by rw [sA_o (by omega), sA_o (by omega)]) ?_
    refine z_iconst (v := 1) dX7_pushes_79 rfl ?_
    refine z_iadd dX7_pushes_80 ?_
    refine z_iastN (k := 2) dX7_pushes_81 rfl (by first | omega | assumption) (by decide) ?_
    refine Z.heap (h2 := mh (sA 0 (2) ((((s_m_pushes_1 n k S)).2 0 (2)) + 1) (sA 0 (172 + k) (0) (sA 0 (44 + k) (1) (s_m_pushes_1 n k S))))) rfl ?_
    refine z_iconst (v := 1) dX7_pushes_82 rfl ?_
    rw [g_m_pushes, if_pos c5]
    exact z_iret dX7_pushes_83 rfl rfl rfl rfl
  · refine z_iconst (v := 0) dX7_pushes_8 rfl ?_
    rw [g_m_pushes, if_neg c5]
    exact z_iret dX7_pushes_9 rfl rfl rfl rfl
theorem mGr_push {n k : Nat} {S : ZS} (h : mGr n S) : mGr n (g_m_pushes n k S).2 := by
  rw [g_m_pushes]
  split
  · exact (((mGr_ap (mGr_ap h)).sA (by decide) (by decide) (by decide) (fun _ => by omega)).sA (by decide) (by decide) (by decide) (fun _ => by omega)).sA (by decide) (by decide) (by decide) (fun _ => by omega)
  · exact h
