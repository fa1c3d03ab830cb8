variable {sc : SC}

theorem mOK.sA {n j i : Nat} {v : Int32} {S : ZS} (h : mOK n S) (h8 : ¬ j = 8) (h9 : ¬ j = 9) (h10 : ¬ j = 10) (h0 : j = 0 → ¬ i = 0) : mOK n (sA j i v S) := by
  refine ⟨?_, fun g => ?_⟩
  · by_cases e : j = 0
    · subst e
      rw [sA_o (fun z => h0 rfl z.symm)]; exact h.1
    · rw [sA_x (fun z => e z.symm)]; exact h.1
  · exact (mGr.sA (i := i) (v := v) ⟨h.1, g, h.2 g⟩ h8 h9 h10 h0).2.2
theorem mOK.sI {n k : Nat} {v : Int32} {S : ZS} (h : mOK n S) (h9 : ¬ k = 19) : mOK n (sI k v S) := by
  have e : upd S.1 k v 19 = S.1 19 := by
    rw [upd, if_neg (fun z => h9 z.symm)]
  exact ⟨h.1, fun g => h.2 (e.symm.trans g)⟩
noncomputable def g_m_updates (n : Nat) (f : Nat) (t : Nat) (F : Int32) (O : Int32) (S : ZS) : Int32 × ZS := (((g_m_goes 7 n 1 f t (F) (O) (sI 22 (0) (sI 21 (0) (g_m_grows n S))))).1 21, (sA 0 (3) ((((g_m_goes 7 n 1 f t (F) (O) (sI 22 (0) (sI 21 (0) (g_m_grows n S))))).2 0 (3)) + (((g_m_goes 7 n 1 f t (F) (O) (sI 22 (0) (sI 21 (0) (g_m_grows n S))))).1 21)) (sA 0 (1) ((((g_m_goes 7 n 1 f t (F) (O) (sI 22 (0) (sI 21 (0) (g_m_grows n S))))).2 0 (1)) + 1) (g_m_goes 7 n 1 f t (F) (O) (sI 22 (0) (sI 21 (0) (g_m_grows n S)))))))
theorem k_m_updates (n : Nat) (f : Nat) (t : Nat) (F : Int32) (O : Int32) (S : ZS) (h1 : 1 ≤ n) (h40 : n ≤ 40) (hft : f ≤ t) (ht : t < n) (hO : mOK n S) : zM sc yX7_updates cX7_updates 5 (some .int) 11 0 0 [.ref 0, .int (nI (f)), .int (nI (t)), .int (F), .int (O)] (mh S) (.inl (some (.int (g_m_updates n f t F O S).1))) (mh (g_m_updates n f t F O S).2) := by
  refine zM.at (ls := [some (.ref 0), some (.int (nI (f))), some (.int (nI (t))), some (.int (F)), some (.int (O))]) zy_X7_updates.2.2.2.2.2 (Nat.le_of_ble_eq_true rfl) rfl ?_
  refine z_aload_0 dX7_updates_0 ?_
  refine Z.call0n (zRun.V (ρ := fun i => i) (k_m_grows n S h1 h40 hO.1) dX7_updates_1 zy_X7_grows zm_X7_86 rfl rfl rfl rfl (Nat.le_of_ble_eq_true rfl) (by decide) (by decide)) (zlen2 14 rfl rfl) ?_
  refine z_aload_0 dX7_updates_4 ?_
  refine z_iconst (v := 0) dX7_updates_5 rfl ?_
  refine z_put (k := 21) (ty := tyX7) dX7_updates_6 rfl rfl (by decide) zf_X7_106 zw_in7 tyX7_ok nmX7 rfl (fun _ => ⟨rfl, rfl⟩) (Nat.le_of_ble_eq_true rfl) ?_
  refine Z.heap (h2 := mh (sI 21 (0) (g_m_grows n S))) rfl ?_
  refine z_aload_0 dX7_updates_9 ?_
  refine z_iconst (v := 0) dX7_updates_10 rfl ?_
  refine z_put (k := 22) (ty := tyX7) dX7_updates_11 rfl rfl (by decide) zf_X7_103 zw_in7 tyX7_ok nmX7 rfl (fun _ => ⟨rfl, rfl⟩) (Nat.le_of_ble_eq_true rfl) ?_
  refine Z.heap (h2 := mh (sI 22 (0) (sI 21 (0) (g_m_grows n S)))) rfl ?_
  refine z_aload_0 dX7_updates_14 ?_
  refine z_iconst (v := 1) dX7_updates_15 rfl ?_
  refine z_iload_1 dX7_updates_16 ?_
  refine z_iload_2 dX7_updates_17 ?_
  refine z_iload_3 dX7_updates_18 ?_
  refine z_iload_4 dX7_updates_19 ?_
  refine Z.call0n (zRun.V (ρ := fun i => i) (k_m_goes 7 n 1 f t (F) (O) (sI 22 (0) (sI 21 (0) (g_m_grows n S))) (by decide) (by decide) h40 (show 0 < n by omega) (by decide) hft ht (Nat.zero_le _) (show f < n by omega) (((mGr_of h1 h40 hO).sI (by decide)).sI (by decide)) (mMet.of (c := 0) rfl (Nat.zero_le _) (show 0 ≤ 40 by decide))) dX7_updates_21 zy_X7_goes zm_X7_112 rfl rfl rfl rfl (Nat.le_of_ble_eq_true rfl) (by decide) (by decide)) (zlen2 14 rfl rfl) ?_
  refine z_aload_0 dX7_updates_24 ?_
  refine z_get (k := 0) (v := .ref 1) dX7_updates_25 rfl rfl rfl (by decide) zf_X7_7 zw_in7 ?_
  refine z_iconst (v := 1) dX7_updates_28 rfl ?_
  refine z_dup2 dX7_updates_29 rfl rfl ?_
  refine z_ialdN (k := 1) dX7_updates_30 rfl (by first | omega | assumption) (by decide) ?_
  refine z_topi (w := ((g_m_goes 7 n 1 f t (F) (O) (sI 22 (0) (sI 21 (0) (g_m_grows n S))))).2 0 (1)) rfl ?_
  refine z_iconst (v := 1) dX7_updates_31 rfl ?_
  refine z_iadd dX7_updates_32 ?_
  refine z_iastN (k := 1) dX7_updates_33 rfl (by first | omega | assumption) (by decide) ?_
  refine Z.heap (h2 := mh (sA 0 (1) ((((g_m_goes 7 n 1 f t (F) (O) (sI 22 (0) (sI 21 (0) (g_m_grows n S))))).2 0 (1)) + 1) (g_m_goes 7 n 1 f t (F) (O) (sI 22 (0) (sI 21 (0) (g_m_grows n S)))))) rfl ?_
  refine z_aload_0 dX7_updates_34 ?_
  refine z_get (k := 0) (v := .ref 1) dX7_updates_35 rfl rfl rfl (by decide) zf_X7_7 zw_in7 ?_
  refine z_iconst (v := 3) dX7_updates_38 rfl ?_
  refine z_dup2 dX7_updates_39 rfl rfl ?_
  refine z_ialdN (k := 3) dX7_updates_40 rfl (by first | omega | assumption) (by decide) ?_
  refine z_topi (w := ((g_m_goes 7 n 1 f t (F) (O) (sI 22 (0) (sI 21 (0) (g_m_grows n S))))).2 0 (3)) (by rw [sA_o (by omega)]) ?_
  refine z_aload_0 dX7_updates_41 ?_
  refine z_get (k := 21) (v := .int (((g_m_goes 7 n 1 f t (F) (O) (sI 22 (0) (sI 21 (0) (g_m_grows n S))))).1 21)) dX7_updates_42 rfl rfl rfl (by decide) zf_X7_106 zw_in7 ?_
  refine z_iadd dX7_updates_45 ?_
  refine z_iastN (k := 3) dX7_updates_46 rfl (by first | omega | assumption) (by decide) ?_
  refine Z.heap (h2 := mh (sA 0 (3) ((((g_m_goes 7 n 1 f t (F) (O) (sI 22 (0) (sI 21 (0) (g_m_grows n S))))).2 0 (3)) + (((g_m_goes 7 n 1 f t (F) (O) (sI 22 (0) (sI 21 (0) (g_m_grows n S))))).1 21)) (sA 0 (1) ((((g_m_goes 7 n 1 f t (F) (O) (sI 22 (0) (sI 21 (0) (g_m_grows n S))))).2 0 (1)) + 1) (g_m_goes 7 n 1 f t (F) (O) (sI 22 (0) (sI 21 (0) (g_m_grows n S))))))) rfl ?_
  refine z_aload_0 dX7_updates_47 ?_
  refine z_get (k := 21) (v := .int (((g_m_goes 7 n 1 f t (F) (O) (sI 22 (0) (sI 21 (0) (g_m_grows n S))))).1 21)) dX7_updates_48 rfl rfl rfl (by decide) zf_X7_106 zw_in7 ?_
  rw [g_m_updates]
  exact z_iret dX7_updates_51 rfl rfl rfl rfl
noncomputable def g_m_tries_L2 (n : Nat) (f : Nat) (t : Nat) : Nat → Int32 → Nat → ZS → Int32 × ZS
  | 0, c, _, S => (c, S)
  | fu + 1, c, k, S => g_m_tries_L2 n f t fu c (k + 1) (sA 0 (k) (S.2 2 (k)) S)
theorem l_g_m_tries_L2 (n : Nat) (f : Nat) (t : Nat) : ∀ (fu : Nat) (c : Int32) (k : Nat) (S : ZS) , (k + fu = 300) → Z sc yX7_tries cX7_tries 5 (some .int) 12 0 0 53 [some (.ref 0), some (.int (nI (f))), some (.int (nI (t))), some (.int (c)), some (.int (nI (k)))] [] (mh S) (.inl (some (.int (g_m_tries_L2 n f t fu c k S).1))) (mh (g_m_tries_L2 n f t fu c k S).2) := by
  intro fu
  induction fu with
  | zero =>
    intro c k S hk
    refine z_iload_4 dX7_tries_53 ?_
    refine z_sipush (v := 300) dX7_tries_55 rfl ?_
    refine z_icmpN_ge_t (tgt := 81) dX7_tries_58 (by decide) (x := k) (z := 300) (by first | omega | assumption) (by first | omega | assumption) (by omega) ?_
    refine z_iload_3 dX7_tries_81 ?_
    rw [g_m_tries_L2]
    exact z_iret dX7_tries_82 rfl rfl rfl rfl
  | succ fu ih =>
    intro c k S hk
    refine z_iload_4 dX7_tries_53 ?_
    refine z_sipush (v := 300) dX7_tries_55 rfl ?_
    refine z_icmpN_ge_f (tgt := 81) dX7_tries_58 (by decide) (x := k) (z := 300) (by first | omega | assumption) (by first | omega | assumption) (by omega) ?_
    refine z_aload_0 dX7_tries_61 ?_
    refine z_get (k := 0) (v := .ref 1) dX7_tries_62 rfl rfl rfl (by decide) zf_X7_7 zw_in7 ?_
    refine z_iload_4 dX7_tries_65 ?_
    refine z_aload_0 dX7_tries_67 ?_
    refine z_get (k := 2) (v := .ref 3) dX7_tries_68 rfl rfl rfl (by decide) zf_X7_16 zw_in7 ?_
    refine z_iload_4 dX7_tries_71 ?_
    refine z_ialdN (k := k) dX7_tries_73 rfl (by first | omega | assumption) (by decide) ?_
    refine z_topi (w := S.2 2 (k)) rfl ?_
    refine z_iastN (k := k) dX7_tries_74 rfl (by first | omega | assumption) (by decide) ?_
    refine Z.heap (h2 := mh (sA 0 (k) (S.2 2 (k)) S)) rfl ?_
    refine z_iinc_4 (v := nI (k + 1)) dX7_tries_75 (nI_add _ 1) rfl (by decide) ?_
    refine z_goto (tgt := 53) dX7_tries_78 (by decide) ?_
    rw [g_m_tries_L2]
    exact ih c (k + 1) (sA 0 (k) (S.2 2 (k)) S) (by first | omega | assumption)
noncomputable def g_m_tries_L1 (n : Nat) (f : Nat) (t : Nat) : Nat → Nat → ZS → Int32 × ZS
  | 0, _, S => g_m_tries_L2 n f t 300 ((((g_m_updates n f t ((-1)) (0) S).2).2 0 (2)) - (((g_m_updates n f t ((-1)) (0) S).2).2 2 (2))) 0 ((g_m_updates n f t ((-1)) (0) S).2)
  | fu + 1, k, S => g_m_tries_L1 n f t fu (k + 1) (sA 2 (k) (S.2 0 (k)) S)
theorem l_g_m_tries_L1 (n : Nat) (f : Nat) (t : Nat) : ∀ (fu : Nat) (k : Nat) (S : ZS) (j4 : Option Value), (k + fu = 300) → (1 ≤ n) → (n ≤ 40) → (f ≤ t) → (t < n) → (mOK n S) → Z sc yX7_tries cX7_tries 5 (some .int) 12 0 0 2 [some (.ref 0), some (.int (nI (f))), some (.int (nI (t))), some (.int (nI (k))), j4] [] (mh S) (.inl (some (.int (g_m_tries_L1 n f t fu k S).1))) (mh (g_m_tries_L1 n f t fu k S).2) := by
  intro fu
  induction fu with
  | zero =>
    intro k S j4 hk h1 h40 hft ht hO
    refine z_iload_3 dX7_tries_2 ?_
    refine z_sipush (v := 300) dX7_tries_3 rfl ?_
    refine z_icmpN_ge_t (tgt := 27) dX7_tries_6 (by decide) (x := k) (z := 300) (by first | omega | assumption) (by first | omega | assumption) (by omega) ?_
    refine z_aload_0 dX7_tries_27 ?_
    refine z_iload_1 dX7_tries_28 ?_
    refine z_iload_2 dX7_tries_29 ?_
    refine z_iconst (v := (-1)) dX7_tries_30 rfl ?_
    refine z_iconst (v := 0) dX7_tries_31 rfl ?_
    refine Z.call0s (zRun.V (ρ := fun i => i) (k_m_updates n f t ((-1)) (0) S h1 h40 hft ht hO) dX7_tries_32 zy_X7_updates zm_X7_116 rfl rfl rfl rfl (Nat.le_of_ble_eq_true rfl) (by decide) (by decide)) (zlen2 14 rfl rfl) ?_
    refine z_pop dX7_tries_35 rfl ?_
    refine z_aload_0 dX7_tries_36 ?_
    refine z_get (k := 0) (v := .ref 1) dX7_tries_37 rfl rfl rfl (by decide) zf_X7_7 zw_in7 ?_
    refine z_iconst (v := 2) dX7_tries_40 rfl ?_
    refine z_ialdN (k := 2) dX7_tries_41 rfl (by first | omega | assumption) (by decide) ?_
    refine z_topi (w := ((g_m_updates n f t ((-1)) (0) S).2).2 0 (2)) rfl ?_
    refine z_aload_0 dX7_tries_42 ?_
    refine z_get (k := 2) (v := .ref 3) dX7_tries_43 rfl rfl rfl (by decide) zf_X7_16 zw_in7 ?_
    refine z_iconst (v := 2) dX7_tries_46 rfl ?_
    refine z_ialdN (k := 2) dX7_tries_47 rfl (by first | omega | assumption) (by decide) ?_
    refine z_topi (w := ((g_m_updates n f t ((-1)) (0) S).2).2 2 (2)) rfl ?_
    refine z_isub dX7_tries_48 ?_
    refine z_istore_3 dX7_tries_49 rfl (by decide) ?_
    refine z_iconst (v := 0) dX7_tries_50 rfl ?_
    refine z_istore_4 dX7_tries_51 rfl (by decide) ?_
    rw [g_m_tries_L1]
    exact l_g_m_tries_L2 n f t 300 ((((g_m_updates n f t ((-1)) (0) S).2).2 0 (2)) - (((g_m_updates n f t ((-1)) (0) S).2).2 2 (2))) 0 ((g_m_updates n f t ((-1)) (0) S).2) (by first | omega | assumption)
  | succ fu ih =>
    intro k S j4 hk h1 h40 hft ht hO
    refine z_iload_3 dX7_tries_2 ?_
    refine z_sipush (v := 300) dX7_tries_3 rfl ?_
    refine z_icmpN_ge_f (tgt := 27) dX7_tries_6 (by decide) (x := k) (z := 300) (by first | omega | assumption) (by first | omega | assumption) (by omega) ?_
    refine z_aload_0 dX7_tries_9 ?_
    refine z_get (k := 2) (v := .ref 3) dX7_tries_10 rfl rfl rfl (by decide) zf_X7_16 zw_in7 ?_
    refine z_iload_3 dX7_tries_13 ?_
    refine z_aload_0 dX7_tries_14 ?_
    refine z_get (k := 0) (v := .ref 1) dX7_tries_15 rfl rfl rfl (by decide) zf_X7_7 zw_in7 ?_
    refine z_iload_3 dX7_tries_18 ?_
    refine z_ialdN (k := k) dX7_tries_19 rfl (by first | omega | assumption) (by decide) ?_
    refine z_topi (w := S.2 0 (k)) rfl ?_
    refine z_iastN (k := k) dX7_tries_20 rfl (by first | omega | assumption) (by decide) ?_
    refine Z.heap (h2 := mh (sA 2 (k) (S.2 0 (k)) S)) rfl ?_
    refine z_iinc_3 (v := nI (k + 1)) dX7_tries_21 (nI_add _ 1) rfl (by decide) ?_
    refine z_goto (tgt := 2) dX7_tries_24 (by decide) ?_
    rw [g_m_tries_L1]
    exact ih (k + 1) (sA 2 (k) (S.2 0 (k)) S) _ (by first | omega | assumption) (by first | omega | assumption) (by first | omega | assumption) (by first | omega | assumption) (by first | omega | assumption) (hO.sA (by decide) (by decide) (by decide) (fun h => absurd h (by decide)))
noncomputable def g_m_tries (n : Nat) (f : Nat) (t : Nat) (S : ZS) : Int32 × ZS := g_m_tries_L1 n f t 300 0 S
theorem k_m_tries (n : Nat) (f : Nat) (t : Nat) (S : ZS) (h1 : 1 ≤ n) (h40 : n ≤ 40) (hft : f ≤ t) (ht : t < n) (hO : mOK n S) : zM sc yX7_tries cX7_tries 5 (some .int) 12 0 0 [.ref 0, .int (nI (f)), .int (nI (t))] (mh S) (.inl (some (.int (g_m_tries n f t S).1))) (mh (g_m_tries n f t S).2) := by
  refine zM.at (ls := [some (.ref 0), some (.int (nI (f))), some (.int (nI (t))), none, none]) zy_X7_tries.2.2.2.2.2 (Nat.le_of_ble_eq_true rfl) rfl ?_
  refine z_iconst (v := 0) dX7_tries_0 rfl ?_
  refine z_istore_3 dX7_tries_1 rfl (by decide) ?_
  rw [g_m_tries]
  exact l_g_m_tries_L1 n f t 300 0 S _ (by first | omega | assumption) (by first | omega | assumption) (by first | omega | assumption) (by first | omega | assumption) (by first | omega | assumption) hO
noncomputable def g_m_allPushes_L (n : Nat) : Nat → Nat → Nat → ZS → Nat × ZS
  | 0, c, _, S => (c, S)
  | fu + 1, c, k, S => (if nI (gp n k).2 - 1 ≤ nI ((gp n k).1) then g_m_allPushes_L n fu (c + 0) (k + 1) S else (if ((g_m_pushes n k S).1) = true then g_m_allPushes_L n fu (c + 1) (k + 1) ((g_m_pushes n k S).2) else g_m_allPushes_L n fu (c + 0) (k + 1) ((g_m_pushes n k S).2)))
theorem l_g_m_allPushes_L (n : Nat) : ∀ (fu : Nat) (c : Nat) (k : Nat) (S : ZS) , (k + fu = 128) → (1 ≤ k) → (c + fu < 2 ^ 31) → (n ≤ 40) → (mGr n S) → Z sc yX7_allPushes cX7_allPushes 3 (some .int) 3 0 0 8 [some (.ref 0), some (.int (nI (c))), some (.int (nI (k)))] [] (mh S) (.inl (some (.int (nI (g_m_allPushes_L n fu c k S).1)))) (mh (g_m_allPushes_L n fu c k S).2) := by
  intro fu
  induction fu with
  | zero =>
    intro c k S hk hk1 hcc h40 hG
    refine z_iload_2 dX7_allPushes_8 ?_
    refine z_sipush (v := 128) dX7_allPushes_9 rfl ?_
    refine z_icmpN_ge_t (tgt := 52) dX7_allPushes_12 (by decide) (x := k) (z := 128) (by first | omega | assumption) (by first | omega | assumption) (by omega) ?_
    refine z_iload_1 dX7_allPushes_52 ?_
    rw [g_m_allPushes_L]
    exact z_iret dX7_allPushes_53 rfl rfl rfl rfl
  | succ fu ih =>
    intro c k S hk hk1 hcc h40 hG
    refine z_iload_2 dX7_allPushes_8 ?_
    refine z_sipush (v := 128) dX7_allPushes_9 rfl ?_
    refine z_icmpN_ge_f (tgt := 52) dX7_allPushes_12 (by decide) (x := k) (z := 128) (by first | omega | assumption) (by first | omega | assumption) (by omega) ?_
    refine z_iload_1 dX7_allPushes_15 ?_
    refine z_aload_0 dX7_allPushes_16 ?_
    refine z_get (k := 16) (v := .ref 9) dX7_allPushes_17 rfl rfl rfl (by decide) zf_X7_39 zw_in7 ?_
    refine z_iload_2 dX7_allPushes_20 ?_
    refine z_ialdN (k := k) dX7_allPushes_21 rfl (by first | omega | assumption) (by decide) ?_
    refine z_topi (w := S.2 8 (k)) rfl ?_
    refine z_topi (w := nI ((gp n k).1)) (hG.lo (by first | omega | assumption)) ?_
    refine z_aload_0 dX7_allPushes_22 ?_
    refine z_get (k := 17) (v := .ref 10) dX7_allPushes_23 rfl rfl rfl (by decide) zf_X7_42 zw_in7 ?_
    refine z_iload_2 dX7_allPushes_26 ?_
    refine z_ialdN (k := k) dX7_allPushes_27 rfl (by first | omega | assumption) (by decide) ?_
    refine z_topi (w := S.2 9 (k)) rfl ?_
    refine z_topi (w := nI (gp n k).2 - 1) (hG.hi (by first | omega | assumption)) ?_
    refine z_icmp_ge (tgt := 43) dX7_allPushes_28 (by decide) (fun c28 => ?_) (fun c28 => ?_)
    · refine z_iconst (v := 0) dX7_allPushes_43 rfl ?_
      refine z_iadd dX7_allPushes_44 ?_
      refine z_topi (w := nI (c + 0)) (nI_add _ _) ?_
      refine z_istore_1 dX7_allPushes_45 rfl (by decide) ?_
      refine z_iinc_2 (v := nI (k + 1)) dX7_allPushes_46 (nI_add _ 1) rfl (by decide) ?_
      refine z_goto (tgt := 8) dX7_allPushes_49 (by decide) ?_
      rw [g_m_allPushes_L, if_pos c28]
      exact ih (c + 0) (k + 1) S (by first | omega | assumption) (by first | omega | assumption) (by first | omega | assumption) (by first | omega | assumption) (by first | exact hG | exact mGr_push hG)
    · have ha40 := gp_40 n k h40
      have hw := zgp_lt ha40.1 ha40.2 c28
      have h64 := gp_near n k h40 (by omega) hw
      refine z_aload_0 dX7_allPushes_31 ?_
      refine z_iload_2 dX7_allPushes_32 ?_
      refine Z.call0s (zRun.V (ρ := fun i => i) (k_m_pushes n k S (by omega) h64 h40 hG) dX7_allPushes_33 zy_X7_pushes zm_X7_109 rfl rfl rfl rfl (Nat.le_of_ble_eq_true rfl) (by decide) (by decide)) (zlen2 14 rfl rfl) ?_
      refine z_ifB_eq (tgt := 43) dX7_allPushes_36 (by decide) (fun c36 => ?_) (fun c36 => ?_)
      · refine z_iconst (v := 0) dX7_allPushes_43 rfl ?_
        refine z_iadd dX7_allPushes_44 ?_
        refine z_topi (w := nI (c + 0)) (nI_add _ _) ?_
        refine z_istore_1 dX7_allPushes_45 rfl (by decide) ?_
        refine z_iinc_2 (v := nI (k + 1)) dX7_allPushes_46 (nI_add _ 1) rfl (by decide) ?_
        refine z_goto (tgt := 8) dX7_allPushes_49 (by decide) ?_
        rw [g_m_allPushes_L, if_neg c28, if_neg c36]
        exact ih (c + 0) (k + 1) ((g_m_pushes n k S).2) (by first | omega | assumption) (by first | omega | assumption) (by first | omega | assumption) (by first | omega | assumption) (by first | exact hG | exact mGr_push hG)
      · refine z_iconst (v := 1) dX7_allPushes_39 rfl ?_
        refine z_goto (tgt := 44) dX7_allPushes_40 (by decide) ?_
        refine z_iadd dX7_allPushes_44 ?_
        refine z_topi (w := nI (c + 1)) (nI_add _ _) ?_
        refine z_istore_1 dX7_allPushes_45 rfl (by decide) ?_
        refine z_iinc_2 (v := nI (k + 1)) dX7_allPushes_46 (nI_add _ 1) rfl (by decide) ?_
        refine z_goto (tgt := 8) dX7_allPushes_49 (by decide) ?_
        rw [g_m_allPushes_L, if_neg c28, if_pos c36]
        exact ih (c + 1) (k + 1) ((g_m_pushes n k S).2) (by first | omega | assumption) (by first | omega | assumption) (by first | omega | assumption) (by first | omega | assumption) (by first | exact hG | exact mGr_push hG)
noncomputable def g_m_allPushes (n : Nat) (S : ZS) : Nat × ZS := g_m_allPushes_L n 127 0 1 (g_m_grows n S)
theorem k_m_allPushes (n : Nat) (S : ZS) (h1 : 1 ≤ n) (h40 : n ≤ 40) (hO : mOK n S) : zM sc yX7_allPushes cX7_allPushes 3 (some .int) 3 0 0 [.ref 0] (mh S) (.inl (some (.int (nI (g_m_allPushes n S).1)))) (mh (g_m_allPushes n S).2) := by
  refine zM.at (ls := [some (.ref 0), none, none]) zy_X7_allPushes.2.2.2.2.2 (Nat.le_of_ble_eq_true rfl) rfl ?_
  refine z_aload_0 dX7_allPushes_0 ?_
  refine Z.call0n (zRun.V (ρ := fun i => i) (k_m_grows n S h1 h40 hO.1) dX7_allPushes_1 zy_X7_grows zm_X7_86 rfl rfl rfl rfl (Nat.le_of_ble_eq_true rfl) (by decide) (by decide)) (zlen2 14 rfl rfl) ?_
  refine z_iconst (v := 0) dX7_allPushes_4 rfl ?_
  refine z_istore_1 dX7_allPushes_5 rfl (by decide) ?_
  refine z_iconst (v := 1) dX7_allPushes_6 rfl ?_
  refine z_istore_2 dX7_allPushes_7 rfl (by decide) ?_
  rw [g_m_allPushes]
  exact l_g_m_allPushes_L n 127 0 1 (g_m_grows n S) (by first | omega | assumption) (by first | omega | assumption) (by first | omega | assumption) (by first | omega | assumption) (mGr_of h1 h40 hO)
theorem g_m_value_2 (n i : Nat) (S : ZS) : (g_m_value n i S).2 = g_m_grows n S := rfl
noncomputable def g_m_settles_L2 (n : Nat) : Nat → Nat → ZS → ZS
  | 0, _, S => (g_m_clearMarks S)
  | fu + 1, i, S => g_m_settles_L2 n fu (i + 1) (sA 0 (4 + i) (S.2 11 (i)) S)
theorem l_g_m_settles_L2 (n : Nat) : ∀ (fu : Nat) (i : Nat) (S : ZS) , (1 ≤ n) → (n ≤ 40) → (i + fu = n) → (mGr n S) → Z sc yX7_settles cX7_settles 2 none 2 0 0 31 [some (.ref 0), some (.int (nI (i)))] [] (mh S) (.inl none) (mh (g_m_settles_L2 n fu i S)) := by
  intro fu
  induction fu with
  | zero =>
    intro i S h1 h40 hi hG
    refine z_iload_1 dX7_settles_31 ?_
    refine z_aload_0 dX7_settles_32 ?_
    refine z_get (k := 0) (v := .ref 1) dX7_settles_33 rfl rfl rfl (by decide) zf_X7_7 zw_in7 ?_
    refine z_iconst (v := 0) dX7_settles_36 rfl ?_
    refine z_ialdN (k := 0) dX7_settles_37 rfl (by first | omega | assumption) (by decide) ?_
    refine z_topi (w := S.2 0 (0)) rfl ?_
    refine z_topi (w := nI (n)) hG.1 ?_
    refine z_icmpN_ge_t (tgt := 61) dX7_settles_38 (by decide) (x := i) (z := n) (by first | omega | assumption) (by first | omega | assumption) (by omega) ?_
    refine z_aload_0 dX7_settles_61 ?_
    refine Z.call0n (zRun.V (ρ := fun i => i) (k_m_clearMarks S ) dX7_settles_62 zy_X7_clearMarks zm_X7_124 rfl rfl rfl rfl (Nat.le_of_ble_eq_true rfl) (by decide) (by decide)) (zlen2 14 rfl rfl) ?_
    rw [g_m_settles_L2]
    exact z_vret dX7_settles_65 rfl rfl rfl
  | succ fu ih =>
    intro i S h1 h40 hi hG
    refine z_iload_1 dX7_settles_31 ?_
    refine z_aload_0 dX7_settles_32 ?_
    refine z_get (k := 0) (v := .ref 1) dX7_settles_33 rfl rfl rfl (by decide) zf_X7_7 zw_in7 ?_
    refine z_iconst (v := 0) dX7_settles_36 rfl ?_
    refine z_ialdN (k := 0) dX7_settles_37 rfl (by first | omega | assumption) (by decide) ?_
    refine z_topi (w := S.2 0 (0)) rfl ?_
    refine z_topi (w := nI (n)) hG.1 ?_
    refine z_icmpN_ge_f (tgt := 61) dX7_settles_38 (by decide) (x := i) (z := n) (by first | omega | assumption) (by first | omega | assumption) (by omega) ?_
    refine z_aload_0 dX7_settles_41 ?_
    refine z_get (k := 0) (v := .ref 1) dX7_settles_42 rfl rfl rfl (by decide) zf_X7_7 zw_in7 ?_
    refine z_iconst (v := 4) dX7_settles_45 rfl ?_
    refine z_iload_1 dX7_settles_46 ?_
    refine z_iadd dX7_settles_47 ?_
    refine z_topi (w := nI (4 + i)) (nI_add _ _) ?_
    refine z_aload_0 dX7_settles_48 ?_
    refine z_get (k := 20) (v := .ref 12) dX7_settles_49 rfl rfl rfl (by decide) zf_X7_48 zw_in7 ?_
    refine z_iload_1 dX7_settles_52 ?_
    refine z_ialdN (k := i) dX7_settles_53 rfl (by first | omega | assumption) (by decide) ?_
    refine z_topi (w := S.2 11 (i)) rfl ?_
    refine z_iastN (k := (4 + i)) dX7_settles_54 rfl (by first | omega | assumption) (by decide) ?_
    refine Z.heap (h2 := mh (sA 0 (4 + i) (S.2 11 (i)) S)) rfl ?_
    refine z_iinc_1 (v := nI (i + 1)) dX7_settles_55 (nI_add _ 1) rfl (by decide) ?_
    refine z_goto (tgt := 31) dX7_settles_58 (by decide) ?_
    rw [g_m_settles_L2]
    exact ih (i + 1) (sA 0 (4 + i) (S.2 11 (i)) S) (by first | omega | assumption) (by first | omega | assumption) (by first | omega | assumption) (hG.sA (by decide) (by decide) (by decide) (fun _ => by omega))
noncomputable def g_m_settles_L1 (n : Nat) : Nat → Nat → ZS → ZS
  | 0, _, S => g_m_settles_L2 n n 0 S
  | fu + 1, i, S => g_m_settles_L1 n fu (i + 1) (sA 11 (i) ((g_m_valueG n i S)) S)
theorem l_g_m_settles_L1 (n : Nat) : ∀ (fu : Nat) (i : Nat) (S : ZS) , (1 ≤ n) → (n ≤ 40) → (i + fu = n) → (mGr n S) → Z sc yX7_settles cX7_settles 2 none 2 0 0 2 [some (.ref 0), some (.int (nI (i)))] [] (mh S) (.inl none) (mh (g_m_settles_L1 n fu i S)) := by
  intro fu
  induction fu with
  | zero =>
    intro i S h1 h40 hi hG
    refine z_iload_1 dX7_settles_2 ?_
    refine z_aload_0 dX7_settles_3 ?_
    refine z_get (k := 0) (v := .ref 1) dX7_settles_4 rfl rfl rfl (by decide) zf_X7_7 zw_in7 ?_
    refine z_iconst (v := 0) dX7_settles_7 rfl ?_
    refine z_ialdN (k := 0) dX7_settles_8 rfl (by first | omega | assumption) (by decide) ?_
    refine z_topi (w := S.2 0 (0)) rfl ?_
    refine z_topi (w := nI (n)) hG.1 ?_
    refine z_icmpN_ge_t (tgt := 29) dX7_settles_9 (by decide) (x := i) (z := n) (by first | omega | assumption) (by first | omega | assumption) (by omega) ?_
    refine z_iconst (v := 0) dX7_settles_29 rfl ?_
    refine z_istore_1 dX7_settles_30 rfl (by decide) ?_
    rw [g_m_settles_L1]
    exact l_g_m_settles_L2 n n 0 S (by first | omega | assumption) (by first | omega | assumption) (by first | omega | assumption) hG
  | succ fu ih =>
    intro i S h1 h40 hi hG
    refine z_iload_1 dX7_settles_2 ?_
    refine z_aload_0 dX7_settles_3 ?_
    refine z_get (k := 0) (v := .ref 1) dX7_settles_4 rfl rfl rfl (by decide) zf_X7_7 zw_in7 ?_
    refine z_iconst (v := 0) dX7_settles_7 rfl ?_
    refine z_ialdN (k := 0) dX7_settles_8 rfl (by first | omega | assumption) (by decide) ?_
    refine z_topi (w := S.2 0 (0)) rfl ?_
    refine z_topi (w := nI (n)) hG.1 ?_
    refine z_icmpN_ge_f (tgt := 29) dX7_settles_9 (by decide) (x := i) (z := n) (by first | omega | assumption) (by first | omega | assumption) (by omega) ?_
    refine z_aload_0 dX7_settles_12 ?_
    refine z_get (k := 20) (v := .ref 12) dX7_settles_13 rfl rfl rfl (by decide) zf_X7_48 zw_in7 ?_
    refine z_iload_1 dX7_settles_16 ?_
    refine z_aload_0 dX7_settles_17 ?_
    refine z_iload_1 dX7_settles_18 ?_
    refine Z.call0s (zRun.V (ρ := fun i => i) (k_m_valueG n i S h1 h40 (by first | omega | assumption) hG) dX7_settles_19 zy_X7_value zm_X7_120 rfl rfl rfl rfl (Nat.le_of_ble_eq_true rfl) (by decide) (by decide)) (zlen2 14 rfl rfl) ?_
    refine z_iastN (k := i) dX7_settles_22 rfl (by first | omega | assumption) (by decide) ?_
    refine Z.heap (h2 := mh (sA 11 (i) ((g_m_valueG n i S)) S)) rfl ?_
    refine z_iinc_1 (v := nI (i + 1)) dX7_settles_23 (nI_add _ 1) rfl (by decide) ?_
    refine z_goto (tgt := 2) dX7_settles_26 (by decide) ?_
    rw [g_m_settles_L1]
    exact ih (i + 1) (sA 11 (i) ((g_m_valueG n i S)) S) (by first | omega | assumption) (by first | omega | assumption) (by first | omega | assumption) (hG.sA (by decide) (by decide) (by decide) (fun h => absurd h (by decide)))
noncomputable def g_m_settles (n : Nat) (S : ZS) : ZS := g_m_settles_L1 n (n - 1) 1 (sA 11 (0) ((g_m_value n 0 S).1) (g_m_grows n S))
theorem k_m_settles (n : Nat) (S : ZS) (h1 : 1 ≤ n) (h40 : n ≤ 40) (hO : mOK n S) : zM sc yX7_settles cX7_settles 2 none 2 0 0 [.ref 0] (mh S) (.inl none) (mh (g_m_settles n S)) := by
  refine zM.at (ls := [some (.ref 0), none]) zy_X7_settles.2.2.2.2.2 (Nat.le_of_ble_eq_true rfl) rfl ?_
  refine z_iconst (v := 0) dX7_settles_0 rfl ?_
  refine z_istore_1 dX7_settles_1 rfl (by decide) ?_
  refine z_iload_1 dX7_settles_2 ?_
  refine z_aload_0 dX7_settles_3 ?_
  refine z_get (k := 0) (v := .ref 1) dX7_settles_4 rfl rfl rfl (by decide) zf_X7_7 zw_in7 ?_
  refine z_iconst (v := 0) dX7_settles_7 rfl ?_
  refine z_ialdN (k := 0) dX7_settles_8 rfl (by first | omega | assumption) (by decide) ?_
  refine z_topi (w := S.2 0 (0)) rfl ?_
  refine z_topi (w := nI (n)) hO.1 ?_
  refine z_icmpN_ge_f (tgt := 29) dX7_settles_9 (by decide) (x := 0) (z := n) (by first | omega | assumption) (by first | omega | assumption) (by omega) ?_
  refine z_aload_0 dX7_settles_12 ?_
  refine z_get (k := 20) (v := .ref 12) dX7_settles_13 rfl rfl rfl (by decide) zf_X7_48 zw_in7 ?_
  refine z_iload_1 dX7_settles_16 ?_
  refine z_aload_0 dX7_settles_17 ?_
  refine z_iload_1 dX7_settles_18 ?_
  refine Z.call0s (zRun.V (ρ := fun i => i) (k_m_value n 0 S h1 h40 (by omega) hO) dX7_settles_19 zy_X7_value zm_X7_120 rfl rfl rfl rfl (Nat.le_of_ble_eq_true rfl) (by decide) (by decide)) (zlen2 14 rfl rfl) ?_
  refine Z.heap (h2 := mh (g_m_grows n S)) (by rw [g_m_value_2]) ?_
  refine z_iastN (k := 0) dX7_settles_22 rfl (by first | omega | assumption) (by decide) ?_
  refine Z.heap (h2 := mh (sA 11 (0) ((g_m_value n 0 S).1) (g_m_grows n S))) rfl ?_
  refine z_iinc_1 (v := 1) dX7_settles_23 rfl rfl (by decide) ?_
  refine z_goto (tgt := 2) dX7_settles_26 (by decide) ?_
  rw [g_m_settles]
  exact l_g_m_settles_L1 n (n - 1) 1 (sA 11 (0) ((g_m_value n 0 S).1) (g_m_grows n S)) (by first | omega | assumption) (by first | omega | assumption) (by first | omega | assumption) ((mGr_of h1 h40 hO).sA (by decide) (by decide) (by decide) (fun h => absurd h (by decide)))
noncomputable def g_m_leastOf_L (n : Nat) (f : Nat) (t : Nat) : Nat → Int32 → Nat → ZS → Int32 × ZS
  | 0, x, _, S => (x, S)
  | fu + 1, x, i, S => g_m_leastOf_L n f t fu (zmin (x) ((g_m_valueG n i S))) (i + 1) S
theorem l_g_m_leastOf_L (n : Nat) (f : Nat) (t : Nat) : ∀ (fu : Nat) (x : Int32) (i : Nat) (S : ZS) , (i + fu = t + 1) → (1 ≤ n) → (n ≤ 40) → (t < n) → (mGr n S) → Z sc yX7_leastOf cX7_leastOf 5 (some .int) 2 0 0 9 [some (.ref 0), some (.int (nI (f))), some (.int (nI (t))), some (.int (x)), some (.int (nI (i)))] [] (mh S) (.inl (some (.int (g_m_leastOf_L n f t fu x i S).1))) (mh (g_m_leastOf_L n f t fu x i S).2) := by
  intro fu
  induction fu with
  | zero =>
    intro x i S hi h1 h40 ht hG
    refine z_iload_4 dX7_leastOf_9 ?_
    refine z_iload_2 dX7_leastOf_11 ?_
    refine z_icmpN_gt_t (tgt := 32) dX7_leastOf_12 (by decide) (x := i) (z := t) (by first | omega | assumption) (by first | omega | assumption) (by omega) ?_
    refine z_iload_3 dX7_leastOf_32 ?_
    rw [g_m_leastOf_L]
    exact z_iret dX7_leastOf_33 rfl rfl rfl rfl
  | succ fu ih =>
    intro x i S hi h1 h40 ht hG
    refine z_iload_4 dX7_leastOf_9 ?_
    refine z_iload_2 dX7_leastOf_11 ?_
    refine z_icmpN_gt_f (tgt := 32) dX7_leastOf_12 (by decide) (x := i) (z := t) (by first | omega | assumption) (by first | omega | assumption) (by omega) ?_
    refine z_iload_3 dX7_leastOf_15 ?_
    refine z_aload_0 dX7_leastOf_16 ?_
    refine z_iload_4 dX7_leastOf_17 ?_
    refine Z.call0s (zRun.V (ρ := fun i => i) (k_m_valueG n i S h1 h40 (by first | omega | assumption) hG) dX7_leastOf_19 zy_X7_value zm_X7_120 rfl rfl rfl rfl (Nat.le_of_ble_eq_true rfl) (by decide) (by decide)) (zlen2 14 rfl rfl) ?_
    refine z_mn dX7_leastOf_22 zm_X7_130 (by decide) (Nat.le_of_ble_eq_true rfl) ?_
    refine z_topi (w := zmin (x) ((g_m_valueG n i S))) rfl ?_
    refine z_istore_3 dX7_leastOf_25 rfl (by decide) ?_
    refine z_iinc_4 (v := nI (i + 1)) dX7_leastOf_26 (nI_add _ 1) rfl (by decide) ?_
    refine z_goto (tgt := 9) dX7_leastOf_29 (by decide) ?_
    rw [g_m_leastOf_L]
    exact ih (zmin (x) ((g_m_valueG n i S))) (i + 1) S (by first | omega | assumption) (by first | omega | assumption) (by first | omega | assumption) (by first | omega | assumption) hG
noncomputable def g_m_leastOf (n : Nat) (f : Nat) (t : Nat) (S : ZS) : Int32 × ZS := g_m_leastOf_L n f t (t + 1 - f) ((g_m_value n f S).1) f (g_m_grows n S)
theorem k_m_leastOf (n : Nat) (f : Nat) (t : Nat) (S : ZS) (h1 : 1 ≤ n) (h40 : n ≤ 40) (hft : f ≤ t) (ht : t < n) (hO : mOK n S) : zM sc yX7_leastOf cX7_leastOf 5 (some .int) 2 0 0 [.ref 0, .int (nI (f)), .int (nI (t))] (mh S) (.inl (some (.int (g_m_leastOf n f t S).1))) (mh (g_m_leastOf n f t S).2) := by
  refine zM.at (ls := [some (.ref 0), some (.int (nI (f))), some (.int (nI (t))), none, none]) zy_X7_leastOf.2.2.2.2.2 (Nat.le_of_ble_eq_true rfl) rfl ?_
  refine z_aload_0 dX7_leastOf_0 ?_
  refine z_iload_1 dX7_leastOf_1 ?_
  refine Z.call0s (zRun.V (ρ := fun i => i) (k_m_value n f S h1 h40 (by first | omega | assumption) hO) dX7_leastOf_2 zy_X7_value zm_X7_120 rfl rfl rfl rfl (Nat.le_of_ble_eq_true rfl) (by decide) (by decide)) (zlen2 14 rfl rfl) ?_
  refine Z.heap (h2 := mh (g_m_grows n S)) (by rw [g_m_value_2]) ?_
  refine z_istore_3 dX7_leastOf_5 rfl (by decide) ?_
  refine z_iload_1 dX7_leastOf_6 ?_
  refine z_istore_4 dX7_leastOf_7 rfl (by decide) ?_
  rw [g_m_leastOf]
  exact l_g_m_leastOf_L n f t (t + 1 - f) ((g_m_value n f S).1) f (g_m_grows n S) (by first | omega | assumption) (by first | omega | assumption) (by first | omega | assumption) (by first | omega | assumption) (mGr_of h1 h40 hO)
noncomputable def g_m_greatestOf_L (n : Nat) (f : Nat) (t : Nat) : Nat → Int32 → Nat → ZS → Int32 × ZS
  | 0, x, _, S => (x, S)
  | fu + 1, x, i, S => g_m_greatestOf_L n f t fu (zmax (x) ((g_m_valueG n i S))) (i + 1) S
theorem l_g_m_greatestOf_L (n : Nat) (f : Nat) (t : Nat) : ∀ (fu : Nat) (x : Int32) (i : Nat) (S : ZS) , (i + fu = t + 1) → (1 ≤ n) → (n ≤ 40) → (t < n) → (mGr n S) → Z sc yX7_greatestOf cX7_greatestOf 5 (some .int) 2 0 0 9 [some (.ref 0), some (.int (nI (f))), some (.int (nI (t))), some (.int (x)), some (.int (nI (i)))] [] (mh S) (.inl (some (.int (g_m_greatestOf_L n f t fu x i S).1))) (mh (g_m_greatestOf_L n f t fu x i S).2) := by
  intro fu
  induction fu with
  | zero =>
    intro x i S hi h1 h40 ht hG
    refine z_iload_4 dX7_greatestOf_9 ?_
    refine z_iload_2 dX7_greatestOf_11 ?_
    refine z_icmpN_gt_t (tgt := 32) dX7_greatestOf_12 (by decide) (x := i) (z := t) (by first | omega | assumption) (by first | omega | assumption) (by omega) ?_
    refine z_iload_3 dX7_greatestOf_32 ?_
    rw [g_m_greatestOf_L]
    exact z_iret dX7_greatestOf_33 rfl rfl rfl rfl
  | succ fu ih =>
    intro x i S hi h1 h40 ht hG
    refine z_iload_4 dX7_greatestOf_9 ?_
    refine z_iload_2 dX7_greatestOf_11 ?_
    refine z_icmpN_gt_f (tgt := 32) dX7_greatestOf_12 (by decide) (x := i) (z := t) (by first | omega | assumption) (by first | omega | assumption) (by omega) ?_
    refine z_iload_3 dX7_greatestOf_15 ?_
    refine z_aload_0 dX7_greatestOf_16 ?_
    refine z_iload_4 dX7_greatestOf_17 ?_
    refine Z.call0s (zRun.V (ρ := fun i => i) (k_m_valueG n i S h1 h40 (by first | omega | assumption) hG) dX7_greatestOf_19 zy_X7_value zm_X7_120 rfl rfl rfl rfl (Nat.le_of_ble_eq_true rfl) (by decide) (by decide)) (zlen2 14 rfl rfl) ?_
    refine z_mx dX7_greatestOf_22 zm_X7_135 (by decide) (Nat.le_of_ble_eq_true rfl) ?_
    refine z_topi (w := zmax (x) ((g_m_valueG n i S))) rfl ?_
    refine z_istore_3 dX7_greatestOf_25 rfl (by decide) ?_
    refine z_iinc_4 (v := nI (i + 1)) dX7_greatestOf_26 (nI_add _ 1) rfl (by decide) ?_
    refine z_goto (tgt := 9) dX7_greatestOf_29 (by decide) ?_
    rw [g_m_greatestOf_L]
    exact ih (zmax (x) ((g_m_valueG n i S))) (i + 1) S (by first | omega | assumption) (by first | omega | assumption) (by first | omega | assumption) (by first | omega | assumption) hG
noncomputable def g_m_greatestOf (n : Nat) (f : Nat) (t : Nat) (S : ZS) : Int32 × ZS := g_m_greatestOf_L n f t (t + 1 - f) ((g_m_value n f S).1) f (g_m_grows n S)
theorem k_m_greatestOf (n : Nat) (f : Nat) (t : Nat) (S : ZS) (h1 : 1 ≤ n) (h40 : n ≤ 40) (hft : f ≤ t) (ht : t < n) (hO : mOK n S) : zM sc yX7_greatestOf cX7_greatestOf 5 (some .int) 2 0 0 [.ref 0, .int (nI (f)), .int (nI (t))] (mh S) (.inl (some (.int (g_m_greatestOf n f t S).1))) (mh (g_m_greatestOf n f t S).2) := by
  refine zM.at (ls := [some (.ref 0), some (.int (nI (f))), some (.int (nI (t))), none, none]) zy_X7_greatestOf.2.2.2.2.2 (Nat.le_of_ble_eq_true rfl) rfl ?_
  refine z_aload_0 dX7_greatestOf_0 ?_
  refine z_iload_1 dX7_greatestOf_1 ?_
  refine Z.call0s (zRun.V (ρ := fun i => i) (k_m_value n f S h1 h40 (by first | omega | assumption) hO) dX7_greatestOf_2 zy_X7_value zm_X7_120 rfl rfl rfl rfl (Nat.le_of_ble_eq_true rfl) (by decide) (by decide)) (zlen2 14 rfl rfl) ?_
  refine Z.heap (h2 := mh (g_m_grows n S)) (by rw [g_m_value_2]) ?_
  refine z_istore_3 dX7_greatestOf_5 rfl (by decide) ?_
  refine z_iload_1 dX7_greatestOf_6 ?_
  refine z_istore_4 dX7_greatestOf_7 rfl (by decide) ?_
  rw [g_m_greatestOf]
  exact l_g_m_greatestOf_L n f t (t + 1 - f) ((g_m_value n f S).1) f (g_m_grows n S) (by first | omega | assumption) (by first | omega | assumption) (by first | omega | assumption) (by first | omega | assumption) (mGr_of h1 h40 hO)
noncomputable def g_m_many_L (n : Nat) (f : Nat) (t : Nat) (v : Int32) : Nat → Nat → Nat → ZS → Nat × ZS
  | 0, c, _, S => (c, S)
  | fu + 1, c, i, S => (if (g_m_valueG n i S) = v then g_m_many_L n f t v fu (c + 1) (i + 1) S else g_m_many_L n f t v fu (c + 0) (i + 1) S)
theorem l_g_m_many_L (n : Nat) (f : Nat) (t : Nat) (v : Int32) : ∀ (fu : Nat) (c : Nat) (i : Nat) (S : ZS) , (i + fu = t + 1) → (c + fu < 2 ^ 31) → (1 ≤ n) → (n ≤ 40) → (t < n) → (mGr n S) → Z sc yX7_many cX7_many 6 (some .int) 2 0 0 6 [some (.ref 0), some (.int (nI (f))), some (.int (nI (t))), some (.int (v)), some (.int (nI (c))), some (.int (nI (i)))] [] (mh S) (.inl (some (.int (nI (g_m_many_L n f t v fu c i S).1)))) (mh (g_m_many_L n f t v fu c i S).2) := by
  intro fu
  induction fu with
  | zero =>
    intro c i S hi hcc h1 h40 ht hG
    refine z_iload_5 dX7_many_6 ?_
    refine z_iload_2 dX7_many_8 ?_
    refine z_icmpN_gt_t (tgt := 38) dX7_many_9 (by decide) (x := i) (z := t) (by first | omega | assumption) (by first | omega | assumption) (by omega) ?_
    refine z_iload_4 dX7_many_38 ?_
    rw [g_m_many_L]
    exact z_iret dX7_many_40 rfl rfl rfl rfl
  | succ fu ih =>
    intro c i S hi hcc h1 h40 ht hG
    refine z_iload_5 dX7_many_6 ?_
    refine z_iload_2 dX7_many_8 ?_
    refine z_icmpN_gt_f (tgt := 38) dX7_many_9 (by decide) (x := i) (z := t) (by first | omega | assumption) (by first | omega | assumption) (by omega) ?_
    refine z_iload_4 dX7_many_12 ?_
    refine z_aload_0 dX7_many_14 ?_
    refine z_iload_5 dX7_many_15 ?_
    refine Z.call0s (zRun.V (ρ := fun i => i) (k_m_valueG n i S h1 h40 (by first | omega | assumption) hG) dX7_many_17 zy_X7_value zm_X7_120 rfl rfl rfl rfl (Nat.le_of_ble_eq_true rfl) (by decide) (by decide)) (zlen2 14 rfl rfl) ?_
    refine z_iload_3 dX7_many_20 ?_
    refine z_icmp_ne (tgt := 28) dX7_many_21 (by decide) (fun c21 => ?_) (fun c21 => ?_)
    · refine z_iconst (v := 0) dX7_many_28 rfl ?_
      refine z_iadd dX7_many_29 ?_
      refine z_topi (w := nI (c + 0)) (nI_add _ _) ?_
      refine z_istore_4 dX7_many_30 rfl (by decide) ?_
      refine z_iinc_5 (v := nI (i + 1)) dX7_many_32 (nI_add _ 1) rfl (by decide) ?_
      refine z_goto (tgt := 6) dX7_many_35 (by decide) ?_
      rw [g_m_many_L, if_neg c21]
      exact ih (c + 0) (i + 1) S (by first | omega | assumption) (by first | omega | assumption) (by first | omega | assumption) (by first | omega | assumption) (by first | omega | assumption) hG
    · refine z_iconst (v := 1) dX7_many_24 rfl ?_
      refine z_goto (tgt := 29) dX7_many_25 (by decide) ?_
      refine z_iadd dX7_many_29 ?_
      refine z_topi (w := nI (c + 1)) (nI_add _ _) ?_
      refine z_istore_4 dX7_many_30 rfl (by decide) ?_
      refine z_iinc_5 (v := nI (i + 1)) dX7_many_32 (nI_add _ 1) rfl (by decide) ?_
      refine z_goto (tgt := 6) dX7_many_35 (by decide) ?_
      rw [g_m_many_L, if_pos c21]
      exact ih (c + 1) (i + 1) S (by first | omega | assumption) (by first | omega | assumption) (by first | omega | assumption) (by first | omega | assumption) (by first | omega | assumption) hG
noncomputable def g_m_many (n : Nat) (f : Nat) (t : Nat) (v : Int32) (S : ZS) : Nat × ZS := (if (g_m_value n f S).1 = v then g_m_many_L n f t v (t - f) 1 (f + 1) (g_m_grows n S) else g_m_many_L n f t v (t - f) 0 (f + 1) (g_m_grows n S))
theorem k_m_many (n : Nat) (f : Nat) (t : Nat) (v : Int32) (S : ZS) (h1 : 1 ≤ n) (h40 : n ≤ 40) (hft : f ≤ t) (ht : t < n) (hO : mOK n S) : zM sc yX7_many cX7_many 6 (some .int) 2 0 0 [.ref 0, .int (nI (f)), .int (nI (t)), .int (v)] (mh S) (.inl (some (.int (nI (g_m_many n f t v S).1)))) (mh (g_m_many n f t v S).2) := by
  refine zM.at (ls := [some (.ref 0), some (.int (nI (f))), some (.int (nI (t))), some (.int (v)), none, none]) zy_X7_many.2.2.2.2.2 (Nat.le_of_ble_eq_true rfl) rfl ?_
  refine z_iconst (v := 0) dX7_many_0 rfl ?_
  refine z_istore_4 dX7_many_1 rfl (by decide) ?_
  refine z_iload_1 dX7_many_3 ?_
  refine z_istore_5 dX7_many_4 rfl (by decide) ?_
  refine z_iload_5 dX7_many_6 ?_
  refine z_iload_2 dX7_many_8 ?_
  refine z_icmpN_gt_f (tgt := 38) dX7_many_9 (by decide) (x := f) (z := t) (by first | omega | assumption) (by first | omega | assumption) (by omega) ?_
  refine z_iload_4 dX7_many_12 ?_
  refine z_aload_0 dX7_many_14 ?_
  refine z_iload_5 dX7_many_15 ?_
  refine Z.call0s (zRun.V (ρ := fun i => i) (k_m_value n f S h1 h40 (by first | omega | assumption) hO) dX7_many_17 zy_X7_value zm_X7_120 rfl rfl rfl rfl (Nat.le_of_ble_eq_true rfl) (by decide) (by decide)) (zlen2 14 rfl rfl) ?_
  refine Z.heap (h2 := mh (g_m_grows n S)) (by rw [g_m_value_2]) ?_
  refine z_iload_3 dX7_many_20 ?_
  refine z_icmp_ne (tgt := 28) dX7_many_21 (by decide) (fun c21 => ?_) (fun c21 => ?_)
  · refine z_iconst (v := 0) dX7_many_28 rfl ?_
    refine z_iadd dX7_many_29 ?_
    refine z_topi (w := 0) (by decide) ?_
    refine z_istore_4 dX7_many_30 rfl (by decide) ?_
    refine z_iinc_5 (v := nI (f + 1)) dX7_many_32 (nI_add _ 1) rfl (by decide) ?_
    refine z_goto (tgt := 6) dX7_many_35 (by decide) ?_
    rw [g_m_many, if_neg c21]
    exact l_g_m_many_L n f t v (t - f) 0 (f + 1) (g_m_grows n S) (by first | omega | assumption) (by first | omega | assumption) (by first | omega | assumption) (by first | omega | assumption) (by first | omega | assumption) (mGr_of h1 h40 hO)
  · refine z_iconst (v := 1) dX7_many_24 rfl ?_
    refine z_goto (tgt := 29) dX7_many_25 (by decide) ?_
    refine z_iadd dX7_many_29 ?_
    refine z_topi (w := 1) (by decide) ?_
    refine z_istore_4 dX7_many_30 rfl (by decide) ?_
    refine z_iinc_5 (v := nI (f + 1)) dX7_many_32 (nI_add _ 1) rfl (by decide) ?_
    refine z_goto (tgt := 6) dX7_many_35 (by decide) ?_
    rw [g_m_many, if_pos c21]
    exact l_g_m_many_L n f t v (t - f) 1 (f + 1) (g_m_grows n S) (by first | omega | assumption) (by first | omega | assumption) (by first | omega | assumption) (by first | omega | assumption) (by first | omega | assumption) (mGr_of h1 h40 hO)
noncomputable def g_m_firstOf_L (n : Nat) (f : Nat) (t : Nat) (v : Int32) : Nat → Nat → ZS → Int32 × ZS
  | 0, _, S => ((-1), S)
  | fu + 1, i, S => (if (g_m_valueG n i S) = v then (nI (i), S) else g_m_firstOf_L n f t v fu (i + 1) S)
theorem l_g_m_firstOf_L (n : Nat) (f : Nat) (t : Nat) (v : Int32) : ∀ (fu : Nat) (i : Nat) (S : ZS) , (i + fu = t + 1) → (1 ≤ n) → (n ≤ 40) → (t < n) → (mGr n S) → Z sc yX7_firstOf cX7_firstOf 5 (some .int) 2 0 0 3 [some (.ref 0), some (.int (nI (f))), some (.int (nI (t))), some (.int (v)), some (.int (nI (i)))] [] (mh S) (.inl (some (.int (g_m_firstOf_L n f t v fu i S).1))) (mh (g_m_firstOf_L n f t v fu i S).2) := by
  intro fu
  induction fu with
  | zero =>
    intro i S hi h1 h40 ht hG
    refine z_iload_4 dX7_firstOf_3 ?_
    refine z_iload_2 dX7_firstOf_5 ?_
    refine z_icmpN_gt_t (tgt := 28) dX7_firstOf_6 (by decide) (x := i) (z := t) (by first | omega | assumption) (by first | omega | assumption) (by omega) ?_
    refine z_iconst (v := (-1)) dX7_firstOf_28 rfl ?_
    rw [g_m_firstOf_L]
    exact z_iret dX7_firstOf_29 rfl rfl rfl rfl
  | succ fu ih =>
    intro i S hi h1 h40 ht hG
    refine z_iload_4 dX7_firstOf_3 ?_
    refine z_iload_2 dX7_firstOf_5 ?_
    refine z_icmpN_gt_f (tgt := 28) dX7_firstOf_6 (by decide) (x := i) (z := t) (by first | omega | assumption) (by first | omega | assumption) (by omega) ?_
    refine z_aload_0 dX7_firstOf_9 ?_
    refine z_iload_4 dX7_firstOf_10 ?_
    refine Z.call0s (zRun.V (ρ := fun i => i) (k_m_valueG n i S h1 h40 (by first | omega | assumption) hG) dX7_firstOf_12 zy_X7_value zm_X7_120 rfl rfl rfl rfl (Nat.le_of_ble_eq_true rfl) (by decide) (by decide)) (zlen2 14 rfl rfl) ?_
    refine z_iload_3 dX7_firstOf_15 ?_
    refine z_icmp_ne (tgt := 22) dX7_firstOf_16 (by decide) (fun c16 => ?_) (fun c16 => ?_)
    · refine z_iinc_4 (v := nI (i + 1)) dX7_firstOf_22 (nI_add _ 1) rfl (by decide) ?_
      refine z_goto (tgt := 3) dX7_firstOf_25 (by decide) ?_
      rw [g_m_firstOf_L, if_neg c16]
      exact ih (i + 1) S (by first | omega | assumption) (by first | omega | assumption) (by first | omega | assumption) (by first | omega | assumption) hG
    · refine z_iload_4 dX7_firstOf_19 ?_
      rw [g_m_firstOf_L, if_pos c16]
      exact z_iret dX7_firstOf_21 rfl rfl rfl rfl
noncomputable def g_m_firstOf (n : Nat) (f : Nat) (t : Nat) (v : Int32) (S : ZS) : Int32 × ZS := (if (g_m_value n f S).1 = v then (nI (f), (g_m_grows n S)) else g_m_firstOf_L n f t v (t - f) (f + 1) (g_m_grows n S))
theorem k_m_firstOf (n : Nat) (f : Nat) (t : Nat) (v : Int32) (S : ZS) (h1 : 1 ≤ n) (h40 : n ≤ 40) (hft : f ≤ t) (ht : t < n) (hO : mOK n S) : zM sc yX7_firstOf cX7_firstOf 5 (some .int) 2 0 0 [.ref 0, .int (nI (f)), .int (nI (t)), .int (v)] (mh S) (.inl (some (.int (g_m_firstOf n f t v S).1))) (mh (g_m_firstOf n f t v S).2) := by
  refine zM.at (ls := [some (.ref 0), some (.int (nI (f))), some (.int (nI (t))), some (.int (v)), none]) zy_X7_firstOf.2.2.2.2.2 (Nat.le_of_ble_eq_true rfl) rfl ?_
  refine z_iload_1 dX7_firstOf_0 ?_
  refine z_istore_4 dX7_firstOf_1 rfl (by decide) ?_
  refine z_iload_4 dX7_firstOf_3 ?_
  refine z_iload_2 dX7_firstOf_5 ?_
  refine z_icmpN_gt_f (tgt := 28) dX7_firstOf_6 (by decide) (x := f) (z := t) (by first | omega | assumption) (by first | omega | assumption) (by omega) ?_
  refine z_aload_0 dX7_firstOf_9 ?_
  refine z_iload_4 dX7_firstOf_10 ?_
  refine Z.call0s (zRun.V (ρ := fun i => i) (k_m_value n f S h1 h40 (by first | omega | assumption) hO) dX7_firstOf_12 zy_X7_value zm_X7_120 rfl rfl rfl rfl (Nat.le_of_ble_eq_true rfl) (by decide) (by decide)) (zlen2 14 rfl rfl) ?_
  refine Z.heap (h2 := mh (g_m_grows n S)) (by rw [g_m_value_2]) ?_
  refine z_iload_3 dX7_firstOf_15 ?_
  refine z_icmp_ne (tgt := 22) dX7_firstOf_16 (by decide) (fun c16 => ?_) (fun c16 => ?_)
  · refine z_iinc_4 (v := nI (f + 1)) dX7_firstOf_22 (nI_add _ 1) rfl (by decide) ?_
    refine z_goto (tgt := 3) dX7_firstOf_25 (by decide) ?_
    rw [g_m_firstOf, if_neg c16]
    exact l_g_m_firstOf_L n f t v (t - f) (f + 1) (g_m_grows n S) (by first | omega | assumption) (by first | omega | assumption) (by first | omega | assumption) (by first | omega | assumption) (mGr_of h1 h40 hO)
  · refine z_iload_4 dX7_firstOf_19 ?_
    rw [g_m_firstOf, if_pos c16]
    exact z_iret dX7_firstOf_21 rfl rfl rfl rfl
noncomputable def g_m_sumOf_L (n : Nat) (f : Nat) (t : Nat) : Nat → Int64 → Nat → ZS → Int64 × ZS
  | 0, s, _, S => (s, S)
  | fu + 1, s, i, S => g_m_sumOf_L n f t fu (s + (((g_m_valueG n i S)).toInt64)) (i + 1) S
theorem l_g_m_sumOf_L (n : Nat) (f : Nat) (t : Nat) : ∀ (fu : Nat) (s : Int64) (i : Nat) (S : ZS) , (i + fu = t + 1) → (1 ≤ n) → (n ≤ 40) → (t < n) → (mGr n S) → Z sc yX7_sumOf cX7_sumOf 6 (some .long) 2 0 0 5 [some (.ref 0), some (.int (nI (f))), some (.int (nI (t))), some (.long (s)), none, some (.int (nI (i)))] [] (mh S) (.inl (some (.long (g_m_sumOf_L n f t fu s i S).1))) (mh (g_m_sumOf_L n f t fu s i S).2) := by
  intro fu
  induction fu with
  | zero =>
    intro s i S hi h1 h40 ht hG
    refine z_iload_5 dX7_sumOf_5 ?_
    refine z_iload_2 dX7_sumOf_7 ?_
    refine z_icmpN_gt_t (tgt := 27) dX7_sumOf_8 (by decide) (x := i) (z := t) (by first | omega | assumption) (by first | omega | assumption) (by omega) ?_
    refine z_lload_3 dX7_sumOf_27 ?_
    rw [g_m_sumOf_L]
    exact z_lret dX7_sumOf_28 rfl rfl rfl
  | succ fu ih =>
    intro s i S hi h1 h40 ht hG
    refine z_iload_5 dX7_sumOf_5 ?_
    refine z_iload_2 dX7_sumOf_7 ?_
    refine z_icmpN_gt_f (tgt := 27) dX7_sumOf_8 (by decide) (x := i) (z := t) (by first | omega | assumption) (by first | omega | assumption) (by omega) ?_
    refine z_lload_3 dX7_sumOf_11 ?_
    refine z_aload_0 dX7_sumOf_12 ?_
    refine z_iload_5 dX7_sumOf_13 ?_
    refine Z.call0s (zRun.V (ρ := fun i => i) (k_m_valueG n i S h1 h40 (by first | omega | assumption) hG) dX7_sumOf_15 zy_X7_value zm_X7_120 rfl rfl rfl rfl (Nat.le_of_ble_eq_true rfl) (by decide) (by decide)) (zlen2 14 rfl rfl) ?_
    refine z_i2l dX7_sumOf_18 ?_
    refine z_ladd dX7_sumOf_19 ?_
    refine z_lstore_3 dX7_sumOf_20 rfl (by decide) ?_
    refine z_iinc_5 (v := nI (i + 1)) dX7_sumOf_21 (nI_add _ 1) rfl (by decide) ?_
    refine z_goto (tgt := 5) dX7_sumOf_24 (by decide) ?_
    rw [g_m_sumOf_L]
    exact ih (s + (((g_m_valueG n i S)).toInt64)) (i + 1) S (by first | omega | assumption) (by first | omega | assumption) (by first | omega | assumption) (by first | omega | assumption) hG
noncomputable def g_m_sumOf (n : Nat) (f : Nat) (t : Nat) (S : ZS) : Int64 × ZS := g_m_sumOf_L n f t (t - f) (0 + (((g_m_value n f S).1).toInt64)) (f + 1) (g_m_grows n S)
theorem k_m_sumOf (n : Nat) (f : Nat) (t : Nat) (S : ZS) (h1 : 1 ≤ n) (h40 : n ≤ 40) (hft : f ≤ t) (ht : t < n) (hO : mOK n S) : zM sc yX7_sumOf cX7_sumOf 6 (some .long) 2 0 0 [.ref 0, .int (nI (f)), .int (nI (t))] (mh S) (.inl (some (.long (g_m_sumOf n f t S).1))) (mh (g_m_sumOf n f t S).2) := by
  refine zM.at (ls := [some (.ref 0), some (.int (nI (f))), some (.int (nI (t))), none, none, none]) zy_X7_sumOf.2.2.2.2.2 (Nat.le_of_ble_eq_true rfl) rfl ?_
  refine z_lconst (v := 0) dX7_sumOf_0 rfl ?_
  refine z_lstore_3 dX7_sumOf_1 rfl (by decide) ?_
  refine z_iload_1 dX7_sumOf_2 ?_
  refine z_istore_5 dX7_sumOf_3 rfl (by decide) ?_
  refine z_iload_5 dX7_sumOf_5 ?_
  refine z_iload_2 dX7_sumOf_7 ?_
  refine z_icmpN_gt_f (tgt := 27) dX7_sumOf_8 (by decide) (x := f) (z := t) (by first | omega | assumption) (by first | omega | assumption) (by omega) ?_
  refine z_lload_3 dX7_sumOf_11 ?_
  refine z_aload_0 dX7_sumOf_12 ?_
  refine z_iload_5 dX7_sumOf_13 ?_
  refine Z.call0s (zRun.V (ρ := fun i => i) (k_m_value n f S h1 h40 (by first | omega | assumption) hO) dX7_sumOf_15 zy_X7_value zm_X7_120 rfl rfl rfl rfl (Nat.le_of_ble_eq_true rfl) (by decide) (by decide)) (zlen2 14 rfl rfl) ?_
  refine Z.heap (h2 := mh (g_m_grows n S)) (by rw [g_m_value_2]) ?_
  refine z_i2l dX7_sumOf_18 ?_
  refine z_ladd dX7_sumOf_19 ?_
  refine z_lstore_3 dX7_sumOf_20 rfl (by decide) ?_
  refine z_iinc_5 (v := nI (f + 1)) dX7_sumOf_21 (nI_add _ 1) rfl (by decide) ?_
  refine z_goto (tgt := 5) dX7_sumOf_24 (by decide) ?_
  rw [g_m_sumOf]
  exact l_g_m_sumOf_L n f t (t - f) (0 + (((g_m_value n f S).1).toInt64)) (f + 1) (g_m_grows n S) (by first | omega | assumption) (by first | omega | assumption) (by first | omega | assumption) (by first | omega | assumption) (mGr_of h1 h40 hO)
theorem leastOf_L2 (n : Nat) (f : Nat) (t : Nat) : ∀ (fu : Nat) (x : Int32) (i : Nat) (S : ZS), (g_m_leastOf_L n f t fu x i S).2 = S := by
  intro fu
  induction fu with
  | zero => intros; rfl
  | succ fu ih =>
    intros
    rw [g_m_leastOf_L]
    repeat' split
    all_goals first | rfl | apply ih
theorem leastOf_2 (n : Nat) (f : Nat) (t : Nat) (S : ZS) : (g_m_leastOf n f t S).2 = g_m_grows n S := by
  rw [g_m_leastOf]
  repeat' split
  all_goals first | rfl | apply leastOf_L2
theorem greatestOf_L2 (n : Nat) (f : Nat) (t : Nat) : ∀ (fu : Nat) (x : Int32) (i : Nat) (S : ZS), (g_m_greatestOf_L n f t fu x i S).2 = S := by
  intro fu
  induction fu with
  | zero => intros; rfl
  | succ fu ih =>
    intros
    rw [g_m_greatestOf_L]
    repeat' split
    all_goals first | rfl | apply ih
theorem greatestOf_2 (n : Nat) (f : Nat) (t : Nat) (S : ZS) : (g_m_greatestOf n f t S).2 = g_m_grows n S := by
  rw [g_m_greatestOf]
  repeat' split
  all_goals first | rfl | apply greatestOf_L2
theorem many_L2 (n : Nat) (f : Nat) (t : Nat) (v : Int32) : ∀ (fu : Nat) (c i : Nat) (S : ZS), (g_m_many_L n f t v fu c i S).2 = S := by
  intro fu
  induction fu with
  | zero => intros; rfl
  | succ fu ih =>
    intros
    rw [g_m_many_L]
    repeat' split
    all_goals first | rfl | apply ih
theorem many_2 (n : Nat) (f : Nat) (t : Nat) (v : Int32) (S : ZS) : (g_m_many n f t v S).2 = g_m_grows n S := by
  rw [g_m_many]
  repeat' split
  all_goals first | rfl | apply many_L2
theorem firstOf_L2 (n : Nat) (f : Nat) (t : Nat) (v : Int32) : ∀ (fu : Nat) (i : Nat) (S : ZS), (g_m_firstOf_L n f t v fu i S).2 = S := by
  intro fu
  induction fu with
  | zero => intros; rfl
  | succ fu ih =>
    intros
    rw [g_m_firstOf_L]
    repeat' split
    all_goals first | rfl | apply ih
theorem firstOf_2 (n : Nat) (f : Nat) (t : Nat) (v : Int32) (S : ZS) : (g_m_firstOf n f t v S).2 = g_m_grows n S := by
  rw [g_m_firstOf]
  repeat' split
  all_goals first | rfl | apply firstOf_L2
theorem sumOf_L2 (n : Nat) (f : Nat) (t : Nat) : ∀ (fu : Nat) (s : Int64) (i : Nat) (S : ZS), (g_m_sumOf_L n f t fu s i S).2 = S := by
  intro fu
  induction fu with
  | zero => intros; rfl
  | succ fu ih =>
    intros
    rw [g_m_sumOf_L]
    repeat' split
    all_goals first | rfl | apply ih
theorem sumOf_2 (n : Nat) (f : Nat) (t : Nat) (S : ZS) : (g_m_sumOf n f t S).2 = g_m_grows n S := by
  rw [g_m_sumOf]
  repeat' split
  all_goals first | rfl | apply sumOf_L2
noncomputable def g_m_fits (n : Nat) (f : Nat) (t : Nat) (a : Int32) (S : ZS) : Bool × ZS := (if ((g_m_leastOf n f t S).1) + a < (-1000000) then (false, (g_m_grows n S)) else (if 1000000 < ((g_m_greatestOf n f t (g_m_grows n S)).1) + a then (false, (g_m_grows n S)) else (true, (g_m_grows n S))))
theorem k_m_fits (n : Nat) (f : Nat) (t : Nat) (a : Int32) (S : ZS) (h1 : 1 ≤ n) (h40 : n ≤ 40) (hft : f ≤ t) (ht : t < n) (hO : mOK n S) : zM sc yX7_fits cX7_fits 4 (some .boolean) 3 0 0 [.ref 0, .int (nI (f)), .int (nI (t)), .int (a)] (mh S) (.inl (some (.int (zb (g_m_fits n f t a S).1)))) (mh (g_m_fits n f t a S).2) := by
  refine zM.at (ls := [some (.ref 0), some (.int (nI (f))), some (.int (nI (t))), some (.int (a))]) zy_X7_fits.2.2.2.2.2 (Nat.le_of_ble_eq_true rfl) rfl ?_
  refine z_aload_0 dX7_fits_0 ?_
  refine z_iload_1 dX7_fits_1 ?_
  refine z_iload_2 dX7_fits_2 ?_
  refine Z.call0s (zRun.V (ρ := fun i => i) (k_m_leastOf n f t S h1 h40 hft ht hO) dX7_fits_3 zy_X7_leastOf zm_X7_138 rfl rfl rfl rfl (Nat.le_of_ble_eq_true rfl) (by decide) (by decide)) (zlen2 14 rfl rfl) ?_
  refine Z.heap (h2 := mh (g_m_grows n S)) (by rw [leastOf_2]) ?_
  refine z_iload_3 dX7_fits_6 ?_
  refine z_iadd dX7_fits_7 ?_
  refine z_ldc (v := (-1000000)) dX7_fits_8 zk_X7_141 ?_
  refine z_icmp_lt (tgt := 30) dX7_fits_10 (by decide) (fun c10 => ?_) (fun c10 => ?_)
  · refine z_iconst (v := 0) dX7_fits_30 rfl ?_
    rw [g_m_fits, if_pos c10]
    exact z_iret dX7_fits_31 rfl rfl rfl rfl
  · refine z_aload_0 dX7_fits_13 ?_
    refine z_iload_1 dX7_fits_14 ?_
    refine z_iload_2 dX7_fits_15 ?_
    refine Z.call0s (zRun.V (ρ := fun i => i) (k_m_greatestOf n f t (g_m_grows n S) h1 h40 hft ht ((mGr_of h1 h40 hO).ok)) dX7_fits_16 zy_X7_greatestOf zm_X7_142 rfl rfl rfl rfl (Nat.le_of_ble_eq_true rfl) (by decide) (by decide)) (zlen2 14 rfl rfl) ?_
    refine Z.heap (h2 := mh (g_m_grows n S)) (by rw [greatestOf_2, (mGr_of h1 h40 hO).grows]) ?_
    refine z_iload_3 dX7_fits_19 ?_
    refine z_iadd dX7_fits_20 ?_
    refine z_ldc (v := 1000000) dX7_fits_21 zk_X7_145 ?_
    refine z_icmp_gt (tgt := 30) dX7_fits_23 (by decide) (fun c23 => ?_) (fun c23 => ?_)
    · refine z_iconst (v := 0) dX7_fits_30 rfl ?_
      rw [g_m_fits, if_neg c10, if_pos c23]
      exact z_iret dX7_fits_31 rfl rfl rfl rfl
    · refine z_iconst (v := 1) dX7_fits_26 rfl ?_
      refine z_goto (tgt := 31) dX7_fits_27 (by decide) ?_
      rw [g_m_fits, if_neg c10, if_neg c23]
      exact z_iret dX7_fits_31 rfl rfl rfl rfl
noncomputable def g_m_isIndex (x : Int32) (S : ZS) : Bool := (g_m_in (x) (0) ((S.2 0 (0)) - 1))
theorem k_m_isIndex (x : Int32) (S : ZS)  : zM sc yX7_isIndex cX7_isIndex 2 (some .boolean) 1 0 0 [.ref 0, .int (x)] (mh S) (.inl (some (.int (zb (g_m_isIndex x S))))) (mh S) := by
  refine zM.at (ls := [some (.ref 0), some (.int (x))]) zy_X7_isIndex.2.2.2.2.2 (Nat.le_of_ble_eq_true rfl) rfl ?_
  refine z_iload_1 dX7_isIndex_0 ?_
  refine z_iconst (v := 0) dX7_isIndex_1 rfl ?_
  refine z_aload_0 dX7_isIndex_2 ?_
  refine z_get (k := 0) (v := .ref 1) dX7_isIndex_3 rfl rfl rfl (by decide) zf_X7_7 zw_in7 ?_
  refine z_iconst (v := 0) dX7_isIndex_6 rfl ?_
  refine z_ialdN (k := 0) dX7_isIndex_7 rfl (by first | omega | assumption) (by decide) ?_
  refine z_topi (w := S.2 0 (0)) rfl ?_
  refine z_iconst (v := 1) dX7_isIndex_8 rfl ?_
  refine z_isub dX7_isIndex_9 ?_
  refine Z.callE (zRun.S (ρ := fun i => i) (k_m_in (x) (0) ((S.2 0 (0)) - 1) ) dX7_isIndex_10 zy_X7_in zm_X7_67 rfl rfl (Nat.le_of_ble_eq_true rfl) (by decide) (by decide)) ?_
  rw [g_m_isIndex]
  exact z_iret dX7_isIndex_13 rfl (zb_nar _) rfl rfl
noncomputable def g_m_isNone (x : Int32) (z : Int32) (S : ZS) : Bool := (if ((g_m_isIndex (x) S)) = true then (if ((g_m_isIndex (z) S)) = true then false else true) else true)
theorem k_m_isNone (x : Int32) (z : Int32) (S : ZS)  : zM sc yX7_isNone cX7_isNone 3 (some .boolean) 2 0 0 [.ref 0, .int (x), .int (z)] (mh S) (.inl (some (.int (zb (g_m_isNone x z S))))) (mh S) := by
  refine zM.at (ls := [some (.ref 0), some (.int (x)), some (.int (z))]) zy_X7_isNone.2.2.2.2.2 (Nat.le_of_ble_eq_true rfl) rfl ?_
  refine z_aload_0 dX7_isNone_0 ?_
  refine z_iload_1 dX7_isNone_1 ?_
  refine Z.call0s (zRun.V (ρ := fun i => i) (k_m_isIndex (x) S ) dX7_isNone_2 zy_X7_isIndex zm_X7_71 rfl rfl rfl rfl (Nat.le_of_ble_eq_true rfl) (by decide) (by decide)) (zlen2 14 rfl rfl) ?_
  refine z_ifB_eq (tgt := 16) dX7_isNone_5 (by decide) (fun c5 => ?_) (fun c5 => ?_)
  · refine z_iconst (v := 1) dX7_isNone_16 rfl ?_
    refine z_goto (tgt := 21) dX7_isNone_17 (by decide) ?_
    rw [g_m_isNone, if_neg c5]
    exact z_iret dX7_isNone_21 rfl rfl rfl rfl
  · refine z_aload_0 dX7_isNone_8 ?_
    refine z_iload_2 dX7_isNone_9 ?_
    refine Z.call0s (zRun.V (ρ := fun i => i) (k_m_isIndex (z) S ) dX7_isNone_10 zy_X7_isIndex zm_X7_71 rfl rfl rfl rfl (Nat.le_of_ble_eq_true rfl) (by decide) (by decide)) (zlen2 14 rfl rfl) ?_
    refine z_ifB_ne (tgt := 20) dX7_isNone_13 (by decide) (fun c13 => ?_) (fun c13 => ?_)
    · refine z_iconst (v := 0) dX7_isNone_20 rfl ?_
      rw [g_m_isNone, if_pos c5, if_pos c13]
      exact z_iret dX7_isNone_21 rfl rfl rfl rfl
    · refine z_iconst (v := 1) dX7_isNone_16 rfl ?_
      refine z_goto (tgt := 21) dX7_isNone_17 (by decide) ?_
      rw [g_m_isNone, if_pos c5, if_neg c13]
      exact z_iret dX7_isNone_21 rfl rfl rfl rfl
noncomputable def g_m_throwsRange (x : Int32) (z : Int32) (S : ZS) : Bool × ZS := (if x ≤ z then ((g_m_throwsOne_ ((g_m_isNone (x) (z) S)) (false) S).1, (g_m_throwsOne_ ((g_m_isNone (x) (z) S)) (false) S).2) else ((g_m_throwsOne_ ((g_m_isNone (x) (z) S)) (true) S).1, (g_m_throwsOne_ ((g_m_isNone (x) (z) S)) (true) S).2))
theorem k_m_throwsRange (x : Int32) (z : Int32) (S : ZS)  : zM sc yX7_throwsRange cX7_throwsRange 3 (some .boolean) 3 0 0 [.ref 0, .int (x), .int (z)] (mh S) (.inl (some (.int (zb (g_m_throwsRange x z S).1)))) (mh (g_m_throwsRange x z S).2) := by
  refine zM.at (ls := [some (.ref 0), some (.int (x)), some (.int (z))]) zy_X7_throwsRange.2.2.2.2.2 (Nat.le_of_ble_eq_true rfl) rfl ?_
  refine z_aload_0 dX7_throwsRange_0 ?_
  refine z_aload_0 dX7_throwsRange_1 ?_
  refine z_iload_1 dX7_throwsRange_2 ?_
  refine z_iload_2 dX7_throwsRange_3 ?_
  refine Z.call0s (zRun.V (ρ := fun i => i) (k_m_isNone (x) (z) S ) dX7_throwsRange_4 zy_X7_isNone zm_X7_75 rfl rfl rfl rfl (Nat.le_of_ble_eq_true rfl) (by decide) (by decide)) (zlen2 14 rfl rfl) ?_
  refine z_iload_2 dX7_throwsRange_7 ?_
  refine z_iload_1 dX7_throwsRange_8 ?_
  refine z_icmp_ge (tgt := 16) dX7_throwsRange_9 (by decide) (fun c9 => ?_) (fun c9 => ?_)
  · refine z_iconst (v := 0) dX7_throwsRange_16 rfl ?_
    refine Z.call0s (zRun.V (ρ := fun i => i) (k_m_throwsOne_ ((g_m_isNone (x) (z) S)) (false) S ) dX7_throwsRange_17 zy_X7_throwsOne_ zm_X7_79 rfl rfl rfl rfl (Nat.le_of_ble_eq_true rfl) (by decide) (by decide)) (zlen2 14 rfl rfl) ?_
    rw [g_m_throwsRange, if_pos c9]
    exact z_iret dX7_throwsRange_20 rfl (zb_nar _) rfl rfl
  · refine z_iconst (v := 1) dX7_throwsRange_12 rfl ?_
    refine z_goto (tgt := 17) dX7_throwsRange_13 (by decide) ?_
    refine Z.call0s (zRun.V (ρ := fun i => i) (k_m_throwsOne_ ((g_m_isNone (x) (z) S)) (true) S ) dX7_throwsRange_17 zy_X7_throwsOne_ zm_X7_79 rfl rfl rfl rfl (Nat.le_of_ble_eq_true rfl) (by decide) (by decide)) (zlen2 14 rfl rfl) ?_
    rw [g_m_throwsRange, if_neg c9]
    exact z_iret dX7_throwsRange_20 rfl (zb_nar _) rfl rfl
noncomputable def g_m_isValue (x : Int32) : Bool := (g_m_in (x) ((-9999)) (9999))
theorem k_m_isValue (x : Int32)  : zM sc yX7_isValue cX7_isValue 1 (some .boolean) 1 0 0 [.int (x)] ([]) (.inl (some (.int (zb (g_m_isValue x))))) ([]) := by
  refine zM.at (ls := [some (.int (x))]) zy_X7_isValue.2.2.2.2 (Nat.le_of_ble_eq_true rfl) rfl ?_
  refine z_iload_0 dX7_isValue_0 ?_
  refine z_sipush (v := (-9999)) dX7_isValue_1 rfl ?_
  refine z_sipush (v := 9999) dX7_isValue_4 rfl ?_
  refine Z.callE (zRun.S (ρ := fun i => i) (k_m_in (x) ((-9999)) (9999) ) dX7_isValue_7 zy_X7_in zm_X7_67 rfl rfl (Nat.le_of_ble_eq_true rfl) (by decide) (by decide)) ?_
  rw [g_m_isValue]
  exact z_iret dX7_isValue_10 rfl (zb_nar _) rfl rfl
