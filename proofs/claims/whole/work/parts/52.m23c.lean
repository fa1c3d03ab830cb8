variable {sc : SC}

noncomputable def g_m_deep_L (n : Nat) (f : Nat) : Nat → Nat → Nat → ZS → Nat
  | 0, c, _, _ => c
  | fu + 1, c, m, S => (if m ≤ 0 then c else g_m_deep_L n f fu (c + 1) (m / 2) S)
theorem l_g_m_deep_L (n : Nat) (f : Nat) : ∀ (fu : Nat) (c : Nat) (m : Nat) (S : ZS) , (m < 2 ^ fu) → (m < 128) → (c + fu < 100) → Z sc yX7_deep cX7_deep 4 (some .int) 0 0 0 9 [some (.ref 0), some (.int (nI (f))), some (.int (nI (c))), some (.int (nI (m)))] [] (mh S) (.inl (some (.int (nI (g_m_deep_L n f fu c m S))))) (mh S) := by
  intro fu
  induction fu with
  | zero =>
    intro c m S hm hm7 hcc
    refine z_iload_3 dX7_deep_9 ?_
    refine z_ifN_le_t (tgt := 23) dX7_deep_10 (by decide) (x := m) (by first | omega | assumption) (by omega) ?_
    refine z_iload_2 dX7_deep_23 ?_
    rw [g_m_deep_L]
    exact z_iret dX7_deep_24 rfl (zint _) rfl rfl
  | succ fu ih =>
    intro c m S hm hm7 hcc
    refine z_iload_3 dX7_deep_9 ?_
    refine z_ifN_le (tgt := 23) dX7_deep_10 (by decide) (x := m) (by first | omega | assumption) (fun c10 => ?_) (fun c10 => ?_)
    · refine z_iload_2 dX7_deep_23 ?_
      rw [g_m_deep_L, if_pos c10]
      exact z_iret dX7_deep_24 rfl (zint _) rfl rfl
    · refine z_iinc_2 (v := nI (c + 1)) dX7_deep_13 (nI_add _ 1) rfl (by decide) ?_
      refine z_iload_3 dX7_deep_16 ?_
      refine z_iconst (v := 2) dX7_deep_17 rfl ?_
      refine z_idiv dX7_deep_18 (by decide) ?_
      refine z_topi (w := nI (m / 2)) (pk_div (by first | omega | assumption) (by decide) (by decide)) ?_
      refine z_istore_3 dX7_deep_19 rfl (by decide) ?_
      refine z_goto (tgt := 9) dX7_deep_20 (by decide) ?_
      rw [g_m_deep_L, if_neg c10]
      exact ih (c + 1) (m / 2) S (by rw [Nat.pow_succ] at hm; omega) (by first | omega | assumption) (by first | omega | assumption)
noncomputable def g_m_deep (n : Nat) (f : Nat) (S : ZS) : Nat := g_m_deep_L n f 7 0 (lf n f) S
theorem k_m_deep (n : Nat) (f : Nat) (S : ZS) (h1 : 1 ≤ n) (h40 : n ≤ 40) (hi : f < n) (hG : mGr n S) : zM sc yX7_deep cX7_deep 4 (some .int) 0 0 0 [.ref 0, .int (nI (f))] (mh S) (.inl (some (.int (nI (g_m_deep n f S))))) (mh S) := by
  refine zM.at (ls := [some (.ref 0), some (.int (nI (f))), none, none]) zy_X7_deep.2.2.2.2.2 (Nat.le_of_ble_eq_true rfl) rfl ?_
  refine z_iconst (v := 0) dX7_deep_0 rfl ?_
  refine z_istore_2 dX7_deep_1 rfl (by decide) ?_
  refine z_aload_0 dX7_deep_2 ?_
  refine z_get (k := 18) (v := .ref 11) dX7_deep_3 rfl rfl rfl (by decide) zf_X7_45 zw_in7 ?_
  refine z_iload_1 dX7_deep_6 ?_
  refine z_ialdN (k := f) dX7_deep_7 rfl (by first | omega | assumption) (by decide) ?_
  refine z_topi (w := S.2 10 (f)) rfl ?_
  refine z_topi (w := nI (lf n f)) (hG.lf (by first | omega | assumption)) ?_
  refine z_istore_3 dX7_deep_8 rfl (by decide) ?_
  rw [g_m_deep]
  exact l_g_m_deep_L n f 7 0 (lf n f) S (lf_gp h40 hi).2.2 (lf_gp h40 hi).2.2 (by first | omega | assumption)
noncomputable def g_m_depth_L (n : Nat) : Nat → Int32 → Nat → ZS → Int32 × ZS
  | 0, c, _, S => (c, S)
  | fu + 1, c, i, S => g_m_depth_L n fu (zmax (c) (nI ((g_m_deep n i S)))) (i + 1) S
theorem l_g_m_depth_L (n : Nat) : ∀ (fu : Nat) (c : Int32) (i : Nat) (S : ZS) , (1 ≤ n) → (n ≤ 40) → (i + fu = n) → (mGr n S) → Z sc yX7_depth cX7_depth 3 (some .int) 1 0 0 13 [some (.ref 0), some (.int (c)), some (.int (nI (i)))] [] (mh S) (.inl (some (.int (g_m_depth_L n fu c i S).1))) (mh (g_m_depth_L n fu c i S).2) := by
  intro fu
  induction fu with
  | zero =>
    intro c i S h1 h40 hi hG
    refine z_iload_2 dX7_depth_13 ?_
    refine z_aload_0 dX7_depth_14 ?_
    refine z_get (k := 0) (v := .ref 1) dX7_depth_15 rfl rfl rfl (by decide) zf_X7_7 zw_in7 ?_
    refine z_iconst (v := 0) dX7_depth_18 rfl ?_
    refine z_ialdN (k := 0) dX7_depth_19 rfl (by first | omega | assumption) (by decide) ?_
    refine z_topi (w := S.2 0 (0)) rfl ?_
    refine z_topi (w := nI (n)) hG.1 ?_
    refine z_icmpN_ge_t (tgt := 39) dX7_depth_20 (by decide) (x := i) (z := n) (by first | omega | assumption) (by first | omega | assumption) (by omega) ?_
    refine z_iload_1 dX7_depth_39 ?_
    rw [g_m_depth_L]
    exact z_iret dX7_depth_40 rfl (zint _) rfl rfl
  | succ fu ih =>
    intro c i S h1 h40 hi hG
    refine z_iload_2 dX7_depth_13 ?_
    refine z_aload_0 dX7_depth_14 ?_
    refine z_get (k := 0) (v := .ref 1) dX7_depth_15 rfl rfl rfl (by decide) zf_X7_7 zw_in7 ?_
    refine z_iconst (v := 0) dX7_depth_18 rfl ?_
    refine z_ialdN (k := 0) dX7_depth_19 rfl (by first | omega | assumption) (by decide) ?_
    refine z_topi (w := S.2 0 (0)) rfl ?_
    refine z_topi (w := nI (n)) hG.1 ?_
    refine z_icmpN_ge_f (tgt := 39) dX7_depth_20 (by decide) (x := i) (z := n) (by first | omega | assumption) (by first | omega | assumption) (by omega) ?_
    refine z_iload_1 dX7_depth_23 ?_
    refine z_aload_0 dX7_depth_24 ?_
    refine z_iload_2 dX7_depth_25 ?_
    refine Z.call0s (zRun.V (ρ := fun i => i) (k_m_deep n i S h1 h40 (by first | omega | assumption) hG) dX7_depth_26 zy_X7_deep zm_X7_325 rfl rfl rfl rfl (Nat.le_of_ble_eq_true rfl) (by decide) (by decide)) (zlen2 14 rfl rfl) ?_
    refine z_mx dX7_depth_29 zm_X7_135 (by decide) (Nat.le_of_ble_eq_true rfl) ?_
    refine z_topi (w := zmax (c) (nI ((g_m_deep n i S)))) rfl ?_
    refine z_istore_1 dX7_depth_32 rfl (by decide) ?_
    refine z_iinc_2 (v := nI (i + 1)) dX7_depth_33 (nI_add _ 1) rfl (by decide) ?_
    refine z_goto (tgt := 13) dX7_depth_36 (by decide) ?_
    rw [g_m_depth_L]
    exact ih (zmax (c) (nI ((g_m_deep n i S)))) (i + 1) S (by first | omega | assumption) (by first | omega | assumption) (by first | omega | assumption) hG
noncomputable def g_m_depth (n : Nat) (S : ZS) : Int32 × ZS := g_m_depth_L n n 0 0 (g_m_grows n (sI 15 (0) S))
theorem k_m_depth (n : Nat) (S : ZS) (h1 : 1 ≤ n) (h40 : n ≤ 40) (hO : mOK n S) : zM sc yX7_depth cX7_depth 3 (some .int) 1 0 0 [.ref 0] (mh S) (.inl (some (.int (g_m_depth n S).1))) (mh (g_m_depth n S).2) := by
  refine zM.at (ls := [some (.ref 0), none, none]) zy_X7_depth.2.2.2.2.2 (Nat.le_of_ble_eq_true rfl) rfl ?_
  refine z_aload_0 dX7_depth_0 ?_
  refine z_iconst (v := 0) dX7_depth_1 rfl ?_
  refine z_put (k := 15) (ty := tyX7) dX7_depth_2 rfl rfl (by decide) zf_X7_64 zw_in7 tyX7_ok nmX7 rfl (fun _ => ⟨rfl, rfl⟩) (Nat.le_of_ble_eq_true rfl) ?_
  refine Z.heap (h2 := mh (sI 15 (0) S)) rfl ?_
  refine z_aload_0 dX7_depth_5 ?_
  refine Z.call0n (zRun.V (ρ := fun i => i) (k_m_grows n (sI 15 (0) S) h1 h40 hO.1) dX7_depth_6 zy_X7_grows zm_X7_86 rfl rfl rfl rfl (Nat.le_of_ble_eq_true rfl) (by decide) (by decide)) (zlen2 14 rfl rfl) ?_
  refine z_iconst (v := 0) dX7_depth_9 rfl ?_
  refine z_istore_1 dX7_depth_10 rfl (by decide) ?_
  refine z_iconst (v := 0) dX7_depth_11 rfl ?_
  refine z_istore_2 dX7_depth_12 rfl (by decide) ?_
  rw [g_m_depth]
  exact l_g_m_depth_L n n 0 0 (g_m_grows n (sI 15 (0) S)) (by first | omega | assumption) (by first | omega | assumption) (by first | omega | assumption) (mGr_of h1 h40 (hO.sI (by decide)))
noncomputable def g_m_leafOf (n : Nat) (f : Nat) (S : ZS) : Int32 × ZS := (nI (lf n f), (sI 15 (0) (g_m_grows n S)))
theorem k_m_leafOf (n : Nat) (f : Nat) (S : ZS) (h1 : 1 ≤ n) (h40 : n ≤ 40) (hi : f < n) (hO : mOK n S) : zM sc yX7_leafOf cX7_leafOf 2 (some .int) 2 0 0 [.ref 0, .int (nI (f))] (mh S) (.inl (some (.int (g_m_leafOf n f S).1))) (mh (g_m_leafOf n f S).2) := by
  refine zM.at (ls := [some (.ref 0), some (.int (nI (f)))]) zy_X7_leafOf.2.2.2.2.2 (Nat.le_of_ble_eq_true rfl) rfl ?_
  refine z_aload_0 dX7_leafOf_0 ?_
  refine Z.call0n (zRun.V (ρ := fun i => i) (k_m_grows n S h1 h40 hO.1) dX7_leafOf_1 zy_X7_grows zm_X7_86 rfl rfl rfl rfl (Nat.le_of_ble_eq_true rfl) (by decide) (by decide)) (zlen2 14 rfl rfl) ?_
  refine z_aload_0 dX7_leafOf_4 ?_
  refine z_aload_0 dX7_leafOf_5 ?_
  refine z_iload_1 dX7_leafOf_6 ?_
  refine Z.call0s (zRun.V (ρ := fun i => i) (k_m_isIndex (nI (f)) (g_m_grows n S) ) dX7_leafOf_7 zy_X7_isIndex zm_X7_71 rfl rfl rfl rfl (Nat.le_of_ble_eq_true rfl) (by decide) (by decide)) (zlen2 14 rfl rfl) ?_
  refine z_topi (w := 1) (by rw [isIndex_ok h1 h40 (mGr_of h1 h40 hO).1 hi]; rfl) ?_
  refine z_if_ne_t (tgt := 17) dX7_leafOf_10 (by decide) (by decide) ?_
  refine z_iconst (v := 0) dX7_leafOf_17 rfl ?_
  refine Z.call0s (zRun.V (ρ := fun i => i) (k_m_throwsOne (false) (g_m_grows n S) ) dX7_leafOf_18 zy_X7_throwsOne zm_X7_284 rfl rfl rfl rfl (Nat.le_of_ble_eq_true rfl) (by decide) (by decide)) (zlen2 14 rfl rfl) ?_
  refine Z.heap (h2 := mh (sI 15 (0) (g_m_grows n S))) rfl ?_
  refine z_topi (w := 0) rfl ?_
  refine z_if_eq_t (tgt := 28) dX7_leafOf_21 (by decide) (by decide) ?_
  refine z_aload_0 dX7_leafOf_28 ?_
  refine z_get (k := 18) (v := .ref 11) dX7_leafOf_29 rfl rfl rfl (by decide) zf_X7_45 zw_in7 ?_
  refine z_iload_1 dX7_leafOf_32 ?_
  refine z_ialdN (k := f) dX7_leafOf_33 rfl (by first | omega | assumption) (by decide) ?_
  refine z_topi (w := ((g_m_grows n S)).2 10 (f)) (by rw [sI_2]) ?_
  refine z_topi (w := nI (lf n f)) ((mGr_of h1 h40 hO).lf (by first | omega | assumption)) ?_
  rw [g_m_leafOf]
  exact z_iret dX7_leafOf_34 rfl (zint _) rfl rfl
noncomputable def g_m_leafOf_x1 (n : Nat) (_x : Int32) (S : ZS) : Int32 × ZS := (0, (sI 15 (1) (g_m_grows n S)))
theorem k_m_leafOf_x1 (n : Nat) (x : Int32) (S : ZS) (h1 : 1 ≤ n) (h40 : n ≤ 40) (hx : g_m_isIndex x (g_m_grows n S) = false) (hO : mOK n S) : zM sc yX7_leafOf cX7_leafOf 2 (some .int) 2 0 0 [.ref 0, .int (x)] (mh S) (.inl (some (.int (g_m_leafOf_x1 n x S).1))) (mh (g_m_leafOf_x1 n x S).2) := by
  refine zM.at (ls := [some (.ref 0), some (.int (x))]) zy_X7_leafOf.2.2.2.2.2 (Nat.le_of_ble_eq_true rfl) rfl ?_
  refine z_aload_0 dX7_leafOf_0 ?_
  refine Z.call0n (zRun.V (ρ := fun i => i) (k_m_grows n S h1 h40 hO.1) dX7_leafOf_1 zy_X7_grows zm_X7_86 rfl rfl rfl rfl (Nat.le_of_ble_eq_true rfl) (by decide) (by decide)) (zlen2 14 rfl rfl) ?_
  refine z_aload_0 dX7_leafOf_4 ?_
  refine z_aload_0 dX7_leafOf_5 ?_
  refine z_iload_1 dX7_leafOf_6 ?_
  refine Z.call0s (zRun.V (ρ := fun i => i) (k_m_isIndex (x) (g_m_grows n S) ) dX7_leafOf_7 zy_X7_isIndex zm_X7_71 rfl rfl rfl rfl (Nat.le_of_ble_eq_true rfl) (by decide) (by decide)) (zlen2 14 rfl rfl) ?_
  refine z_topi (w := 0) (by rw [hx]; rfl) ?_
  refine z_if_ne_f (tgt := 17) dX7_leafOf_10 (by decide) (by decide) ?_
  refine z_iconst (v := 1) dX7_leafOf_13 rfl ?_
  refine z_goto (tgt := 18) dX7_leafOf_14 (by decide) ?_
  refine Z.call0s (zRun.V (ρ := fun i => i) (k_m_throwsOne (true) (g_m_grows n S) ) dX7_leafOf_18 zy_X7_throwsOne zm_X7_284 rfl rfl rfl rfl (Nat.le_of_ble_eq_true rfl) (by decide) (by decide)) (zlen2 14 rfl rfl) ?_
  refine Z.heap (h2 := mh (sI 15 (1) (g_m_grows n S))) rfl ?_
  refine z_topi (w := 1) rfl ?_
  refine z_if_eq_f (tgt := 28) dX7_leafOf_21 (by decide) (by decide) ?_
  refine z_iconst (v := 0) dX7_leafOf_24 rfl ?_
  refine z_goto (tgt := 34) dX7_leafOf_25 (by decide) ?_
  rw [g_m_leafOf_x1]
  exact z_iret dX7_leafOf_34 rfl (zint _) rfl rfl
noncomputable def g_m_marksAbove_L (n : Nat) (f : Nat) : Nat → Nat → Nat → ZS → Int32 × ZS
  | 0, c, _, S => (nI (c), S)
  | fu + 1, c, m, S => (if m ≤ 0 then (nI (c), S) else (if ((g_m_isMarked m S)) = true then g_m_marksAbove_L n f fu (c + 1) (m / 2) S else g_m_marksAbove_L n f fu (c + 0) (m / 2) S))
theorem l_g_m_marksAbove_L (n : Nat) (f : Nat) : ∀ (fu : Nat) (c : Nat) (m : Nat) (S : ZS) , (m < 2 ^ fu) → (m < 128) → (c + fu < 100) → Z sc yX7_marksAbove cX7_marksAbove 4 (some .int) 2 0 0 37 [some (.ref 0), some (.int (nI (f))), some (.int (nI (c))), some (.int (nI (m)))] [] (mh S) (.inl (some (.int (g_m_marksAbove_L n f fu c m S).1))) (mh (g_m_marksAbove_L n f fu c m S).2) := by
  intro fu
  induction fu with
  | zero =>
    intro c m S hm hm7 hcc
    refine z_iload_3 dX7_marksAbove_37 ?_
    refine z_ifN_le_t (tgt := 64) dX7_marksAbove_38 (by decide) (x := m) (by first | omega | assumption) (by omega) ?_
    refine z_iload_2 dX7_marksAbove_64 ?_
    rw [g_m_marksAbove_L]
    exact z_iret dX7_marksAbove_65 rfl (zint _) rfl rfl
  | succ fu ih =>
    intro c m S hm hm7 hcc
    refine z_iload_3 dX7_marksAbove_37 ?_
    refine z_ifN_le (tgt := 64) dX7_marksAbove_38 (by decide) (x := m) (by first | omega | assumption) (fun c38 => ?_) (fun c38 => ?_)
    · refine z_iload_2 dX7_marksAbove_64 ?_
      rw [g_m_marksAbove_L, if_pos c38]
      exact z_iret dX7_marksAbove_65 rfl (zint _) rfl rfl
    · refine z_iload_2 dX7_marksAbove_41 ?_
      refine z_aload_0 dX7_marksAbove_42 ?_
      refine z_iload_3 dX7_marksAbove_43 ?_
      refine Z.call0s (zRun.V (ρ := fun i => i) (k_m_isMarked m S (by first | omega | assumption)) dX7_marksAbove_44 zy_X7_isMarked zm_X7_96 rfl rfl rfl rfl (Nat.le_of_ble_eq_true rfl) (by decide) (by decide)) (zlen2 14 rfl rfl) ?_
      refine z_ifB_eq (tgt := 54) dX7_marksAbove_47 (by decide) (fun c47 => ?_) (fun c47 => ?_)
      · refine z_iconst (v := 0) dX7_marksAbove_54 rfl ?_
        refine z_iadd dX7_marksAbove_55 ?_
        refine z_topi (w := nI (c + 0)) (nI_add _ _) ?_
        refine z_istore_2 dX7_marksAbove_56 rfl (by decide) ?_
        refine z_iload_3 dX7_marksAbove_57 ?_
        refine z_iconst (v := 2) dX7_marksAbove_58 rfl ?_
        refine z_idiv dX7_marksAbove_59 (by decide) ?_
        refine z_topi (w := nI (m / 2)) (pk_div (by first | omega | assumption) (by decide) (by decide)) ?_
        refine z_istore_3 dX7_marksAbove_60 rfl (by decide) ?_
        refine z_goto (tgt := 37) dX7_marksAbove_61 (by decide) ?_
        rw [g_m_marksAbove_L, if_neg c38, if_neg c47]
        exact ih (c + 0) (m / 2) S (by rw [Nat.pow_succ] at hm; omega) (by first | omega | assumption) (by first | omega | assumption)
      · refine z_iconst (v := 1) dX7_marksAbove_50 rfl ?_
        refine z_goto (tgt := 55) dX7_marksAbove_51 (by decide) ?_
        refine z_iadd dX7_marksAbove_55 ?_
        refine z_topi (w := nI (c + 1)) (nI_add _ _) ?_
        refine z_istore_2 dX7_marksAbove_56 rfl (by decide) ?_
        refine z_iload_3 dX7_marksAbove_57 ?_
        refine z_iconst (v := 2) dX7_marksAbove_58 rfl ?_
        refine z_idiv dX7_marksAbove_59 (by decide) ?_
        refine z_topi (w := nI (m / 2)) (pk_div (by first | omega | assumption) (by decide) (by decide)) ?_
        refine z_istore_3 dX7_marksAbove_60 rfl (by decide) ?_
        refine z_goto (tgt := 37) dX7_marksAbove_61 (by decide) ?_
        rw [g_m_marksAbove_L, if_neg c38, if_pos c47]
        exact ih (c + 1) (m / 2) S (by rw [Nat.pow_succ] at hm; omega) (by first | omega | assumption) (by first | omega | assumption)
noncomputable def g_m_marksAbove (n : Nat) (f : Nat) (S : ZS) : Int32 × ZS := g_m_marksAbove_L n f 6 0 ((lf n f) / 2) (sI 15 (0) (g_m_grows n S))
theorem k_m_marksAbove (n : Nat) (f : Nat) (S : ZS) (h1 : 1 ≤ n) (h40 : n ≤ 40) (hi : f < n) (hO : mOK n S) : zM sc yX7_marksAbove cX7_marksAbove 4 (some .int) 2 0 0 [.ref 0, .int (nI (f))] (mh S) (.inl (some (.int (g_m_marksAbove n f S).1))) (mh (g_m_marksAbove n f S).2) := by
  refine zM.at (ls := [some (.ref 0), some (.int (nI (f))), none, none]) zy_X7_marksAbove.2.2.2.2.2 (Nat.le_of_ble_eq_true rfl) rfl ?_
  refine z_aload_0 dX7_marksAbove_0 ?_
  refine Z.call0n (zRun.V (ρ := fun i => i) (k_m_grows n S h1 h40 hO.1) dX7_marksAbove_1 zy_X7_grows zm_X7_86 rfl rfl rfl rfl (Nat.le_of_ble_eq_true rfl) (by decide) (by decide)) (zlen2 14 rfl rfl) ?_
  refine z_aload_0 dX7_marksAbove_4 ?_
  refine z_aload_0 dX7_marksAbove_5 ?_
  refine z_iload_1 dX7_marksAbove_6 ?_
  refine Z.call0s (zRun.V (ρ := fun i => i) (k_m_isIndex (nI (f)) (g_m_grows n S) ) dX7_marksAbove_7 zy_X7_isIndex zm_X7_71 rfl rfl rfl rfl (Nat.le_of_ble_eq_true rfl) (by decide) (by decide)) (zlen2 14 rfl rfl) ?_
  refine z_topi (w := 1) (by rw [isIndex_ok h1 h40 (mGr_of h1 h40 hO).1 hi]; rfl) ?_
  refine z_if_ne_t (tgt := 17) dX7_marksAbove_10 (by decide) (by decide) ?_
  refine z_iconst (v := 0) dX7_marksAbove_17 rfl ?_
  refine Z.call0s (zRun.V (ρ := fun i => i) (k_m_throwsOne (false) (g_m_grows n S) ) dX7_marksAbove_18 zy_X7_throwsOne zm_X7_284 rfl rfl rfl rfl (Nat.le_of_ble_eq_true rfl) (by decide) (by decide)) (zlen2 14 rfl rfl) ?_
  refine Z.heap (h2 := mh (sI 15 (0) (g_m_grows n S))) rfl ?_
  refine z_topi (w := 0) rfl ?_
  refine z_if_eq_t (tgt := 26) dX7_marksAbove_21 (by decide) (by decide) ?_
  have hlf := lf_gp h40 hi
  refine z_iconst (v := 0) dX7_marksAbove_26 rfl ?_
  refine z_istore_2 dX7_marksAbove_27 rfl (by decide) ?_
  refine z_aload_0 dX7_marksAbove_28 ?_
  refine z_get (k := 18) (v := .ref 11) dX7_marksAbove_29 rfl rfl rfl (by decide) zf_X7_45 zw_in7 ?_
  refine z_iload_1 dX7_marksAbove_32 ?_
  refine z_ialdN (k := f) dX7_marksAbove_33 rfl (by first | omega | assumption) (by decide) ?_
  refine z_topi (w := ((g_m_grows n S)).2 10 (f)) (by rw [sI_2]) ?_
  refine z_topi (w := nI (lf n f)) ((mGr_of h1 h40 hO).lf (by first | omega | assumption)) ?_
  refine z_iconst (v := 2) dX7_marksAbove_34 rfl ?_
  refine z_idiv dX7_marksAbove_35 (by decide) ?_
  refine z_topi (w := nI ((lf n f) / 2)) (pk_div (by first | omega | assumption) (by decide) (by decide)) ?_
  refine z_istore_3 dX7_marksAbove_36 rfl (by decide) ?_
  rw [g_m_marksAbove]
  exact l_g_m_marksAbove_L n f 6 0 ((lf n f) / 2) (sI 15 (0) (g_m_grows n S)) (by have := hlf.2.2; omega) (by have := hlf.2.2; omega) (by first | omega | assumption)
noncomputable def g_m_marksAbove_x1 (n : Nat) (_x : Int32) (S : ZS) : Int32 × ZS := (0, (sI 15 (1) (g_m_grows n S)))
theorem k_m_marksAbove_x1 (n : Nat) (x : Int32) (S : ZS) (h1 : 1 ≤ n) (h40 : n ≤ 40) (hx : g_m_isIndex x (g_m_grows n S) = false) (hO : mOK n S) : zM sc yX7_marksAbove cX7_marksAbove 4 (some .int) 2 0 0 [.ref 0, .int (x)] (mh S) (.inl (some (.int (g_m_marksAbove_x1 n x S).1))) (mh (g_m_marksAbove_x1 n x S).2) := by
  refine zM.at (ls := [some (.ref 0), some (.int (x)), none, none]) zy_X7_marksAbove.2.2.2.2.2 (Nat.le_of_ble_eq_true rfl) rfl ?_
  refine z_aload_0 dX7_marksAbove_0 ?_
  refine Z.call0n (zRun.V (ρ := fun i => i) (k_m_grows n S h1 h40 hO.1) dX7_marksAbove_1 zy_X7_grows zm_X7_86 rfl rfl rfl rfl (Nat.le_of_ble_eq_true rfl) (by decide) (by decide)) (zlen2 14 rfl rfl) ?_
  refine z_aload_0 dX7_marksAbove_4 ?_
  refine z_aload_0 dX7_marksAbove_5 ?_
  refine z_iload_1 dX7_marksAbove_6 ?_
  refine Z.call0s (zRun.V (ρ := fun i => i) (k_m_isIndex (x) (g_m_grows n S) ) dX7_marksAbove_7 zy_X7_isIndex zm_X7_71 rfl rfl rfl rfl (Nat.le_of_ble_eq_true rfl) (by decide) (by decide)) (zlen2 14 rfl rfl) ?_
  refine z_topi (w := 0) (by rw [hx]; rfl) ?_
  refine z_if_ne_f (tgt := 17) dX7_marksAbove_10 (by decide) (by decide) ?_
  refine z_iconst (v := 1) dX7_marksAbove_13 rfl ?_
  refine z_goto (tgt := 18) dX7_marksAbove_14 (by decide) ?_
  refine Z.call0s (zRun.V (ρ := fun i => i) (k_m_throwsOne (true) (g_m_grows n S) ) dX7_marksAbove_18 zy_X7_throwsOne zm_X7_284 rfl rfl rfl rfl (Nat.le_of_ble_eq_true rfl) (by decide) (by decide)) (zlen2 14 rfl rfl) ?_
  refine Z.heap (h2 := mh (sI 15 (1) (g_m_grows n S))) rfl ?_
  refine z_topi (w := 1) rfl ?_
  refine z_if_eq_f (tgt := 26) dX7_marksAbove_21 (by decide) (by decide) ?_
  refine z_iconst (v := 0) dX7_marksAbove_24 rfl ?_
  rw [g_m_marksAbove_x1]
  exact z_iret dX7_marksAbove_25 rfl (zint _) rfl rfl
noncomputable def g_m_violations_L (n : Nat) : Nat → Nat → Nat → ZS → Nat × ZS
  | 0, c, _, S => (c, S)
  | fu + 1, c, i, S => (if ((g_m_in ((g_m_valueG n i S)) ((-1000000)) (1000000))) = true then (if ((g_m_isMarked (lf n i) S)) = true then g_m_violations_L n fu (c + 1) (i + 1) S else g_m_violations_L n fu (c + 0) (i + 1) S) else (if ((g_m_isMarked (lf n i) S)) = true then g_m_violations_L n fu (c + 2) (i + 1) S else g_m_violations_L n fu (c + 1) (i + 1) S))
theorem l_g_m_violations_L (n : Nat) : ∀ (fu : Nat) (c : Nat) (i : Nat) (S : ZS) , (1 ≤ n) → (n ≤ 40) → (i + fu = n) → (c + 2 * fu < 100) → (mGr n S) → Z sc yX7_violations cX7_violations 3 (some .int) 2 0 0 9 [some (.ref 0), some (.int (nI (c))), some (.int (nI (i)))] [] (mh S) (.inl (some (.int (nI (g_m_violations_L n fu c i S).1)))) (mh (g_m_violations_L n fu c i S).2) := by
  intro fu
  induction fu with
  | zero =>
    intro c i S h1 h40 hi hcc hG
    refine z_iload_2 dX7_violations_9 ?_
    refine z_aload_0 dX7_violations_10 ?_
    refine z_get (k := 0) (v := .ref 1) dX7_violations_11 rfl rfl rfl (by decide) zf_X7_7 zw_in7 ?_
    refine z_iconst (v := 0) dX7_violations_14 rfl ?_
    refine z_ialdN (k := 0) dX7_violations_15 rfl (by first | omega | assumption) (by decide) ?_
    refine z_topi (w := S.2 0 (0)) rfl ?_
    refine z_topi (w := nI (n)) hG.1 ?_
    refine z_icmpN_ge_t (tgt := 69) dX7_violations_16 (by decide) (x := i) (z := n) (by first | omega | assumption) (by first | omega | assumption) (by omega) ?_
    refine z_iload_1 dX7_violations_69 ?_
    rw [g_m_violations_L]
    exact z_iret dX7_violations_70 rfl (zint _) rfl rfl
  | succ fu ih =>
    intro c i S h1 h40 hi hcc hG
    refine z_iload_2 dX7_violations_9 ?_
    refine z_aload_0 dX7_violations_10 ?_
    refine z_get (k := 0) (v := .ref 1) dX7_violations_11 rfl rfl rfl (by decide) zf_X7_7 zw_in7 ?_
    refine z_iconst (v := 0) dX7_violations_14 rfl ?_
    refine z_ialdN (k := 0) dX7_violations_15 rfl (by first | omega | assumption) (by decide) ?_
    refine z_topi (w := S.2 0 (0)) rfl ?_
    refine z_topi (w := nI (n)) hG.1 ?_
    refine z_icmpN_ge_f (tgt := 69) dX7_violations_16 (by decide) (x := i) (z := n) (by first | omega | assumption) (by first | omega | assumption) (by omega) ?_
    have hi9 : i < n := by omega
    refine z_iload_1 dX7_violations_19 ?_
    refine z_aload_0 dX7_violations_20 ?_
    refine z_iload_2 dX7_violations_21 ?_
    refine Z.call0s (zRun.V (ρ := fun i => i) (k_m_valueG n i S h1 h40 (by first | omega | assumption) hG) dX7_violations_22 zy_X7_value zm_X7_120 rfl rfl rfl rfl (Nat.le_of_ble_eq_true rfl) (by decide) (by decide)) (zlen2 14 rfl rfl) ?_
    refine z_ldc (v := (-1000000)) dX7_violations_25 zk_X7_141 ?_
    refine z_ldc (v := 1000000) dX7_violations_27 zk_X7_145 ?_
    refine Z.callE (zRun.S (ρ := fun i => i) (k_m_in ((g_m_valueG n i S)) ((-1000000)) (1000000) ) dX7_violations_29 zy_X7_in zm_X7_67 rfl rfl (Nat.le_of_ble_eq_true rfl) (by decide) (by decide)) ?_
    refine z_ifB_eq (tgt := 39) dX7_violations_32 (by decide) (fun c32 => ?_) (fun c32 => ?_)
    · refine z_iconst (v := 1) dX7_violations_39 rfl ?_
      refine z_iadd dX7_violations_40 ?_
      refine z_topi (w := nI (c + 1)) (nI_add _ _) ?_
      refine z_istore_1 dX7_violations_41 rfl (by decide) ?_
      refine z_iload_1 dX7_violations_42 ?_
      refine z_aload_0 dX7_violations_43 ?_
      refine z_aload_0 dX7_violations_44 ?_
      refine z_get (k := 18) (v := .ref 11) dX7_violations_45 rfl rfl rfl (by decide) zf_X7_45 zw_in7 ?_
      refine z_iload_2 dX7_violations_48 ?_
      refine z_ialdN (k := i) dX7_violations_49 rfl (by first | omega | assumption) (by decide) ?_
      refine z_topi (w := S.2 10 (i)) rfl ?_
      refine z_topi (w := nI (lf n i)) (hG.lf (by first | omega | assumption)) ?_
      refine Z.call0s (zRun.V (ρ := fun i => i) (k_m_isMarked (lf n i) S (by have := (lf_gp h40 hi9).2.2; omega)) dX7_violations_50 zy_X7_isMarked zm_X7_96 rfl rfl rfl rfl (Nat.le_of_ble_eq_true rfl) (by decide) (by decide)) (zlen2 14 rfl rfl) ?_
      refine z_ifB_eq (tgt := 60) dX7_violations_53 (by decide) (fun c53 => ?_) (fun c53 => ?_)
      · refine z_iconst (v := 0) dX7_violations_60 rfl ?_
        refine z_iadd dX7_violations_61 ?_
        refine z_topi (w := nI (c + 1)) (nI_add _ _) ?_
        refine z_istore_1 dX7_violations_62 rfl (by decide) ?_
        refine z_iinc_2 (v := nI (i + 1)) dX7_violations_63 (nI_add _ 1) rfl (by decide) ?_
        refine z_goto (tgt := 9) dX7_violations_66 (by decide) ?_
        rw [g_m_violations_L, if_neg c32, if_neg c53]
        exact ih (c + 1) (i + 1) S (by first | omega | assumption) (by first | omega | assumption) (by first | omega | assumption) (by first | omega | assumption) hG
      · refine z_iconst (v := 1) dX7_violations_56 rfl ?_
        refine z_goto (tgt := 61) dX7_violations_57 (by decide) ?_
        refine z_iadd dX7_violations_61 ?_
        refine z_topi (w := nI (c + 2)) (nI_add _ _) ?_
        refine z_istore_1 dX7_violations_62 rfl (by decide) ?_
        refine z_iinc_2 (v := nI (i + 1)) dX7_violations_63 (nI_add _ 1) rfl (by decide) ?_
        refine z_goto (tgt := 9) dX7_violations_66 (by decide) ?_
        rw [g_m_violations_L, if_neg c32, if_pos c53]
        exact ih (c + 2) (i + 1) S (by first | omega | assumption) (by first | omega | assumption) (by first | omega | assumption) (by first | omega | assumption) hG
    · refine z_iconst (v := 0) dX7_violations_35 rfl ?_
      refine z_goto (tgt := 40) dX7_violations_36 (by decide) ?_
      refine z_iadd dX7_violations_40 ?_
      refine z_topi (w := nI (c + 0)) (nI_add _ _) ?_
      refine z_istore_1 dX7_violations_41 rfl (by decide) ?_
      refine z_iload_1 dX7_violations_42 ?_
      refine z_aload_0 dX7_violations_43 ?_
      refine z_aload_0 dX7_violations_44 ?_
      refine z_get (k := 18) (v := .ref 11) dX7_violations_45 rfl rfl rfl (by decide) zf_X7_45 zw_in7 ?_
      refine z_iload_2 dX7_violations_48 ?_
      refine z_ialdN (k := i) dX7_violations_49 rfl (by first | omega | assumption) (by decide) ?_
      refine z_topi (w := S.2 10 (i)) rfl ?_
      refine z_topi (w := nI (lf n i)) (hG.lf (by first | omega | assumption)) ?_
      refine Z.call0s (zRun.V (ρ := fun i => i) (k_m_isMarked (lf n i) S (by have := (lf_gp h40 hi9).2.2; omega)) dX7_violations_50 zy_X7_isMarked zm_X7_96 rfl rfl rfl rfl (Nat.le_of_ble_eq_true rfl) (by decide) (by decide)) (zlen2 14 rfl rfl) ?_
      refine z_ifB_eq (tgt := 60) dX7_violations_53 (by decide) (fun c53 => ?_) (fun c53 => ?_)
      · refine z_iconst (v := 0) dX7_violations_60 rfl ?_
        refine z_iadd dX7_violations_61 ?_
        refine z_topi (w := nI (c + 0)) (nI_add _ _) ?_
        refine z_istore_1 dX7_violations_62 rfl (by decide) ?_
        refine z_iinc_2 (v := nI (i + 1)) dX7_violations_63 (nI_add _ 1) rfl (by decide) ?_
        refine z_goto (tgt := 9) dX7_violations_66 (by decide) ?_
        rw [g_m_violations_L, if_pos c32, if_neg c53]
        exact ih (c + 0) (i + 1) S (by first | omega | assumption) (by first | omega | assumption) (by first | omega | assumption) (by first | omega | assumption) hG
      · refine z_iconst (v := 1) dX7_violations_56 rfl ?_
        refine z_goto (tgt := 61) dX7_violations_57 (by decide) ?_
        refine z_iadd dX7_violations_61 ?_
        refine z_topi (w := nI (c + 1)) (nI_add _ _) ?_
        refine z_istore_1 dX7_violations_62 rfl (by decide) ?_
        refine z_iinc_2 (v := nI (i + 1)) dX7_violations_63 (nI_add _ 1) rfl (by decide) ?_
        refine z_goto (tgt := 9) dX7_violations_66 (by decide) ?_
        rw [g_m_violations_L, if_pos c32, if_pos c53]
        exact ih (c + 1) (i + 1) S (by first | omega | assumption) (by first | omega | assumption) (by first | omega | assumption) (by first | omega | assumption) hG
noncomputable def g_m_violations (n : Nat) (S : ZS) : Nat × ZS := (if ((g_m_in ((g_m_value n 0 (sI 15 (0) S)).1) ((-1000000)) (1000000))) = true then (if ((g_m_isMarked (lf n 0) (g_m_grows n (sI 15 (0) S)))) = true then g_m_violations_L n (n - 1) 1 1 (g_m_grows n (sI 15 (0) S)) else g_m_violations_L n (n - 1) 0 1 (g_m_grows n (sI 15 (0) S))) else (if ((g_m_isMarked (lf n 0) (g_m_grows n (sI 15 (0) S)))) = true then g_m_violations_L n (n - 1) 2 1 (g_m_grows n (sI 15 (0) S)) else g_m_violations_L n (n - 1) 1 1 (g_m_grows n (sI 15 (0) S))))
theorem k_m_violations (n : Nat) (S : ZS) (h1 : 1 ≤ n) (h40 : n ≤ 40) (hO : mOK n S) : zM sc yX7_violations cX7_violations 3 (some .int) 2 0 0 [.ref 0] (mh S) (.inl (some (.int (nI (g_m_violations n S).1)))) (mh (g_m_violations n S).2) := by
  refine zM.at (ls := [some (.ref 0), none, none]) zy_X7_violations.2.2.2.2.2 (Nat.le_of_ble_eq_true rfl) rfl ?_
  refine z_aload_0 dX7_violations_0 ?_
  refine z_iconst (v := 0) dX7_violations_1 rfl ?_
  refine z_put (k := 15) (ty := tyX7) dX7_violations_2 rfl rfl (by decide) zf_X7_64 zw_in7 tyX7_ok nmX7 rfl (fun _ => ⟨rfl, rfl⟩) (Nat.le_of_ble_eq_true rfl) ?_
  refine Z.heap (h2 := mh (sI 15 (0) S)) rfl ?_
  refine z_iconst (v := 0) dX7_violations_5 rfl ?_
  refine z_istore_1 dX7_violations_6 rfl (by decide) ?_
  refine z_iconst (v := 0) dX7_violations_7 rfl ?_
  refine z_istore_2 dX7_violations_8 rfl (by decide) ?_
  refine z_iload_2 dX7_violations_9 ?_
  refine z_aload_0 dX7_violations_10 ?_
  refine z_get (k := 0) (v := .ref 1) dX7_violations_11 rfl rfl rfl (by decide) zf_X7_7 zw_in7 ?_
  refine z_iconst (v := 0) dX7_violations_14 rfl ?_
  refine z_ialdN (k := 0) dX7_violations_15 rfl (by first | omega | assumption) (by decide) ?_
  refine z_topi (w := S.2 0 (0)) (by rw [sI_2]) ?_
  refine z_topi (w := nI (n)) hO.1 ?_
  refine z_icmpN_ge_f (tgt := 69) dX7_violations_16 (by decide) (x := 0) (z := n) (by first | omega | assumption) (by first | omega | assumption) (by omega) ?_
  have hi9 : 0 < n := by omega
  refine z_iload_1 dX7_violations_19 ?_
  refine z_aload_0 dX7_violations_20 ?_
  refine z_iload_2 dX7_violations_21 ?_
  refine Z.call0s (zRun.V (ρ := fun i => i) (k_m_value n 0 (sI 15 (0) S) h1 h40 (by first | omega | assumption) (hO.sI (by decide))) dX7_violations_22 zy_X7_value zm_X7_120 rfl rfl rfl rfl (Nat.le_of_ble_eq_true rfl) (by decide) (by decide)) (zlen2 14 rfl rfl) ?_
  refine Z.heap (h2 := mh (g_m_grows n (sI 15 (0) S))) (by rw [g_m_value_2]) ?_
  refine z_ldc (v := (-1000000)) dX7_violations_25 zk_X7_141 ?_
  refine z_ldc (v := 1000000) dX7_violations_27 zk_X7_145 ?_
  refine Z.callE (zRun.S (ρ := fun i => i) (k_m_in ((g_m_value n 0 (sI 15 (0) S)).1) ((-1000000)) (1000000) ) dX7_violations_29 zy_X7_in zm_X7_67 rfl rfl (Nat.le_of_ble_eq_true rfl) (by decide) (by decide)) ?_
  refine z_ifB_eq (tgt := 39) dX7_violations_32 (by decide) (fun c32 => ?_) (fun c32 => ?_)
  · refine z_iconst (v := 1) dX7_violations_39 rfl ?_
    refine z_iadd dX7_violations_40 ?_
    refine z_topi (w := 1) (by decide) ?_
    refine z_istore_1 dX7_violations_41 rfl (by decide) ?_
    refine z_iload_1 dX7_violations_42 ?_
    refine z_aload_0 dX7_violations_43 ?_
    refine z_aload_0 dX7_violations_44 ?_
    refine z_get (k := 18) (v := .ref 11) dX7_violations_45 rfl rfl rfl (by decide) zf_X7_45 zw_in7 ?_
    refine z_iload_2 dX7_violations_48 ?_
    refine z_ialdN (k := 0) dX7_violations_49 rfl (by first | omega | assumption) (by decide) ?_
    refine z_topi (w := ((g_m_grows n (sI 15 (0) S))).2 10 (0)) rfl ?_
    refine z_topi (w := nI (lf n 0)) ((mGr_of h1 h40 (hO.sI (by decide))).lf (by first | omega | assumption)) ?_
    refine Z.call0s (zRun.V (ρ := fun i => i) (k_m_isMarked (lf n 0) (g_m_grows n (sI 15 (0) S)) (by have := (lf_gp h40 hi9).2.2; omega)) dX7_violations_50 zy_X7_isMarked zm_X7_96 rfl rfl rfl rfl (Nat.le_of_ble_eq_true rfl) (by decide) (by decide)) (zlen2 14 rfl rfl) ?_
    refine z_ifB_eq (tgt := 60) dX7_violations_53 (by decide) (fun c53 => ?_) (fun c53 => ?_)
    · refine z_iconst (v := 0) dX7_violations_60 rfl ?_
      refine z_iadd dX7_violations_61 ?_
      refine z_topi (w := 1) (by decide) ?_
      refine z_istore_1 dX7_violations_62 rfl (by decide) ?_
      refine z_iinc_2 (v := 1) dX7_violations_63 rfl rfl (by decide) ?_
      refine z_goto (tgt := 9) dX7_violations_66 (by decide) ?_
      rw [g_m_violations, if_neg c32, if_neg c53]
      exact l_g_m_violations_L n (n - 1) 1 1 (g_m_grows n (sI 15 (0) S)) (by first | omega | assumption) (by first | omega | assumption) (by first | omega | assumption) (by first | omega | assumption) (mGr_of h1 h40 (hO.sI (by decide)))
    · refine z_iconst (v := 1) dX7_violations_56 rfl ?_
      refine z_goto (tgt := 61) dX7_violations_57 (by decide) ?_
      refine z_iadd dX7_violations_61 ?_
      refine z_topi (w := 2) (by decide) ?_
      refine z_istore_1 dX7_violations_62 rfl (by decide) ?_
      refine z_iinc_2 (v := 1) dX7_violations_63 rfl rfl (by decide) ?_
      refine z_goto (tgt := 9) dX7_violations_66 (by decide) ?_
      rw [g_m_violations, if_neg c32, if_pos c53]
      exact l_g_m_violations_L n (n - 1) 2 1 (g_m_grows n (sI 15 (0) S)) (by first | omega | assumption) (by first | omega | assumption) (by first | omega | assumption) (by first | omega | assumption) (mGr_of h1 h40 (hO.sI (by decide)))
  · refine z_iconst (v := 0) dX7_violations_35 rfl ?_
    refine z_goto (tgt := 40) dX7_violations_36 (by decide) ?_
    refine z_iadd dX7_violations_40 ?_
    refine z_topi (w := 0) (by decide) ?_
    refine z_istore_1 dX7_violations_41 rfl (by decide) ?_
    refine z_iload_1 dX7_violations_42 ?_
    refine z_aload_0 dX7_violations_43 ?_
    refine z_aload_0 dX7_violations_44 ?_
    refine z_get (k := 18) (v := .ref 11) dX7_violations_45 rfl rfl rfl (by decide) zf_X7_45 zw_in7 ?_
    refine z_iload_2 dX7_violations_48 ?_
    refine z_ialdN (k := 0) dX7_violations_49 rfl (by first | omega | assumption) (by decide) ?_
    refine z_topi (w := ((g_m_grows n (sI 15 (0) S))).2 10 (0)) rfl ?_
    refine z_topi (w := nI (lf n 0)) ((mGr_of h1 h40 (hO.sI (by decide))).lf (by first | omega | assumption)) ?_
    refine Z.call0s (zRun.V (ρ := fun i => i) (k_m_isMarked (lf n 0) (g_m_grows n (sI 15 (0) S)) (by have := (lf_gp h40 hi9).2.2; omega)) dX7_violations_50 zy_X7_isMarked zm_X7_96 rfl rfl rfl rfl (Nat.le_of_ble_eq_true rfl) (by decide) (by decide)) (zlen2 14 rfl rfl) ?_
    refine z_ifB_eq (tgt := 60) dX7_violations_53 (by decide) (fun c53 => ?_) (fun c53 => ?_)
    · refine z_iconst (v := 0) dX7_violations_60 rfl ?_
      refine z_iadd dX7_violations_61 ?_
      refine z_topi (w := 0) (by decide) ?_
      refine z_istore_1 dX7_violations_62 rfl (by decide) ?_
      refine z_iinc_2 (v := 1) dX7_violations_63 rfl rfl (by decide) ?_
      refine z_goto (tgt := 9) dX7_violations_66 (by decide) ?_
      rw [g_m_violations, if_pos c32, if_neg c53]
      exact l_g_m_violations_L n (n - 1) 0 1 (g_m_grows n (sI 15 (0) S)) (by first | omega | assumption) (by first | omega | assumption) (by first | omega | assumption) (by first | omega | assumption) (mGr_of h1 h40 (hO.sI (by decide)))
    · refine z_iconst (v := 1) dX7_violations_56 rfl ?_
      refine z_goto (tgt := 61) dX7_violations_57 (by decide) ?_
      refine z_iadd dX7_violations_61 ?_
      refine z_topi (w := 1) (by decide) ?_
      refine z_istore_1 dX7_violations_62 rfl (by decide) ?_
      refine z_iinc_2 (v := 1) dX7_violations_63 rfl rfl (by decide) ?_
      refine z_goto (tgt := 9) dX7_violations_66 (by decide) ?_
      rw [g_m_violations, if_pos c32, if_pos c53]
      exact l_g_m_violations_L n (n - 1) 1 1 (g_m_grows n (sI 15 (0) S)) (by first | omega | assumption) (by first | omega | assumption) (by first | omega | assumption) (by first | omega | assumption) (mGr_of h1 h40 (hO.sI (by decide)))
