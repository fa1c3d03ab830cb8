variable {sc : SC}

noncomputable def g_m_element (n : Nat) (f : Nat) (S : ZS) : Int32 × ZS := ((g_m_value n f (sI 15 (0) S)).1, (g_m_grows n (sI 15 (0) S)))
theorem k_m_element (n : Nat) (f : Nat) (S : ZS) (h1 : 1 ≤ n) (h40 : n ≤ 40) (hi : f < n) (hO : mOK n S) : zM sc yX7_element cX7_element 2 (some .int) 2 0 0 [.ref 0, .int (nI (f))] (mh S) (.inl (some (.int (g_m_element n f S).1))) (mh (g_m_element n f S).2) := by
  refine zM.at (ls := [some (.ref 0), some (.int (nI (f)))]) zy_X7_element.2.2.2.2.2 (Nat.le_of_ble_eq_true rfl) rfl ?_
  refine z_aload_0 dX7_element_0 ?_
  refine z_aload_0 dX7_element_1 ?_
  refine z_iload_1 dX7_element_2 ?_
  refine Z.call0s (zRun.V (ρ := fun i => i) (k_m_isIndex (nI (f)) S ) dX7_element_3 zy_X7_isIndex zm_X7_71 rfl rfl rfl rfl (Nat.le_of_ble_eq_true rfl) (by decide) (by decide)) (zlen2 14 rfl rfl) ?_
  refine z_topi (w := 1) (by rw [isIndex_ok h1 h40 hO.1 hi]; rfl) ?_
  refine z_if_ne_t (tgt := 13) dX7_element_6 (by decide) (by decide) ?_
  refine z_iconst (v := 0) dX7_element_13 rfl ?_
  refine Z.call0s (zRun.V (ρ := fun i => i) (k_m_throwsOne (false) S ) dX7_element_14 zy_X7_throwsOne zm_X7_284 rfl rfl rfl rfl (Nat.le_of_ble_eq_true rfl) (by decide) (by decide)) (zlen2 14 rfl rfl) ?_
  refine Z.heap (h2 := mh (sI 15 (0) S)) rfl ?_
  refine z_topi (w := 0) rfl ?_
  refine z_if_eq_t (tgt := 24) dX7_element_17 (by decide) (by decide) ?_
  refine z_aload_0 dX7_element_24 ?_
  refine z_iload_1 dX7_element_25 ?_
  refine Z.call0s (zRun.V (ρ := fun i => i) (k_m_value n f (sI 15 (0) S) h1 h40 hi (hO.sI (by decide))) dX7_element_26 zy_X7_value zm_X7_120 rfl rfl rfl rfl (Nat.le_of_ble_eq_true rfl) (by decide) (by decide)) (zlen2 14 rfl rfl) ?_
  refine Z.heap (h2 := mh (g_m_grows n (sI 15 (0) S))) (by rw [g_m_value_2]) ?_
  rw [g_m_element]
  exact z_iret dX7_element_29 rfl (zint _) rfl rfl
noncomputable def g_m_element_x1 (_x : Int32) (S : ZS) : Int32 × ZS := (0, (sI 15 (1) S))
theorem k_m_element_x1 (x : Int32) (S : ZS) (hx : g_m_isIndex x S = false) : zM sc yX7_element cX7_element 2 (some .int) 2 0 0 [.ref 0, .int (x)] (mh S) (.inl (some (.int (g_m_element_x1 x S).1))) (mh (g_m_element_x1 x S).2) := by
  refine zM.at (ls := [some (.ref 0), some (.int (x))]) zy_X7_element.2.2.2.2.2 (Nat.le_of_ble_eq_true rfl) rfl ?_
  refine z_aload_0 dX7_element_0 ?_
  refine z_aload_0 dX7_element_1 ?_
  refine z_iload_1 dX7_element_2 ?_
  refine Z.call0s (zRun.V (ρ := fun i => i) (k_m_isIndex (x) S ) dX7_element_3 zy_X7_isIndex zm_X7_71 rfl rfl rfl rfl (Nat.le_of_ble_eq_true rfl) (by decide) (by decide)) (zlen2 14 rfl rfl) ?_
  refine z_topi (w := 0) (by rw [hx]; rfl) ?_
  refine z_if_ne_f (tgt := 13) dX7_element_6 (by decide) (by decide) ?_
  refine z_iconst (v := 1) dX7_element_9 rfl ?_
  refine z_goto (tgt := 14) dX7_element_10 (by decide) ?_
  refine Z.call0s (zRun.V (ρ := fun i => i) (k_m_throwsOne (true) S ) dX7_element_14 zy_X7_throwsOne zm_X7_284 rfl rfl rfl rfl (Nat.le_of_ble_eq_true rfl) (by decide) (by decide)) (zlen2 14 rfl rfl) ?_
  refine Z.heap (h2 := mh (sI 15 (1) S)) rfl ?_
  refine z_topi (w := 1) rfl ?_
  refine z_if_eq_f (tgt := 24) dX7_element_17 (by decide) (by decide) ?_
  refine z_iconst (v := 0) dX7_element_20 rfl ?_
  refine z_goto (tgt := 29) dX7_element_21 (by decide) ?_
  rw [g_m_element_x1]
  exact z_iret dX7_element_29 rfl (zint _) rfl rfl
noncomputable def g_m_firstAtLeast_L (n : Nat) (f : Nat) (v : Int32) : Nat → Nat → ZS → Int32 × ZS
  | 0, _, S => ((-1), S)
  | fu + 1, i, S => (if (g_m_valueG n i S) < v then g_m_firstAtLeast_L n f v fu (i + 1) S else (nI (i), S))
theorem l_g_m_firstAtLeast_L (n : Nat) (f : Nat) (v : Int32) : ∀ (fu : Nat) (i : Nat) (S : ZS) , (1 ≤ n) → (n ≤ 40) → (mGr n S) → (i + fu = n) → Z sc yX7_firstAtLeast cX7_firstAtLeast 4 (some .int) 2 0 0 24 [some (.ref 0), some (.int (nI (f))), some (.int (v)), some (.int (nI (i)))] [] (mh S) (.inl (some (.int (g_m_firstAtLeast_L n f v fu i S).1))) (mh (g_m_firstAtLeast_L n f v fu i S).2) := by
  intro fu
  induction fu with
  | zero =>
    intro i S h1 h40 hG hi2
    refine z_iload_3 dX7_firstAtLeast_24 ?_
    refine z_aload_0 dX7_firstAtLeast_25 ?_
    refine z_get (k := 0) (v := .ref 1) dX7_firstAtLeast_26 rfl rfl rfl (by decide) zf_X7_7 zw_in7 ?_
    refine z_iconst (v := 0) dX7_firstAtLeast_29 rfl ?_
    refine z_ialdN (k := 0) dX7_firstAtLeast_30 rfl (by first | omega | assumption) (by decide) ?_
    refine z_topi (w := S.2 0 (0)) rfl ?_
    refine z_topi (w := nI (n)) hG.1 ?_
    refine z_icmpN_ge_t (tgt := 51) dX7_firstAtLeast_31 (by decide) (x := i) (z := n) (by first | omega | assumption) (by first | omega | assumption) (by omega) ?_
    refine z_iconst (v := (-1)) dX7_firstAtLeast_51 rfl ?_
    rw [g_m_firstAtLeast_L]
    exact z_iret dX7_firstAtLeast_52 rfl (zint _) rfl rfl
  | succ fu ih =>
    intro i S h1 h40 hG hi2
    refine z_iload_3 dX7_firstAtLeast_24 ?_
    refine z_aload_0 dX7_firstAtLeast_25 ?_
    refine z_get (k := 0) (v := .ref 1) dX7_firstAtLeast_26 rfl rfl rfl (by decide) zf_X7_7 zw_in7 ?_
    refine z_iconst (v := 0) dX7_firstAtLeast_29 rfl ?_
    refine z_ialdN (k := 0) dX7_firstAtLeast_30 rfl (by first | omega | assumption) (by decide) ?_
    refine z_topi (w := S.2 0 (0)) rfl ?_
    refine z_topi (w := nI (n)) hG.1 ?_
    refine z_icmpN_ge_f (tgt := 51) dX7_firstAtLeast_31 (by decide) (x := i) (z := n) (by first | omega | assumption) (by first | omega | assumption) (by omega) ?_
    refine z_aload_0 dX7_firstAtLeast_34 ?_
    refine z_iload_3 dX7_firstAtLeast_35 ?_
    refine Z.call0s (zRun.V (ρ := fun i => i) (k_m_valueG n i S h1 h40 (by first | omega | assumption) hG) dX7_firstAtLeast_36 zy_X7_value zm_X7_120 rfl rfl rfl rfl (Nat.le_of_ble_eq_true rfl) (by decide) (by decide)) (zlen2 14 rfl rfl) ?_
    refine z_iload_2 dX7_firstAtLeast_39 ?_
    refine z_icmp_lt (tgt := 45) dX7_firstAtLeast_40 (by decide) (fun c40 => ?_) (fun c40 => ?_)
    · refine z_iinc_3 (v := nI (i + 1)) dX7_firstAtLeast_45 (nI_add _ 1) rfl (by decide) ?_
      refine z_goto (tgt := 24) dX7_firstAtLeast_48 (by decide) ?_
      rw [g_m_firstAtLeast_L, if_pos c40]
      exact ih (i + 1) S (by first | omega | assumption) (by first | omega | assumption) hG (by first | omega | assumption)
    · refine z_iload_3 dX7_firstAtLeast_43 ?_
      rw [g_m_firstAtLeast_L, if_neg c40]
      exact z_iret dX7_firstAtLeast_44 rfl (zint _) rfl rfl
noncomputable def g_m_firstAtLeast (n : Nat) (f : Nat) (v : Int32) (S : ZS) : Int32 × ZS := (if (g_m_value n f (sI 15 (0) S)).1 < v then g_m_firstAtLeast_L n f v (n - (f + 1)) (f + 1) (g_m_grows n (sI 15 (0) S)) else (nI (f), (g_m_grows n (sI 15 (0) S))))
theorem k_m_firstAtLeast (n : Nat) (f : Nat) (v : Int32) (S : ZS) (h1 : 1 ≤ n) (h40 : n ≤ 40) (hi : f < n) (hO : mOK n S) : zM sc yX7_firstAtLeast cX7_firstAtLeast 4 (some .int) 2 0 0 [.ref 0, .int (nI (f)), .int (v)] (mh S) (.inl (some (.int (g_m_firstAtLeast n f v S).1))) (mh (g_m_firstAtLeast n f v S).2) := by
  refine zM.at (ls := [some (.ref 0), some (.int (nI (f))), some (.int (v)), none]) zy_X7_firstAtLeast.2.2.2.2.2 (Nat.le_of_ble_eq_true rfl) rfl ?_
  refine z_aload_0 dX7_firstAtLeast_0 ?_
  refine z_aload_0 dX7_firstAtLeast_1 ?_
  refine z_iload_1 dX7_firstAtLeast_2 ?_
  refine Z.call0s (zRun.V (ρ := fun i => i) (k_m_isIndex (nI (f)) S ) dX7_firstAtLeast_3 zy_X7_isIndex zm_X7_71 rfl rfl rfl rfl (Nat.le_of_ble_eq_true rfl) (by decide) (by decide)) (zlen2 14 rfl rfl) ?_
  refine z_topi (w := 1) (by rw [isIndex_ok h1 h40 hO.1 hi]; rfl) ?_
  refine z_if_ne_t (tgt := 13) dX7_firstAtLeast_6 (by decide) (by decide) ?_
  refine z_iconst (v := 0) dX7_firstAtLeast_13 rfl ?_
  refine Z.call0s (zRun.V (ρ := fun i => i) (k_m_throwsOne (false) S ) dX7_firstAtLeast_14 zy_X7_throwsOne zm_X7_284 rfl rfl rfl rfl (Nat.le_of_ble_eq_true rfl) (by decide) (by decide)) (zlen2 14 rfl rfl) ?_
  refine Z.heap (h2 := mh (sI 15 (0) S)) rfl ?_
  refine z_topi (w := 0) rfl ?_
  refine z_if_eq_t (tgt := 22) dX7_firstAtLeast_17 (by decide) (by decide) ?_
  refine z_iload_1 dX7_firstAtLeast_22 ?_
  refine z_istore_3 dX7_firstAtLeast_23 rfl (by decide) ?_
  refine z_iload_3 dX7_firstAtLeast_24 ?_
  refine z_aload_0 dX7_firstAtLeast_25 ?_
  refine z_get (k := 0) (v := .ref 1) dX7_firstAtLeast_26 rfl rfl rfl (by decide) zf_X7_7 zw_in7 ?_
  refine z_iconst (v := 0) dX7_firstAtLeast_29 rfl ?_
  refine z_ialdN (k := 0) dX7_firstAtLeast_30 rfl (by first | omega | assumption) (by decide) ?_
  refine z_topi (w := S.2 0 (0)) (by rw [sI_2]) ?_
  refine z_topi (w := nI (n)) hO.1 ?_
  refine z_icmpN_ge_f (tgt := 51) dX7_firstAtLeast_31 (by decide) (x := f) (z := n) (by first | omega | assumption) (by first | omega | assumption) (by omega) ?_
  refine z_aload_0 dX7_firstAtLeast_34 ?_
  refine z_iload_3 dX7_firstAtLeast_35 ?_
  refine Z.call0s (zRun.V (ρ := fun i => i) (k_m_value n f (sI 15 (0) S) h1 h40 (by first | omega | assumption) (hO.sI (by decide))) dX7_firstAtLeast_36 zy_X7_value zm_X7_120 rfl rfl rfl rfl (Nat.le_of_ble_eq_true rfl) (by decide) (by decide)) (zlen2 14 rfl rfl) ?_
  refine Z.heap (h2 := mh (g_m_grows n (sI 15 (0) S))) (by rw [g_m_value_2]) ?_
  refine z_iload_2 dX7_firstAtLeast_39 ?_
  refine z_icmp_lt (tgt := 45) dX7_firstAtLeast_40 (by decide) (fun c40 => ?_) (fun c40 => ?_)
  · refine z_iinc_3 (v := nI (f + 1)) dX7_firstAtLeast_45 (nI_add _ 1) rfl (by decide) ?_
    refine z_goto (tgt := 24) dX7_firstAtLeast_48 (by decide) ?_
    rw [g_m_firstAtLeast, if_pos c40]
    exact l_g_m_firstAtLeast_L n f v (n - (f + 1)) (f + 1) (g_m_grows n (sI 15 (0) S)) (by first | omega | assumption) (by first | omega | assumption) (mGr_of h1 h40 (hO.sI (by decide))) (by first | omega | assumption)
  · refine z_iload_3 dX7_firstAtLeast_43 ?_
    rw [g_m_firstAtLeast, if_neg c40]
    exact z_iret dX7_firstAtLeast_44 rfl (zint _) rfl rfl
noncomputable def g_m_firstAtLeast_x1 (_x : Int32) (_v : Int32) (S : ZS) : Int32 × ZS := (0, (sI 15 (1) S))
theorem k_m_firstAtLeast_x1 (x : Int32) (v : Int32) (S : ZS) (hx : g_m_isIndex x S = false) : zM sc yX7_firstAtLeast cX7_firstAtLeast 4 (some .int) 2 0 0 [.ref 0, .int (x), .int (v)] (mh S) (.inl (some (.int (g_m_firstAtLeast_x1 x v S).1))) (mh (g_m_firstAtLeast_x1 x v S).2) := by
  refine zM.at (ls := [some (.ref 0), some (.int (x)), some (.int (v)), none]) zy_X7_firstAtLeast.2.2.2.2.2 (Nat.le_of_ble_eq_true rfl) rfl ?_
  refine z_aload_0 dX7_firstAtLeast_0 ?_
  refine z_aload_0 dX7_firstAtLeast_1 ?_
  refine z_iload_1 dX7_firstAtLeast_2 ?_
  refine Z.call0s (zRun.V (ρ := fun i => i) (k_m_isIndex (x) S ) dX7_firstAtLeast_3 zy_X7_isIndex zm_X7_71 rfl rfl rfl rfl (Nat.le_of_ble_eq_true rfl) (by decide) (by decide)) (zlen2 14 rfl rfl) ?_
  refine z_topi (w := 0) (by rw [hx]; rfl) ?_
  refine z_if_ne_f (tgt := 13) dX7_firstAtLeast_6 (by decide) (by decide) ?_
  refine z_iconst (v := 1) dX7_firstAtLeast_9 rfl ?_
  refine z_goto (tgt := 14) dX7_firstAtLeast_10 (by decide) ?_
  refine Z.call0s (zRun.V (ρ := fun i => i) (k_m_throwsOne (true) S ) dX7_firstAtLeast_14 zy_X7_throwsOne zm_X7_284 rfl rfl rfl rfl (Nat.le_of_ble_eq_true rfl) (by decide) (by decide)) (zlen2 14 rfl rfl) ?_
  refine Z.heap (h2 := mh (sI 15 (1) S)) rfl ?_
  refine z_topi (w := 1) rfl ?_
  refine z_if_eq_f (tgt := 22) dX7_firstAtLeast_17 (by decide) (by decide) ?_
  refine z_iconst (v := 0) dX7_firstAtLeast_20 rfl ?_
  rw [g_m_firstAtLeast_x1]
  exact z_iret dX7_firstAtLeast_21 rfl (zint _) rfl rfl
noncomputable def g_m_firstBelow_L (n : Nat) (f : Nat) (v : Int32) : Nat → Nat → ZS → Int32 × ZS
  | 0, _, S => ((-1), S)
  | fu + 1, i, S => (if v ≤ (g_m_valueG n i S) then g_m_firstBelow_L n f v fu (i + 1) S else (nI (i), S))
theorem l_g_m_firstBelow_L (n : Nat) (f : Nat) (v : Int32) : ∀ (fu : Nat) (i : Nat) (S : ZS) , (1 ≤ n) → (n ≤ 40) → (mGr n S) → (i + fu = n) → Z sc yX7_firstBelow cX7_firstBelow 4 (some .int) 2 0 0 24 [some (.ref 0), some (.int (nI (f))), some (.int (v)), some (.int (nI (i)))] [] (mh S) (.inl (some (.int (g_m_firstBelow_L n f v fu i S).1))) (mh (g_m_firstBelow_L n f v fu i S).2) := by
  intro fu
  induction fu with
  | zero =>
    intro i S h1 h40 hG hi2
    refine z_iload_3 dX7_firstBelow_24 ?_
    refine z_aload_0 dX7_firstBelow_25 ?_
    refine z_get (k := 0) (v := .ref 1) dX7_firstBelow_26 rfl rfl rfl (by decide) zf_X7_7 zw_in7 ?_
    refine z_iconst (v := 0) dX7_firstBelow_29 rfl ?_
    refine z_ialdN (k := 0) dX7_firstBelow_30 rfl (by first | omega | assumption) (by decide) ?_
    refine z_topi (w := S.2 0 (0)) rfl ?_
    refine z_topi (w := nI (n)) hG.1 ?_
    refine z_icmpN_ge_t (tgt := 51) dX7_firstBelow_31 (by decide) (x := i) (z := n) (by first | omega | assumption) (by first | omega | assumption) (by omega) ?_
    refine z_iconst (v := (-1)) dX7_firstBelow_51 rfl ?_
    rw [g_m_firstBelow_L]
    exact z_iret dX7_firstBelow_52 rfl (zint _) rfl rfl
  | succ fu ih =>
    intro i S h1 h40 hG hi2
    refine z_iload_3 dX7_firstBelow_24 ?_
    refine z_aload_0 dX7_firstBelow_25 ?_
    refine z_get (k := 0) (v := .ref 1) dX7_firstBelow_26 rfl rfl rfl (by decide) zf_X7_7 zw_in7 ?_
    refine z_iconst (v := 0) dX7_firstBelow_29 rfl ?_
    refine z_ialdN (k := 0) dX7_firstBelow_30 rfl (by first | omega | assumption) (by decide) ?_
    refine z_topi (w := S.2 0 (0)) rfl ?_
    refine z_topi (w := nI (n)) hG.1 ?_
    refine z_icmpN_ge_f (tgt := 51) dX7_firstBelow_31 (by decide) (x := i) (z := n) (by first | omega | assumption) (by first | omega | assumption) (by omega) ?_
    refine z_aload_0 dX7_firstBelow_34 ?_
    refine z_iload_3 dX7_firstBelow_35 ?_
    refine Z.call0s (zRun.V (ρ := fun i => i) (k_m_valueG n i S h1 h40 (by first | omega | assumption) hG) dX7_firstBelow_36 zy_X7_value zm_X7_120 rfl rfl rfl rfl (Nat.le_of_ble_eq_true rfl) (by decide) (by decide)) (zlen2 14 rfl rfl) ?_
    refine z_iload_2 dX7_firstBelow_39 ?_
    refine z_icmp_ge (tgt := 45) dX7_firstBelow_40 (by decide) (fun c40 => ?_) (fun c40 => ?_)
    · refine z_iinc_3 (v := nI (i + 1)) dX7_firstBelow_45 (nI_add _ 1) rfl (by decide) ?_
      refine z_goto (tgt := 24) dX7_firstBelow_48 (by decide) ?_
      rw [g_m_firstBelow_L, if_pos c40]
      exact ih (i + 1) S (by first | omega | assumption) (by first | omega | assumption) hG (by first | omega | assumption)
    · refine z_iload_3 dX7_firstBelow_43 ?_
      rw [g_m_firstBelow_L, if_neg c40]
      exact z_iret dX7_firstBelow_44 rfl (zint _) rfl rfl
noncomputable def g_m_firstBelow (n : Nat) (f : Nat) (v : Int32) (S : ZS) : Int32 × ZS := (if v ≤ (g_m_value n f (sI 15 (0) S)).1 then g_m_firstBelow_L n f v (n - (f + 1)) (f + 1) (g_m_grows n (sI 15 (0) S)) else (nI (f), (g_m_grows n (sI 15 (0) S))))
theorem k_m_firstBelow (n : Nat) (f : Nat) (v : Int32) (S : ZS) (h1 : 1 ≤ n) (h40 : n ≤ 40) (hi : f < n) (hO : mOK n S) : zM sc yX7_firstBelow cX7_firstBelow 4 (some .int) 2 0 0 [.ref 0, .int (nI (f)), .int (v)] (mh S) (.inl (some (.int (g_m_firstBelow n f v S).1))) (mh (g_m_firstBelow n f v S).2) := by
  refine zM.at (ls := [some (.ref 0), some (.int (nI (f))), some (.int (v)), none]) zy_X7_firstBelow.2.2.2.2.2 (Nat.le_of_ble_eq_true rfl) rfl ?_
  refine z_aload_0 dX7_firstBelow_0 ?_
  refine z_aload_0 dX7_firstBelow_1 ?_
  refine z_iload_1 dX7_firstBelow_2 ?_
  refine Z.call0s (zRun.V (ρ := fun i => i) (k_m_isIndex (nI (f)) S ) dX7_firstBelow_3 zy_X7_isIndex zm_X7_71 rfl rfl rfl rfl (Nat.le_of_ble_eq_true rfl) (by decide) (by decide)) (zlen2 14 rfl rfl) ?_
  refine z_topi (w := 1) (by rw [isIndex_ok h1 h40 hO.1 hi]; rfl) ?_
  refine z_if_ne_t (tgt := 13) dX7_firstBelow_6 (by decide) (by decide) ?_
  refine z_iconst (v := 0) dX7_firstBelow_13 rfl ?_
  refine Z.call0s (zRun.V (ρ := fun i => i) (k_m_throwsOne (false) S ) dX7_firstBelow_14 zy_X7_throwsOne zm_X7_284 rfl rfl rfl rfl (Nat.le_of_ble_eq_true rfl) (by decide) (by decide)) (zlen2 14 rfl rfl) ?_
  refine Z.heap (h2 := mh (sI 15 (0) S)) rfl ?_
  refine z_topi (w := 0) rfl ?_
  refine z_if_eq_t (tgt := 22) dX7_firstBelow_17 (by decide) (by decide) ?_
  refine z_iload_1 dX7_firstBelow_22 ?_
  refine z_istore_3 dX7_firstBelow_23 rfl (by decide) ?_
  refine z_iload_3 dX7_firstBelow_24 ?_
  refine z_aload_0 dX7_firstBelow_25 ?_
  refine z_get (k := 0) (v := .ref 1) dX7_firstBelow_26 rfl rfl rfl (by decide) zf_X7_7 zw_in7 ?_
  refine z_iconst (v := 0) dX7_firstBelow_29 rfl ?_
  refine z_ialdN (k := 0) dX7_firstBelow_30 rfl (by first | omega | assumption) (by decide) ?_
  refine z_topi (w := S.2 0 (0)) (by rw [sI_2]) ?_
  refine z_topi (w := nI (n)) hO.1 ?_
  refine z_icmpN_ge_f (tgt := 51) dX7_firstBelow_31 (by decide) (x := f) (z := n) (by first | omega | assumption) (by first | omega | assumption) (by omega) ?_
  refine z_aload_0 dX7_firstBelow_34 ?_
  refine z_iload_3 dX7_firstBelow_35 ?_
  refine Z.call0s (zRun.V (ρ := fun i => i) (k_m_value n f (sI 15 (0) S) h1 h40 (by first | omega | assumption) (hO.sI (by decide))) dX7_firstBelow_36 zy_X7_value zm_X7_120 rfl rfl rfl rfl (Nat.le_of_ble_eq_true rfl) (by decide) (by decide)) (zlen2 14 rfl rfl) ?_
  refine Z.heap (h2 := mh (g_m_grows n (sI 15 (0) S))) (by rw [g_m_value_2]) ?_
  refine z_iload_2 dX7_firstBelow_39 ?_
  refine z_icmp_ge (tgt := 45) dX7_firstBelow_40 (by decide) (fun c40 => ?_) (fun c40 => ?_)
  · refine z_iinc_3 (v := nI (f + 1)) dX7_firstBelow_45 (nI_add _ 1) rfl (by decide) ?_
    refine z_goto (tgt := 24) dX7_firstBelow_48 (by decide) ?_
    rw [g_m_firstBelow, if_pos c40]
    exact l_g_m_firstBelow_L n f v (n - (f + 1)) (f + 1) (g_m_grows n (sI 15 (0) S)) (by first | omega | assumption) (by first | omega | assumption) (mGr_of h1 h40 (hO.sI (by decide))) (by first | omega | assumption)
  · refine z_iload_3 dX7_firstBelow_43 ?_
    rw [g_m_firstBelow, if_neg c40]
    exact z_iret dX7_firstBelow_44 rfl (zint _) rfl rfl
noncomputable def g_m_firstBelow_x1 (_x : Int32) (_v : Int32) (S : ZS) : Int32 × ZS := (0, (sI 15 (1) S))
theorem k_m_firstBelow_x1 (x : Int32) (v : Int32) (S : ZS) (hx : g_m_isIndex x S = false) : zM sc yX7_firstBelow cX7_firstBelow 4 (some .int) 2 0 0 [.ref 0, .int (x), .int (v)] (mh S) (.inl (some (.int (g_m_firstBelow_x1 x v S).1))) (mh (g_m_firstBelow_x1 x v S).2) := by
  refine zM.at (ls := [some (.ref 0), some (.int (x)), some (.int (v)), none]) zy_X7_firstBelow.2.2.2.2.2 (Nat.le_of_ble_eq_true rfl) rfl ?_
  refine z_aload_0 dX7_firstBelow_0 ?_
  refine z_aload_0 dX7_firstBelow_1 ?_
  refine z_iload_1 dX7_firstBelow_2 ?_
  refine Z.call0s (zRun.V (ρ := fun i => i) (k_m_isIndex (x) S ) dX7_firstBelow_3 zy_X7_isIndex zm_X7_71 rfl rfl rfl rfl (Nat.le_of_ble_eq_true rfl) (by decide) (by decide)) (zlen2 14 rfl rfl) ?_
  refine z_topi (w := 0) (by rw [hx]; rfl) ?_
  refine z_if_ne_f (tgt := 13) dX7_firstBelow_6 (by decide) (by decide) ?_
  refine z_iconst (v := 1) dX7_firstBelow_9 rfl ?_
  refine z_goto (tgt := 14) dX7_firstBelow_10 (by decide) ?_
  refine Z.call0s (zRun.V (ρ := fun i => i) (k_m_throwsOne (true) S ) dX7_firstBelow_14 zy_X7_throwsOne zm_X7_284 rfl rfl rfl rfl (Nat.le_of_ble_eq_true rfl) (by decide) (by decide)) (zlen2 14 rfl rfl) ?_
  refine Z.heap (h2 := mh (sI 15 (1) S)) rfl ?_
  refine z_topi (w := 1) rfl ?_
  refine z_if_eq_f (tgt := 22) dX7_firstBelow_17 (by decide) (by decide) ?_
  refine z_iconst (v := 0) dX7_firstBelow_20 rfl ?_
  rw [g_m_firstBelow_x1]
  exact z_iret dX7_firstBelow_21 rfl (zint _) rfl rfl
theorem zdecI (x : Int32) : x + Int32.ofInt (-1) = x - 1 := by
  rw [Int32.sub_eq_add_neg]
  rfl
noncomputable def g_m_lastAtLeast_L (n : Nat) (f : Nat) (v : Int32) : Nat → Int32 → Nat → ZS → Int32 × ZS
  | 0, _, _, S => ((-1), S)
  | fu + 1, x, _, S => (if (g_m_valueG n fu S) < v then g_m_lastAtLeast_L n f v fu (x + (-1)) fu S else (x, S))
theorem l_g_m_lastAtLeast_L (n : Nat) (f : Nat) (v : Int32) : ∀ (fu : Nat) (x : Int32) (q : Nat) (S : ZS) , (1 ≤ n) → (n ≤ 40) → (q = fu) → (q < n) → (x = nI q - 1) → (mGr n S) → Z sc yX7_lastAtLeast cX7_lastAtLeast 4 (some .int) 2 0 0 24 [some (.ref 0), some (.int (nI (f))), some (.int (v)), some (.int (x))] [] (mh S) (.inl (some (.int (g_m_lastAtLeast_L n f v fu x q S).1))) (mh (g_m_lastAtLeast_L n f v fu x q S).2) := by
  intro fu
  induction fu with
  | zero =>
    intro x q S h1 h40 hq hqn hx hG
    refine z_iload_3 dX7_lastAtLeast_24 ?_
    refine z_if_lt_t (tgt := 45) dX7_lastAtLeast_25 (by decide) (by rw [hx, hq]; decide) ?_
    refine z_iconst (v := (-1)) dX7_lastAtLeast_45 rfl ?_
    rw [g_m_lastAtLeast_L]
    exact z_iret dX7_lastAtLeast_46 rfl (zint _) rfl rfl
  | succ fu ih =>
    intro x q S h1 h40 hq hqn hx hG
    refine z_iload_3 dX7_lastAtLeast_24 ?_
    refine z_if_lt_f (tgt := 45) dX7_lastAtLeast_25 (by decide) (by rw [show x = nI fu by rw [hx, hq]; exact nI_pred fu]; exact nI_pos (by omega)) ?_
    have hxx : x = nI fu := by rw [hx, hq]; exact nI_pred fu
    refine z_aload_0 dX7_lastAtLeast_28 ?_
    refine z_iload_3 dX7_lastAtLeast_29 ?_
    refine z_topi (w := nI (fu)) hxx ?_
    refine Z.call0s (zRun.V (ρ := fun i => i) (k_m_valueG n fu S h1 h40 (by omega) hG) dX7_lastAtLeast_30 zy_X7_value zm_X7_120 rfl rfl rfl rfl (Nat.le_of_ble_eq_true rfl) (by decide) (by decide)) (zlen2 14 rfl rfl) ?_
    refine z_iload_2 dX7_lastAtLeast_33 ?_
    refine z_icmp_lt (tgt := 39) dX7_lastAtLeast_34 (by decide) (fun c34 => ?_) (fun c34 => ?_)
    · refine z_iinc_3 (v := x + (-1)) dX7_lastAtLeast_39 rfl rfl (by decide) ?_
      refine z_goto (tgt := 24) dX7_lastAtLeast_42 (by decide) ?_
      rw [g_m_lastAtLeast_L, if_pos c34]
      exact ih (x + (-1)) fu S (by first | omega | assumption) (by first | omega | assumption) (by first | omega | assumption) (by first | omega | assumption) (by rw [hxx, Int32.sub_eq_add_neg]) hG
    · refine z_iload_3 dX7_lastAtLeast_37 ?_
      rw [g_m_lastAtLeast_L, if_neg c34]
      exact z_iret dX7_lastAtLeast_38 rfl (zint _) rfl rfl
noncomputable def g_m_lastAtLeast (n : Nat) (f : Nat) (v : Int32) (S : ZS) : Int32 × ZS := (if (g_m_value n f (sI 15 (0) S)).1 < v then g_m_lastAtLeast_L n f v f (nI (f) - 1) f (g_m_grows n (sI 15 (0) S)) else (nI (f), (g_m_grows n (sI 15 (0) S))))
theorem k_m_lastAtLeast (n : Nat) (f : Nat) (v : Int32) (S : ZS) (h1 : 1 ≤ n) (h40 : n ≤ 40) (hi : f < n) (hO : mOK n S) : zM sc yX7_lastAtLeast cX7_lastAtLeast 4 (some .int) 2 0 0 [.ref 0, .int (nI (f)), .int (v)] (mh S) (.inl (some (.int (g_m_lastAtLeast n f v S).1))) (mh (g_m_lastAtLeast n f v S).2) := by
  refine zM.at (ls := [some (.ref 0), some (.int (nI (f))), some (.int (v)), none]) zy_X7_lastAtLeast.2.2.2.2.2 (Nat.le_of_ble_eq_true rfl) rfl ?_
  refine z_aload_0 dX7_lastAtLeast_0 ?_
  refine z_aload_0 dX7_lastAtLeast_1 ?_
  refine z_iload_1 dX7_lastAtLeast_2 ?_
  refine Z.call0s (zRun.V (ρ := fun i => i) (k_m_isIndex (nI (f)) S ) dX7_lastAtLeast_3 zy_X7_isIndex zm_X7_71 rfl rfl rfl rfl (Nat.le_of_ble_eq_true rfl) (by decide) (by decide)) (zlen2 14 rfl rfl) ?_
  refine z_topi (w := 1) (by rw [isIndex_ok h1 h40 hO.1 hi]; rfl) ?_
  refine z_if_ne_t (tgt := 13) dX7_lastAtLeast_6 (by decide) (by decide) ?_
  refine z_iconst (v := 0) dX7_lastAtLeast_13 rfl ?_
  refine Z.call0s (zRun.V (ρ := fun i => i) (k_m_throwsOne (false) S ) dX7_lastAtLeast_14 zy_X7_throwsOne zm_X7_284 rfl rfl rfl rfl (Nat.le_of_ble_eq_true rfl) (by decide) (by decide)) (zlen2 14 rfl rfl) ?_
  refine Z.heap (h2 := mh (sI 15 (0) S)) rfl ?_
  refine z_topi (w := 0) rfl ?_
  refine z_if_eq_t (tgt := 22) dX7_lastAtLeast_17 (by decide) (by decide) ?_
  refine z_iload_1 dX7_lastAtLeast_22 ?_
  refine z_istore_3 dX7_lastAtLeast_23 rfl (by decide) ?_
  refine z_iload_3 dX7_lastAtLeast_24 ?_
  refine z_ifN_lt_f (tgt := 45) dX7_lastAtLeast_25 (by decide) (x := f) (by first | omega | assumption) (by omega) ?_
  refine z_aload_0 dX7_lastAtLeast_28 ?_
  refine z_iload_3 dX7_lastAtLeast_29 ?_
  refine Z.call0s (zRun.V (ρ := fun i => i) (k_m_value n f (sI 15 (0) S) h1 h40 (by first | omega | assumption) (hO.sI (by decide))) dX7_lastAtLeast_30 zy_X7_value zm_X7_120 rfl rfl rfl rfl (Nat.le_of_ble_eq_true rfl) (by decide) (by decide)) (zlen2 14 rfl rfl) ?_
  refine Z.heap (h2 := mh (g_m_grows n (sI 15 (0) S))) (by rw [g_m_value_2]) ?_
  refine z_iload_2 dX7_lastAtLeast_33 ?_
  refine z_icmp_lt (tgt := 39) dX7_lastAtLeast_34 (by decide) (fun c34 => ?_) (fun c34 => ?_)
  · refine z_iinc_3 (v := nI (f) - 1) dX7_lastAtLeast_39 (zdecI _) rfl (by decide) ?_
    refine z_goto (tgt := 24) dX7_lastAtLeast_42 (by decide) ?_
    rw [g_m_lastAtLeast, if_pos c34]
    exact l_g_m_lastAtLeast_L n f v f (nI (f) - 1) f (g_m_grows n (sI 15 (0) S)) (by first | omega | assumption) (by first | omega | assumption) (by first | omega | assumption) (by first | omega | assumption) rfl (mGr_of h1 h40 (hO.sI (by decide)))
  · refine z_iload_3 dX7_lastAtLeast_37 ?_
    rw [g_m_lastAtLeast, if_neg c34]
    exact z_iret dX7_lastAtLeast_38 rfl (zint _) rfl rfl
noncomputable def g_m_lastAtLeast_x1 (_x : Int32) (_v : Int32) (S : ZS) : Int32 × ZS := (0, (sI 15 (1) S))
theorem k_m_lastAtLeast_x1 (x : Int32) (v : Int32) (S : ZS) (hx : g_m_isIndex x S = false) : zM sc yX7_lastAtLeast cX7_lastAtLeast 4 (some .int) 2 0 0 [.ref 0, .int (x), .int (v)] (mh S) (.inl (some (.int (g_m_lastAtLeast_x1 x v S).1))) (mh (g_m_lastAtLeast_x1 x v S).2) := by
  refine zM.at (ls := [some (.ref 0), some (.int (x)), some (.int (v)), none]) zy_X7_lastAtLeast.2.2.2.2.2 (Nat.le_of_ble_eq_true rfl) rfl ?_
  refine z_aload_0 dX7_lastAtLeast_0 ?_
  refine z_aload_0 dX7_lastAtLeast_1 ?_
  refine z_iload_1 dX7_lastAtLeast_2 ?_
  refine Z.call0s (zRun.V (ρ := fun i => i) (k_m_isIndex (x) S ) dX7_lastAtLeast_3 zy_X7_isIndex zm_X7_71 rfl rfl rfl rfl (Nat.le_of_ble_eq_true rfl) (by decide) (by decide)) (zlen2 14 rfl rfl) ?_
  refine z_topi (w := 0) (by rw [hx]; rfl) ?_
  refine z_if_ne_f (tgt := 13) dX7_lastAtLeast_6 (by decide) (by decide) ?_
  refine z_iconst (v := 1) dX7_lastAtLeast_9 rfl ?_
  refine z_goto (tgt := 14) dX7_lastAtLeast_10 (by decide) ?_
  refine Z.call0s (zRun.V (ρ := fun i => i) (k_m_throwsOne (true) S ) dX7_lastAtLeast_14 zy_X7_throwsOne zm_X7_284 rfl rfl rfl rfl (Nat.le_of_ble_eq_true rfl) (by decide) (by decide)) (zlen2 14 rfl rfl) ?_
  refine Z.heap (h2 := mh (sI 15 (1) S)) rfl ?_
  refine z_topi (w := 1) rfl ?_
  refine z_if_eq_f (tgt := 22) dX7_lastAtLeast_17 (by decide) (by decide) ?_
  refine z_iconst (v := 0) dX7_lastAtLeast_20 rfl ?_
  rw [g_m_lastAtLeast_x1]
  exact z_iret dX7_lastAtLeast_21 rfl (zint _) rfl rfl
noncomputable def g_m_longestRun_L (n : Nat) (v : Int32) : Nat → Int32 → Int32 → Nat → ZS → Int32 × ZS
  | 0, b, _, _, S => (b, S)
  | fu + 1, b, c, i, S => (if (g_m_valueG n i S) = v then g_m_longestRun_L n v fu (zmax (b) (c + 1)) (c + 1) (i + 1) S else g_m_longestRun_L n v fu (zmax (b) (0)) 0 (i + 1) S)
theorem l_g_m_longestRun_L (n : Nat) (v : Int32) : ∀ (fu : Nat) (b : Int32) (c : Int32) (i : Nat) (S : ZS) , (1 ≤ n) → (n ≤ 40) → (mGr n S) → (i + fu = n) → Z sc yX7_longestRun cX7_longestRun 5 (some .int) 2 0 0 12 [some (.ref 0), some (.int (v)), some (.int (b)), some (.int (c)), some (.int (nI (i)))] [] (mh S) (.inl (some (.int (g_m_longestRun_L n v fu b c i S).1))) (mh (g_m_longestRun_L n v fu b c i S).2) := by
  intro fu
  induction fu with
  | zero =>
    intro b c i S h1 h40 hG hi2
    refine z_iload_4 dX7_longestRun_12 ?_
    refine z_aload_0 dX7_longestRun_14 ?_
    refine z_get (k := 0) (v := .ref 1) dX7_longestRun_15 rfl rfl rfl (by decide) zf_X7_7 zw_in7 ?_
    refine z_iconst (v := 0) dX7_longestRun_18 rfl ?_
    refine z_ialdN (k := 0) dX7_longestRun_19 rfl (by first | omega | assumption) (by decide) ?_
    refine z_topi (w := S.2 0 (0)) rfl ?_
    refine z_topi (w := nI (n)) hG.1 ?_
    refine z_icmpN_ge_t (tgt := 53) dX7_longestRun_20 (by decide) (x := i) (z := n) (by first | omega | assumption) (by first | omega | assumption) (by omega) ?_
    refine z_iload_2 dX7_longestRun_53 ?_
    rw [g_m_longestRun_L]
    exact z_iret dX7_longestRun_54 rfl (zint _) rfl rfl
  | succ fu ih =>
    intro b c i S h1 h40 hG hi2
    refine z_iload_4 dX7_longestRun_12 ?_
    refine z_aload_0 dX7_longestRun_14 ?_
    refine z_get (k := 0) (v := .ref 1) dX7_longestRun_15 rfl rfl rfl (by decide) zf_X7_7 zw_in7 ?_
    refine z_iconst (v := 0) dX7_longestRun_18 rfl ?_
    refine z_ialdN (k := 0) dX7_longestRun_19 rfl (by first | omega | assumption) (by decide) ?_
    refine z_topi (w := S.2 0 (0)) rfl ?_
    refine z_topi (w := nI (n)) hG.1 ?_
    refine z_icmpN_ge_f (tgt := 53) dX7_longestRun_20 (by decide) (x := i) (z := n) (by first | omega | assumption) (by first | omega | assumption) (by omega) ?_
    refine z_aload_0 dX7_longestRun_23 ?_
    refine z_iload_4 dX7_longestRun_24 ?_
    refine Z.call0s (zRun.V (ρ := fun i => i) (k_m_valueG n i S h1 h40 (by first | omega | assumption) hG) dX7_longestRun_26 zy_X7_value zm_X7_120 rfl rfl rfl rfl (Nat.le_of_ble_eq_true rfl) (by decide) (by decide)) (zlen2 14 rfl rfl) ?_
    refine z_iload_1 dX7_longestRun_29 ?_
    refine z_icmp_ne (tgt := 39) dX7_longestRun_30 (by decide) (fun c30 => ?_) (fun c30 => ?_)
    · refine z_iconst (v := 0) dX7_longestRun_39 rfl ?_
      refine z_istore_3 dX7_longestRun_40 rfl (by decide) ?_
      refine z_iload_2 dX7_longestRun_41 ?_
      refine z_iload_3 dX7_longestRun_42 ?_
      refine z_mx dX7_longestRun_43 zm_X7_135 (by decide) (Nat.le_of_ble_eq_true rfl) ?_
      refine z_topi (w := zmax (b) (0)) rfl ?_
      refine z_istore_2 dX7_longestRun_46 rfl (by decide) ?_
      refine z_iinc_4 (v := nI (i + 1)) dX7_longestRun_47 (nI_add _ 1) rfl (by decide) ?_
      refine z_goto (tgt := 12) dX7_longestRun_50 (by decide) ?_
      rw [g_m_longestRun_L, if_neg c30]
      exact ih (zmax (b) (0)) 0 (i + 1) S (by first | omega | assumption) (by first | omega | assumption) hG (by first | omega | assumption)
    · refine z_iload_3 dX7_longestRun_33 ?_
      refine z_iconst (v := 1) dX7_longestRun_34 rfl ?_
      refine z_iadd dX7_longestRun_35 ?_
      refine z_goto (tgt := 40) dX7_longestRun_36 (by decide) ?_
      refine z_istore_3 dX7_longestRun_40 rfl (by decide) ?_
      refine z_iload_2 dX7_longestRun_41 ?_
      refine z_iload_3 dX7_longestRun_42 ?_
      refine z_mx dX7_longestRun_43 zm_X7_135 (by decide) (Nat.le_of_ble_eq_true rfl) ?_
      refine z_topi (w := zmax (b) (c + 1)) rfl ?_
      refine z_istore_2 dX7_longestRun_46 rfl (by decide) ?_
      refine z_iinc_4 (v := nI (i + 1)) dX7_longestRun_47 (nI_add _ 1) rfl (by decide) ?_
      refine z_goto (tgt := 12) dX7_longestRun_50 (by decide) ?_
      rw [g_m_longestRun_L, if_pos c30]
      exact ih (zmax (b) (c + 1)) (c + 1) (i + 1) S (by first | omega | assumption) (by first | omega | assumption) hG (by first | omega | assumption)
noncomputable def g_m_longestRun (n : Nat) (v : Int32) (S : ZS) : Int32 × ZS := (if (g_m_value n 0 (sI 15 (0) S)).1 = v then g_m_longestRun_L n v (n - 1) (zmax (0) (1)) 1 1 (g_m_grows n (sI 15 (0) S)) else g_m_longestRun_L n v (n - 1) (zmax (0) (0)) 0 1 (g_m_grows n (sI 15 (0) S)))
theorem k_m_longestRun (n : Nat) (v : Int32) (S : ZS) (h1 : 1 ≤ n) (h40 : n ≤ 40) (hO : mOK n S) : zM sc yX7_longestRun cX7_longestRun 5 (some .int) 2 0 0 [.ref 0, .int (v)] (mh S) (.inl (some (.int (g_m_longestRun n v S).1))) (mh (g_m_longestRun n v S).2) := by
  refine zM.at (ls := [some (.ref 0), some (.int (v)), none, none, none]) zy_X7_longestRun.2.2.2.2.2 (Nat.le_of_ble_eq_true rfl) rfl ?_
  refine z_aload_0 dX7_longestRun_0 ?_
  refine z_iconst (v := 0) dX7_longestRun_1 rfl ?_
  refine z_put (k := 15) (ty := tyX7) dX7_longestRun_2 rfl rfl (by decide) zf_X7_64 zw_in7 tyX7_ok nmX7 rfl (fun _ => ⟨rfl, rfl⟩) (Nat.le_of_ble_eq_true rfl) ?_
  refine Z.heap (h2 := mh (sI 15 (0) S)) rfl ?_
  refine z_iconst (v := 0) dX7_longestRun_5 rfl ?_
  refine z_istore_2 dX7_longestRun_6 rfl (by decide) ?_
  refine z_iconst (v := 0) dX7_longestRun_7 rfl ?_
  refine z_istore_3 dX7_longestRun_8 rfl (by decide) ?_
  refine z_iconst (v := 0) dX7_longestRun_9 rfl ?_
  refine z_istore_4 dX7_longestRun_10 rfl (by decide) ?_
  refine z_iload_4 dX7_longestRun_12 ?_
  refine z_aload_0 dX7_longestRun_14 ?_
  refine z_get (k := 0) (v := .ref 1) dX7_longestRun_15 rfl rfl rfl (by decide) zf_X7_7 zw_in7 ?_
  refine z_iconst (v := 0) dX7_longestRun_18 rfl ?_
  refine z_ialdN (k := 0) dX7_longestRun_19 rfl (by first | omega | assumption) (by decide) ?_
  refine z_topi (w := S.2 0 (0)) (by rw [sI_2]) ?_
  refine z_topi (w := nI (n)) hO.1 ?_
  refine z_icmpN_ge_f (tgt := 53) dX7_longestRun_20 (by decide) (x := 0) (z := n) (by first | omega | assumption) (by first | omega | assumption) (by omega) ?_
  refine z_aload_0 dX7_longestRun_23 ?_
  refine z_iload_4 dX7_longestRun_24 ?_
  refine Z.call0s (zRun.V (ρ := fun i => i) (k_m_value n 0 (sI 15 (0) S) h1 h40 (by first | omega | assumption) (hO.sI (by decide))) dX7_longestRun_26 zy_X7_value zm_X7_120 rfl rfl rfl rfl (Nat.le_of_ble_eq_true rfl) (by decide) (by decide)) (zlen2 14 rfl rfl) ?_
  refine Z.heap (h2 := mh (g_m_grows n (sI 15 (0) S))) (by rw [g_m_value_2]) ?_
  refine z_iload_1 dX7_longestRun_29 ?_
  refine z_icmp_ne (tgt := 39) dX7_longestRun_30 (by decide) (fun c30 => ?_) (fun c30 => ?_)
  · refine z_iconst (v := 0) dX7_longestRun_39 rfl ?_
    refine z_istore_3 dX7_longestRun_40 rfl (by decide) ?_
    refine z_iload_2 dX7_longestRun_41 ?_
    refine z_iload_3 dX7_longestRun_42 ?_
    refine z_mx dX7_longestRun_43 zm_X7_135 (by decide) (Nat.le_of_ble_eq_true rfl) ?_
    refine z_topi (w := zmax (0) (0)) rfl ?_
    refine z_istore_2 dX7_longestRun_46 rfl (by decide) ?_
    refine z_iinc_4 (v := 1) dX7_longestRun_47 rfl rfl (by decide) ?_
    refine z_goto (tgt := 12) dX7_longestRun_50 (by decide) ?_
    rw [g_m_longestRun, if_neg c30]
    exact l_g_m_longestRun_L n v (n - 1) (zmax (0) (0)) 0 1 (g_m_grows n (sI 15 (0) S)) (by first | omega | assumption) (by first | omega | assumption) (mGr_of h1 h40 (hO.sI (by decide))) (by first | omega | assumption)
  · refine z_iload_3 dX7_longestRun_33 ?_
    refine z_iconst (v := 1) dX7_longestRun_34 rfl ?_
    refine z_iadd dX7_longestRun_35 ?_
    refine z_topi (w := 1) (by decide) ?_
    refine z_goto (tgt := 40) dX7_longestRun_36 (by decide) ?_
    refine z_istore_3 dX7_longestRun_40 rfl (by decide) ?_
    refine z_iload_2 dX7_longestRun_41 ?_
    refine z_iload_3 dX7_longestRun_42 ?_
    refine z_mx dX7_longestRun_43 zm_X7_135 (by decide) (Nat.le_of_ble_eq_true rfl) ?_
    refine z_topi (w := zmax (0) (1)) rfl ?_
    refine z_istore_2 dX7_longestRun_46 rfl (by decide) ?_
    refine z_iinc_4 (v := 1) dX7_longestRun_47 rfl rfl (by decide) ?_
    refine z_goto (tgt := 12) dX7_longestRun_50 (by decide) ?_
    rw [g_m_longestRun, if_pos c30]
    exact l_g_m_longestRun_L n v (n - 1) (zmax (0) (1)) 1 1 (g_m_grows n (sI 15 (0) S)) (by first | omega | assumption) (by first | omega | assumption) (mGr_of h1 h40 (hO.sI (by decide))) (by first | omega | assumption)
noncomputable def g_m_occurrence_L (n : Nat) (v : Int32) (m : Int32) : Nat → Int32 → Nat → ZS → Int32 × ZS
  | 0, _, _, S => ((-1), S)
  | fu + 1, c, i, S => (if (g_m_valueG n i S) = v then (if c = m then (nI (i), S) else g_m_occurrence_L n v m fu (c + 1) (i + 1) S) else g_m_occurrence_L n v m fu c (i + 1) S)
theorem l_g_m_occurrence_L (n : Nat) (v : Int32) (m : Int32) : ∀ (fu : Nat) (c : Int32) (i : Nat) (S : ZS) , (1 ≤ n) → (n ≤ 40) → (mGr n S) → (i + fu = n) → Z sc yX7_occurrence cX7_occurrence 5 (some .int) 2 0 0 10 [some (.ref 0), some (.int (v)), some (.int (m)), some (.int (c)), some (.int (nI (i)))] [] (mh S) (.inl (some (.int (g_m_occurrence_L n v m fu c i S).1))) (mh (g_m_occurrence_L n v m fu c i S).2) := by
  intro fu
  induction fu with
  | zero =>
    intro c i S h1 h40 hG hi2
    refine z_iload_4 dX7_occurrence_10 ?_
    refine z_aload_0 dX7_occurrence_12 ?_
    refine z_get (k := 0) (v := .ref 1) dX7_occurrence_13 rfl rfl rfl (by decide) zf_X7_7 zw_in7 ?_
    refine z_iconst (v := 0) dX7_occurrence_16 rfl ?_
    refine z_ialdN (k := 0) dX7_occurrence_17 rfl (by first | omega | assumption) (by decide) ?_
    refine z_topi (w := S.2 0 (0)) rfl ?_
    refine z_topi (w := nI (n)) hG.1 ?_
    refine z_icmpN_ge_t (tgt := 48) dX7_occurrence_18 (by decide) (x := i) (z := n) (by first | omega | assumption) (by first | omega | assumption) (by omega) ?_
    refine z_iconst (v := (-1)) dX7_occurrence_48 rfl ?_
    rw [g_m_occurrence_L]
    exact z_iret dX7_occurrence_49 rfl (zint _) rfl rfl
  | succ fu ih =>
    intro c i S h1 h40 hG hi2
    refine z_iload_4 dX7_occurrence_10 ?_
    refine z_aload_0 dX7_occurrence_12 ?_
    refine z_get (k := 0) (v := .ref 1) dX7_occurrence_13 rfl rfl rfl (by decide) zf_X7_7 zw_in7 ?_
    refine z_iconst (v := 0) dX7_occurrence_16 rfl ?_
    refine z_ialdN (k := 0) dX7_occurrence_17 rfl (by first | omega | assumption) (by decide) ?_
    refine z_topi (w := S.2 0 (0)) rfl ?_
    refine z_topi (w := nI (n)) hG.1 ?_
    refine z_icmpN_ge_f (tgt := 48) dX7_occurrence_18 (by decide) (x := i) (z := n) (by first | omega | assumption) (by first | omega | assumption) (by omega) ?_
    refine z_aload_0 dX7_occurrence_21 ?_
    refine z_iload_4 dX7_occurrence_22 ?_
    refine Z.call0s (zRun.V (ρ := fun i => i) (k_m_valueG n i S h1 h40 (by first | omega | assumption) hG) dX7_occurrence_24 zy_X7_value zm_X7_120 rfl rfl rfl rfl (Nat.le_of_ble_eq_true rfl) (by decide) (by decide)) (zlen2 14 rfl rfl) ?_
    refine z_iload_1 dX7_occurrence_27 ?_
    refine z_icmp_ne (tgt := 42) dX7_occurrence_28 (by decide) (fun c28 => ?_) (fun c28 => ?_)
    · refine z_iinc_4 (v := nI (i + 1)) dX7_occurrence_42 (nI_add _ 1) rfl (by decide) ?_
      refine z_goto (tgt := 10) dX7_occurrence_45 (by decide) ?_
      rw [g_m_occurrence_L, if_neg c28]
      exact ih c (i + 1) S (by first | omega | assumption) (by first | omega | assumption) hG (by first | omega | assumption)
    · refine z_iload_3 dX7_occurrence_31 ?_
      refine z_iload_2 dX7_occurrence_32 ?_
      refine z_icmp_ne (tgt := 39) dX7_occurrence_33 (by decide) (fun c33 => ?_) (fun c33 => ?_)
      · refine z_iinc_3 (v := c + 1) dX7_occurrence_39 rfl rfl (by decide) ?_
        refine z_iinc_4 (v := nI (i + 1)) dX7_occurrence_42 (nI_add _ 1) rfl (by decide) ?_
        refine z_goto (tgt := 10) dX7_occurrence_45 (by decide) ?_
        rw [g_m_occurrence_L, if_pos c28, if_neg c33]
        exact ih (c + 1) (i + 1) S (by first | omega | assumption) (by first | omega | assumption) hG (by first | omega | assumption)
      · refine z_iload_4 dX7_occurrence_36 ?_
        rw [g_m_occurrence_L, if_pos c28, if_pos c33]
        exact z_iret dX7_occurrence_38 rfl (zint _) rfl rfl
noncomputable def g_m_occurrence (n : Nat) (v : Int32) (m : Int32) (S : ZS) : Int32 × ZS := (if (g_m_value n 0 (sI 15 (0) S)).1 = v then (if 0 = m then (0, (g_m_grows n (sI 15 (0) S))) else g_m_occurrence_L n v m (n - 1) 1 1 (g_m_grows n (sI 15 (0) S))) else g_m_occurrence_L n v m (n - 1) 0 1 (g_m_grows n (sI 15 (0) S)))
theorem k_m_occurrence (n : Nat) (v : Int32) (m : Int32) (S : ZS) (h1 : 1 ≤ n) (h40 : n ≤ 40) (hO : mOK n S) : zM sc yX7_occurrence cX7_occurrence 5 (some .int) 2 0 0 [.ref 0, .int (v), .int (m)] (mh S) (.inl (some (.int (g_m_occurrence n v m S).1))) (mh (g_m_occurrence n v m S).2) := by
  refine zM.at (ls := [some (.ref 0), some (.int (v)), some (.int (m)), none, none]) zy_X7_occurrence.2.2.2.2.2 (Nat.le_of_ble_eq_true rfl) rfl ?_
  refine z_aload_0 dX7_occurrence_0 ?_
  refine z_iconst (v := 0) dX7_occurrence_1 rfl ?_
  refine z_put (k := 15) (ty := tyX7) dX7_occurrence_2 rfl rfl (by decide) zf_X7_64 zw_in7 tyX7_ok nmX7 rfl (fun _ => ⟨rfl, rfl⟩) (Nat.le_of_ble_eq_true rfl) ?_
  refine Z.heap (h2 := mh (sI 15 (0) S)) rfl ?_
  refine z_iconst (v := 0) dX7_occurrence_5 rfl ?_
  refine z_istore_3 dX7_occurrence_6 rfl (by decide) ?_
  refine z_iconst (v := 0) dX7_occurrence_7 rfl ?_
  refine z_istore_4 dX7_occurrence_8 rfl (by decide) ?_
  refine z_iload_4 dX7_occurrence_10 ?_
  refine z_aload_0 dX7_occurrence_12 ?_
  refine z_get (k := 0) (v := .ref 1) dX7_occurrence_13 rfl rfl rfl (by decide) zf_X7_7 zw_in7 ?_
  refine z_iconst (v := 0) dX7_occurrence_16 rfl ?_
  refine z_ialdN (k := 0) dX7_occurrence_17 rfl (by first | omega | assumption) (by decide) ?_
  refine z_topi (w := S.2 0 (0)) (by rw [sI_2]) ?_
  refine z_topi (w := nI (n)) hO.1 ?_
  refine z_icmpN_ge_f (tgt := 48) dX7_occurrence_18 (by decide) (x := 0) (z := n) (by first | omega | assumption) (by first | omega | assumption) (by omega) ?_
  refine z_aload_0 dX7_occurrence_21 ?_
  refine z_iload_4 dX7_occurrence_22 ?_
  refine Z.call0s (zRun.V (ρ := fun i => i) (k_m_value n 0 (sI 15 (0) S) h1 h40 (by first | omega | assumption) (hO.sI (by decide))) dX7_occurrence_24 zy_X7_value zm_X7_120 rfl rfl rfl rfl (Nat.le_of_ble_eq_true rfl) (by decide) (by decide)) (zlen2 14 rfl rfl) ?_
  refine Z.heap (h2 := mh (g_m_grows n (sI 15 (0) S))) (by rw [g_m_value_2]) ?_
  refine z_iload_1 dX7_occurrence_27 ?_
  refine z_icmp_ne (tgt := 42) dX7_occurrence_28 (by decide) (fun c28 => ?_) (fun c28 => ?_)
  · refine z_iinc_4 (v := 1) dX7_occurrence_42 rfl rfl (by decide) ?_
    refine z_goto (tgt := 10) dX7_occurrence_45 (by decide) ?_
    rw [g_m_occurrence, if_neg c28]
    exact l_g_m_occurrence_L n v m (n - 1) 0 1 (g_m_grows n (sI 15 (0) S)) (by first | omega | assumption) (by first | omega | assumption) (mGr_of h1 h40 (hO.sI (by decide))) (by first | omega | assumption)
  · refine z_iload_3 dX7_occurrence_31 ?_
    refine z_iload_2 dX7_occurrence_32 ?_
    refine z_icmp_ne (tgt := 39) dX7_occurrence_33 (by decide) (fun c33 => ?_) (fun c33 => ?_)
    · refine z_iinc_3 (v := 1) dX7_occurrence_39 rfl rfl (by decide) ?_
      refine z_iinc_4 (v := 1) dX7_occurrence_42 rfl rfl (by decide) ?_
      refine z_goto (tgt := 10) dX7_occurrence_45 (by decide) ?_
      rw [g_m_occurrence, if_pos c28, if_neg c33]
      exact l_g_m_occurrence_L n v m (n - 1) 1 1 (g_m_grows n (sI 15 (0) S)) (by first | omega | assumption) (by first | omega | assumption) (mGr_of h1 h40 (hO.sI (by decide))) (by first | omega | assumption)
    · refine z_iload_4 dX7_occurrence_36 ?_
      rw [g_m_occurrence, if_pos c28, if_pos c33]
      exact z_iret dX7_occurrence_38 rfl (zint _) rfl rfl
noncomputable def g_m_prefixAtLeast_L (n : Nat) (v : Int64) : Nat → Int64 → Nat → ZS → Int32 × ZS
  | 0, _, _, S => ((-1), S)
  | fu + 1, s, i, S => (if (s + (((g_m_valueG n i S)).toInt64)) < v then g_m_prefixAtLeast_L n v fu (s + (((g_m_valueG n i S)).toInt64)) (i + 1) S else (nI (i), S))
theorem l_g_m_prefixAtLeast_L (n : Nat) (v : Int64) : ∀ (fu : Nat) (s : Int64) (i : Nat) (S : ZS) , (1 ≤ n) → (n ≤ 40) → (mGr n S) → (i + fu = n) → Z sc yX7_prefixAtLeast cX7_prefixAtLeast 6 (some .int) 2 0 0 10 [some (.ref 0), some (.long (v)), none, some (.long (s)), none, some (.int (nI (i)))] [] (mh S) (.inl (some (.int (g_m_prefixAtLeast_L n v fu s i S).1))) (mh (g_m_prefixAtLeast_L n v fu s i S).2) := by
  intro fu
  induction fu with
  | zero =>
    intro s i S h1 h40 hG hi2
    refine z_iload_5 dX7_prefixAtLeast_10 ?_
    refine z_aload_0 dX7_prefixAtLeast_12 ?_
    refine z_get (k := 0) (v := .ref 1) dX7_prefixAtLeast_13 rfl rfl rfl (by decide) zf_X7_7 zw_in7 ?_
    refine z_iconst (v := 0) dX7_prefixAtLeast_16 rfl ?_
    refine z_ialdN (k := 0) dX7_prefixAtLeast_17 rfl (by first | omega | assumption) (by decide) ?_
    refine z_topi (w := S.2 0 (0)) rfl ?_
    refine z_topi (w := nI (n)) hG.1 ?_
    refine z_icmpN_ge_t (tgt := 46) dX7_prefixAtLeast_18 (by decide) (x := i) (z := n) (by first | omega | assumption) (by first | omega | assumption) (by omega) ?_
    refine z_iconst (v := (-1)) dX7_prefixAtLeast_46 rfl ?_
    rw [g_m_prefixAtLeast_L]
    exact z_iret dX7_prefixAtLeast_47 rfl (zint _) rfl rfl
  | succ fu ih =>
    intro s i S h1 h40 hG hi2
    refine z_iload_5 dX7_prefixAtLeast_10 ?_
    refine z_aload_0 dX7_prefixAtLeast_12 ?_
    refine z_get (k := 0) (v := .ref 1) dX7_prefixAtLeast_13 rfl rfl rfl (by decide) zf_X7_7 zw_in7 ?_
    refine z_iconst (v := 0) dX7_prefixAtLeast_16 rfl ?_
    refine z_ialdN (k := 0) dX7_prefixAtLeast_17 rfl (by first | omega | assumption) (by decide) ?_
    refine z_topi (w := S.2 0 (0)) rfl ?_
    refine z_topi (w := nI (n)) hG.1 ?_
    refine z_icmpN_ge_f (tgt := 46) dX7_prefixAtLeast_18 (by decide) (x := i) (z := n) (by first | omega | assumption) (by first | omega | assumption) (by omega) ?_
    refine z_lload_3 dX7_prefixAtLeast_21 ?_
    refine z_aload_0 dX7_prefixAtLeast_22 ?_
    refine z_iload_5 dX7_prefixAtLeast_23 ?_
    refine Z.call0s (zRun.V (ρ := fun i => i) (k_m_valueG n i S h1 h40 (by first | omega | assumption) hG) dX7_prefixAtLeast_25 zy_X7_value zm_X7_120 rfl rfl rfl rfl (Nat.le_of_ble_eq_true rfl) (by decide) (by decide)) (zlen2 14 rfl rfl) ?_
    refine z_i2l dX7_prefixAtLeast_28 ?_
    refine z_ladd dX7_prefixAtLeast_29 ?_
    refine z_lstore_3 dX7_prefixAtLeast_30 rfl (by decide) ?_
    refine z_lload_3 dX7_prefixAtLeast_31 ?_
    refine z_lload_1 dX7_prefixAtLeast_32 ?_
    refine z_lcmp dX7_prefixAtLeast_33 ?_
    refine z_ifQ_lt (tgt := 40) dX7_prefixAtLeast_34 (by decide) (fun c34 => ?_) (fun c34 => ?_)
    · refine z_iinc_5 (v := nI (i + 1)) dX7_prefixAtLeast_40 (nI_add _ 1) rfl (by decide) ?_
      refine z_goto (tgt := 10) dX7_prefixAtLeast_43 (by decide) ?_
      rw [g_m_prefixAtLeast_L, if_pos c34]
      exact ih (s + (((g_m_valueG n i S)).toInt64)) (i + 1) S (by first | omega | assumption) (by first | omega | assumption) hG (by first | omega | assumption)
    · refine z_iload_5 dX7_prefixAtLeast_37 ?_
      rw [g_m_prefixAtLeast_L, if_neg c34]
      exact z_iret dX7_prefixAtLeast_39 rfl (zint _) rfl rfl
noncomputable def g_m_prefixAtLeast (n : Nat) (v : Int64) (S : ZS) : Int32 × ZS := (if (0 + (((g_m_value n 0 (sI 15 (0) S)).1).toInt64)) < v then g_m_prefixAtLeast_L n v (n - 1) (0 + (((g_m_value n 0 (sI 15 (0) S)).1).toInt64)) 1 (g_m_grows n (sI 15 (0) S)) else (0, (g_m_grows n (sI 15 (0) S))))
theorem k_m_prefixAtLeast (n : Nat) (v : Int64) (S : ZS) (h1 : 1 ≤ n) (h40 : n ≤ 40) (hO : mOK n S) : zM sc yX7_prefixAtLeast cX7_prefixAtLeast 6 (some .int) 2 0 0 [.ref 0, .long (v)] (mh S) (.inl (some (.int (g_m_prefixAtLeast n v S).1))) (mh (g_m_prefixAtLeast n v S).2) := by
  refine zM.at (ls := [some (.ref 0), some (.long (v)), none, none, none, none]) zy_X7_prefixAtLeast.2.2.2.2.2 (Nat.le_of_ble_eq_true rfl) rfl ?_
  refine z_aload_0 dX7_prefixAtLeast_0 ?_
  refine z_iconst (v := 0) dX7_prefixAtLeast_1 rfl ?_
  refine z_put (k := 15) (ty := tyX7) dX7_prefixAtLeast_2 rfl rfl (by decide) zf_X7_64 zw_in7 tyX7_ok nmX7 rfl (fun _ => ⟨rfl, rfl⟩) (Nat.le_of_ble_eq_true rfl) ?_
  refine Z.heap (h2 := mh (sI 15 (0) S)) rfl ?_
  refine z_lconst (v := 0) dX7_prefixAtLeast_5 rfl ?_
  refine z_lstore_3 dX7_prefixAtLeast_6 rfl (by decide) ?_
  refine z_iconst (v := 0) dX7_prefixAtLeast_7 rfl ?_
  refine z_istore_5 dX7_prefixAtLeast_8 rfl (by decide) ?_
  refine z_iload_5 dX7_prefixAtLeast_10 ?_
  refine z_aload_0 dX7_prefixAtLeast_12 ?_
  refine z_get (k := 0) (v := .ref 1) dX7_prefixAtLeast_13 rfl rfl rfl (by decide) zf_X7_7 zw_in7 ?_
  refine z_iconst (v := 0) dX7_prefixAtLeast_16 rfl ?_
  refine z_ialdN (k := 0) dX7_prefixAtLeast_17 rfl (by first | omega | assumption) (by decide) ?_
  refine z_topi (w := S.2 0 (0)) (by rw [sI_2]) ?_
  refine z_topi (w := nI (n)) hO.1 ?_
  refine z_icmpN_ge_f (tgt := 46) dX7_prefixAtLeast_18 (by decide) (x := 0) (z := n) (by first | omega | assumption) (by first | omega | assumption) (by omega) ?_
  refine z_lload_3 dX7_prefixAtLeast_21 ?_
  refine z_aload_0 dX7_prefixAtLeast_22 ?_
  refine z_iload_5 dX7_prefixAtLeast_23 ?_
  refine Z.call0s (zRun.V (ρ := fun i => i) (k_m_value n 0 (sI 15 (0) S) h1 h40 (by first | omega | assumption) (hO.sI (by decide))) dX7_prefixAtLeast_25 zy_X7_value zm_X7_120 rfl rfl rfl rfl (Nat.le_of_ble_eq_true rfl) (by decide) (by decide)) (zlen2 14 rfl rfl) ?_
  refine Z.heap (h2 := mh (g_m_grows n (sI 15 (0) S))) (by rw [g_m_value_2]) ?_
  refine z_i2l dX7_prefixAtLeast_28 ?_
  refine z_ladd dX7_prefixAtLeast_29 ?_
  refine z_lstore_3 dX7_prefixAtLeast_30 rfl (by decide) ?_
  refine z_lload_3 dX7_prefixAtLeast_31 ?_
  refine z_lload_1 dX7_prefixAtLeast_32 ?_
  refine z_lcmp dX7_prefixAtLeast_33 ?_
  refine z_ifQ_lt (tgt := 40) dX7_prefixAtLeast_34 (by decide) (fun c34 => ?_) (fun c34 => ?_)
  · refine z_iinc_5 (v := 1) dX7_prefixAtLeast_40 rfl rfl (by decide) ?_
    refine z_goto (tgt := 10) dX7_prefixAtLeast_43 (by decide) ?_
    rw [g_m_prefixAtLeast, if_pos c34]
    exact l_g_m_prefixAtLeast_L n v (n - 1) (0 + (((g_m_value n 0 (sI 15 (0) S)).1).toInt64)) 1 (g_m_grows n (sI 15 (0) S)) (by first | omega | assumption) (by first | omega | assumption) (mGr_of h1 h40 (hO.sI (by decide))) (by first | omega | assumption)
  · refine z_iload_5 dX7_prefixAtLeast_37 ?_
    rw [g_m_prefixAtLeast, if_neg c34]
    exact z_iret dX7_prefixAtLeast_39 rfl (zint _) rfl rfl
