variable {sc : SC}

noncomputable def s_m_readsAssign_1 (tl : Nat) (n : Nat) (S : ZS) : ZS := (g_m_updates n (mN (g_m_range tl S).2 0) (mN (g_m_range tl S).2 1) (0) (((g_m_valueAt tl 2 (g_m_range tl S).2).2).2 12 (2)) ((g_m_valueAt tl 2 (g_m_range tl S).2).2)).2
noncomputable def g_m_readsAssign (tl : Nat) (n : Nat) (S : ZS) : Bool × ZS := (if ((g_m_range tl S).1) = true then (if ((g_m_valueAt tl 2 ((g_m_range tl S).2)).1) = true then (if ((g_m_stops (true) ((g_m_valueAt tl 2 ((g_m_range tl S).2)).2)).1) = true then (true, (s_m_readsAssign_1 tl n S)) else (false, (g_m_stops (true) ((g_m_valueAt tl 2 ((g_m_range tl S).2)).2)).2)) else (false, (g_m_valueAt tl 2 ((g_m_range tl S).2)).2)) else (false, (g_m_range tl S).2))
theorem k_m_readsAssign (tl : Nat) (n : Nat) (S : ZS) (hL : mLx tl S) (h1 : 1 ≤ n) (h40 : n ≤ 40) (hO : mOK n S) : zM sc yX7_readsAssign cX7_readsAssign 1 (some .boolean) 12 0 0 [.ref 0] (mh S) (.inl (some (.int (zb (g_m_readsAssign tl n S).1)))) (mh (g_m_readsAssign tl n S).2) := by
  refine zM.at (ls := [some (.ref 0)]) zy_X7_readsAssign.2.2.2.2.2 (Nat.le_of_ble_eq_true rfl) rfl ?_
  refine z_aload_0 dX7_readsAssign_0 ?_
  refine Z.call0s (zRun.V (ρ := fun i => i) (k_m_range tl S hL) dX7_readsAssign_1 zy_X7_range zm_X7_197 rfl rfl rfl rfl (Nat.le_of_ble_eq_true rfl) (by decide) (by decide)) (zlen2 14 rfl rfl) ?_
  refine z_ifB_eq (tgt := 23) dX7_readsAssign_4 (by decide) (fun c4 => ?_) (fun c4 => ?_)
  · refine z_iconst (v := 0) dX7_readsAssign_23 rfl ?_
    rw [g_m_readsAssign, if_neg c4]
    exact z_iret dX7_readsAssign_24 rfl rfl rfl rfl
  · refine z_aload_0 dX7_readsAssign_7 ?_
    refine z_iconst (v := 2) dX7_readsAssign_8 rfl ?_
    refine Z.call0s (zRun.V (ρ := fun i => i) (k_m_valueAt tl 2 ((g_m_range tl S).2) (lx_range hL) (by decide)) dX7_readsAssign_9 zy_X7_valueAt zm_X7_200 rfl rfl rfl rfl (Nat.le_of_ble_eq_true rfl) (by decide) (by decide)) (zlen2 14 rfl rfl) ?_
    refine z_ifB_eq (tgt := 23) dX7_readsAssign_12 (by decide) (fun c12 => ?_) (fun c12 => ?_)
    · refine z_iconst (v := 0) dX7_readsAssign_23 rfl ?_
      rw [g_m_readsAssign, if_pos c4, if_neg c12]
      exact z_iret dX7_readsAssign_24 rfl rfl rfl rfl
    · refine z_aload_0 dX7_readsAssign_15 ?_
      refine z_iconst (v := 1) dX7_readsAssign_16 rfl ?_
      refine Z.call0s (zRun.V (ρ := fun i => i) (k_m_stops (true) ((g_m_valueAt tl 2 ((g_m_range tl S).2)).2) ) dX7_readsAssign_17 zy_X7_stops zm_X7_203 rfl rfl rfl rfl (Nat.le_of_ble_eq_true rfl) (by decide) (by decide)) (zlen2 14 rfl rfl) ?_
      refine z_ifB_ne (tgt := 25) dX7_readsAssign_20 (by decide) (fun c20 => ?_) (fun c20 => ?_)
      · refine Z.heap (h2 := mh (g_m_valueAt tl 2 (g_m_range tl S).2).2) (by rw [(stops_t2 c20).1]) ?_
        refine z_aload_0 dX7_readsAssign_25 ?_
        refine z_aload_0 dX7_readsAssign_26 ?_
        refine z_get (k := 28) (v := .ref 13) dX7_readsAssign_27 rfl rfl rfl (by decide) zf_X7_51 zw_in7 ?_
        refine z_iconst (v := 0) dX7_readsAssign_30 rfl ?_
        refine z_ialdN (k := 0) dX7_readsAssign_31 rfl (by first | omega | assumption) (by decide) ?_
        refine z_topi (w := ((g_m_valueAt tl 2 (g_m_range tl S).2).2).2 12 (0)) rfl ?_
        refine z_topi (w := nI (mN (g_m_range tl S).2 0)) ((valueAt_num (lx_range hL) (by decide)).trans (range_t hL hO.1 h1 h40 c4).1) ?_
        refine z_aload_0 dX7_readsAssign_32 ?_
        refine z_get (k := 28) (v := .ref 13) dX7_readsAssign_33 rfl rfl rfl (by decide) zf_X7_51 zw_in7 ?_
        refine z_iconst (v := 1) dX7_readsAssign_36 rfl ?_
        refine z_ialdN (k := 1) dX7_readsAssign_37 rfl (by first | omega | assumption) (by decide) ?_
        refine z_topi (w := ((g_m_valueAt tl 2 (g_m_range tl S).2).2).2 12 (1)) rfl ?_
        refine z_topi (w := nI (mN (g_m_range tl S).2 1)) ((valueAt_num (lx_range hL) (by decide)).trans (range_t hL hO.1 h1 h40 c4).2.1) ?_
        refine z_iconst (v := 0) dX7_readsAssign_38 rfl ?_
        refine z_aload_0 dX7_readsAssign_39 ?_
        refine z_get (k := 28) (v := .ref 13) dX7_readsAssign_40 rfl rfl rfl (by decide) zf_X7_51 zw_in7 ?_
        refine z_iconst (v := 2) dX7_readsAssign_43 rfl ?_
        refine z_ialdN (k := 2) dX7_readsAssign_44 rfl (by first | omega | assumption) (by decide) ?_
        refine z_topi (w := ((g_m_valueAt tl 2 (g_m_range tl S).2).2).2 12 (2)) rfl ?_
        refine Z.call0s (zRun.V (ρ := fun i => i) (k_m_updates n (mN (g_m_range tl S).2 0) (mN (g_m_range tl S).2 1) (0) (((g_m_valueAt tl 2 (g_m_range tl S).2).2).2 12 (2)) ((g_m_valueAt tl 2 (g_m_range tl S).2).2) h1 h40 (range_t hL hO.1 h1 h40 c4).2.2.1 (range_t hL hO.1 h1 h40 c4).2.2.2 ((kp_valueAt (lx_range hL)).ok ((kp_range hL).ok hO))) dX7_readsAssign_45 zy_X7_updates zm_X7_116 rfl rfl rfl rfl (Nat.le_of_ble_eq_true rfl) (by decide) (by decide)) (zlen2 14 rfl rfl) ?_
        refine z_pop dX7_readsAssign_48 rfl ?_
        refine z_iconst (v := 1) dX7_readsAssign_49 rfl ?_
        rw [g_m_readsAssign, if_pos c4, if_pos c12, if_pos c20]
        exact z_iret dX7_readsAssign_50 rfl rfl rfl rfl
      · refine z_iconst (v := 0) dX7_readsAssign_23 rfl ?_
        rw [g_m_readsAssign, if_pos c4, if_pos c12, if_neg c20]
        exact z_iret dX7_readsAssign_24 rfl rfl rfl rfl
noncomputable def s_m_readsAdd_1 (tl : Nat) (n : Nat) (S : ZS) : ZS := (g_m_fits n (mN (g_m_range tl S).2 0) (mN (g_m_range tl S).2 1) (((g_m_valueAt tl 2 (g_m_range tl S).2).2).2 12 (2)) ((g_m_valueAt tl 2 (g_m_range tl S).2).2)).2
noncomputable def s_m_readsAdd_2 (tl : Nat) (n : Nat) (S : ZS) : ZS := (g_m_stops ((g_m_fits n (mN (g_m_range tl S).2 0) (mN (g_m_range tl S).2 1) (((g_m_valueAt tl 2 (g_m_range tl S).2).2).2 12 (2)) ((g_m_valueAt tl 2 (g_m_range tl S).2).2)).1) (g_m_grows n (g_m_valueAt tl 2 (g_m_range tl S).2).2)).2
noncomputable def s_m_readsAdd_3 (tl : Nat) (n : Nat) (S : ZS) : ZS := (g_m_updates n (mN (g_m_range tl S).2 0) (mN (g_m_range tl S).2 1) (1) (((g_m_grows n (g_m_valueAt tl 2 (g_m_range tl S).2).2)).2 12 (2)) (g_m_grows n (g_m_valueAt tl 2 (g_m_range tl S).2).2)).2
noncomputable def g_m_readsAdd (tl : Nat) (n : Nat) (S : ZS) : Bool × ZS := (if ((g_m_range tl S).1) = true then (if ((g_m_valueAt tl 2 ((g_m_range tl S).2)).1) = true then (if ((g_m_is (1) ((g_m_valueAt tl 2 ((g_m_range tl S).2)).2)).1) = true then (if ((g_m_stops ((g_m_fits n (mN (g_m_range tl S).2 0) (mN (g_m_range tl S).2 1) (((g_m_valueAt tl 2 (g_m_range tl S).2).2).2 12 (2)) ((g_m_valueAt tl 2 (g_m_range tl S).2).2)).1) (g_m_grows n (g_m_valueAt tl 2 (g_m_range tl S).2).2)).1) = true then (true, (s_m_readsAdd_3 tl n S)) else (false, (s_m_readsAdd_2 tl n S))) else (false, (g_m_is (1) ((g_m_valueAt tl 2 ((g_m_range tl S).2)).2)).2)) else (false, (g_m_valueAt tl 2 ((g_m_range tl S).2)).2)) else (false, (g_m_range tl S).2))
theorem k_m_readsAdd (tl : Nat) (n : Nat) (S : ZS) (hL : mLx tl S) (h1 : 1 ≤ n) (h40 : n ≤ 40) (hO : mOK n S) : zM sc yX7_readsAdd cX7_readsAdd 1 (some .boolean) 12 0 0 [.ref 0] (mh S) (.inl (some (.int (zb (g_m_readsAdd tl n S).1)))) (mh (g_m_readsAdd tl n S).2) := by
  refine zM.at (ls := [some (.ref 0)]) zy_X7_readsAdd.2.2.2.2.2 (Nat.le_of_ble_eq_true rfl) rfl ?_
  refine z_aload_0 dX7_readsAdd_0 ?_
  refine Z.call0s (zRun.V (ρ := fun i => i) (k_m_range tl S hL) dX7_readsAdd_1 zy_X7_range zm_X7_197 rfl rfl rfl rfl (Nat.le_of_ble_eq_true rfl) (by decide) (by decide)) (zlen2 14 rfl rfl) ?_
  refine z_ifB_eq (tgt := 52) dX7_readsAdd_4 (by decide) (fun c4 => ?_) (fun c4 => ?_)
  · refine z_iconst (v := 0) dX7_readsAdd_52 rfl ?_
    rw [g_m_readsAdd, if_neg c4]
    exact z_iret dX7_readsAdd_53 rfl rfl rfl rfl
  · refine z_aload_0 dX7_readsAdd_7 ?_
    refine z_iconst (v := 2) dX7_readsAdd_8 rfl ?_
    refine Z.call0s (zRun.V (ρ := fun i => i) (k_m_valueAt tl 2 ((g_m_range tl S).2) (lx_range hL) (by decide)) dX7_readsAdd_9 zy_X7_valueAt zm_X7_200 rfl rfl rfl rfl (Nat.le_of_ble_eq_true rfl) (by decide) (by decide)) (zlen2 14 rfl rfl) ?_
    refine z_ifB_eq (tgt := 52) dX7_readsAdd_12 (by decide) (fun c12 => ?_) (fun c12 => ?_)
    · refine z_iconst (v := 0) dX7_readsAdd_52 rfl ?_
      rw [g_m_readsAdd, if_pos c4, if_neg c12]
      exact z_iret dX7_readsAdd_53 rfl rfl rfl rfl
    · refine z_aload_0 dX7_readsAdd_15 ?_
      refine z_iconst (v := 1) dX7_readsAdd_16 rfl ?_
      refine Z.call0s (zRun.V (ρ := fun i => i) (k_m_is (1) ((g_m_valueAt tl 2 ((g_m_range tl S).2)).2) ) dX7_readsAdd_17 zy_X7_is zm_X7_179 rfl rfl rfl rfl (Nat.le_of_ble_eq_true rfl) (by decide) (by decide)) (zlen2 14 rfl rfl) ?_
      refine z_ifB_eq (tgt := 52) dX7_readsAdd_20 (by decide) (fun c20 => ?_) (fun c20 => ?_)
      · refine z_iconst (v := 0) dX7_readsAdd_52 rfl ?_
        rw [g_m_readsAdd, if_pos c4, if_pos c12, if_neg c20]
        exact z_iret dX7_readsAdd_53 rfl rfl rfl rfl
      · refine Z.heap (h2 := mh (g_m_valueAt tl 2 (g_m_range tl S).2).2) (by rw [is_t2 c20]) ?_
        refine z_aload_0 dX7_readsAdd_23 ?_
        refine z_aload_0 dX7_readsAdd_24 ?_
        refine z_aload_0 dX7_readsAdd_25 ?_
        refine z_get (k := 28) (v := .ref 13) dX7_readsAdd_26 rfl rfl rfl (by decide) zf_X7_51 zw_in7 ?_
        refine z_iconst (v := 0) dX7_readsAdd_29 rfl ?_
        refine z_ialdN (k := 0) dX7_readsAdd_30 rfl (by first | omega | assumption) (by decide) ?_
        refine z_topi (w := ((g_m_valueAt tl 2 (g_m_range tl S).2).2).2 12 (0)) rfl ?_
        refine z_topi (w := nI (mN (g_m_range tl S).2 0)) ((valueAt_num (lx_range hL) (by decide)).trans (range_t hL hO.1 h1 h40 c4).1) ?_
        refine z_aload_0 dX7_readsAdd_31 ?_
        refine z_get (k := 28) (v := .ref 13) dX7_readsAdd_32 rfl rfl rfl (by decide) zf_X7_51 zw_in7 ?_
        refine z_iconst (v := 1) dX7_readsAdd_35 rfl ?_
        refine z_ialdN (k := 1) dX7_readsAdd_36 rfl (by first | omega | assumption) (by decide) ?_
        refine z_topi (w := ((g_m_valueAt tl 2 (g_m_range tl S).2).2).2 12 (1)) rfl ?_
        refine z_topi (w := nI (mN (g_m_range tl S).2 1)) ((valueAt_num (lx_range hL) (by decide)).trans (range_t hL hO.1 h1 h40 c4).2.1) ?_
        refine z_aload_0 dX7_readsAdd_37 ?_
        refine z_get (k := 28) (v := .ref 13) dX7_readsAdd_38 rfl rfl rfl (by decide) zf_X7_51 zw_in7 ?_
        refine z_iconst (v := 2) dX7_readsAdd_41 rfl ?_
        refine z_ialdN (k := 2) dX7_readsAdd_42 rfl (by first | omega | assumption) (by decide) ?_
        refine z_topi (w := ((g_m_valueAt tl 2 (g_m_range tl S).2).2).2 12 (2)) rfl ?_
        refine Z.call0s (zRun.V (ρ := fun i => i) (k_m_fits n (mN (g_m_range tl S).2 0) (mN (g_m_range tl S).2 1) (((g_m_valueAt tl 2 (g_m_range tl S).2).2).2 12 (2)) ((g_m_valueAt tl 2 (g_m_range tl S).2).2) h1 h40 (range_t hL hO.1 h1 h40 c4).2.2.1 (range_t hL hO.1 h1 h40 c4).2.2.2 ((kp_valueAt (lx_range hL)).ok ((kp_range hL).ok hO))) dX7_readsAdd_43 zy_X7_fits zm_X7_207 rfl rfl rfl rfl (Nat.le_of_ble_eq_true rfl) (by decide) (by decide)) (zlen2 14 rfl rfl) ?_
        refine Z.heap (h2 := mh (g_m_grows n (g_m_valueAt tl 2 (g_m_range tl S).2).2)) (by rw [fits_2]) ?_
        refine Z.call0s (zRun.V (ρ := fun i => i) (k_m_stops ((g_m_fits n (mN (g_m_range tl S).2 0) (mN (g_m_range tl S).2 1) (((g_m_valueAt tl 2 (g_m_range tl S).2).2).2 12 (2)) ((g_m_valueAt tl 2 (g_m_range tl S).2).2)).1) (g_m_grows n (g_m_valueAt tl 2 (g_m_range tl S).2).2) ) dX7_readsAdd_46 zy_X7_stops zm_X7_203 rfl rfl rfl rfl (Nat.le_of_ble_eq_true rfl) (by decide) (by decide)) (zlen2 14 rfl rfl) ?_
        refine z_ifB_ne (tgt := 54) dX7_readsAdd_49 (by decide) (fun c49 => ?_) (fun c49 => ?_)
        · refine Z.heap (h2 := mh (g_m_grows n (g_m_valueAt tl 2 (g_m_range tl S).2).2)) (by rw [(stops_t2 c49).1]) ?_
          refine z_aload_0 dX7_readsAdd_54 ?_
          refine z_aload_0 dX7_readsAdd_55 ?_
          refine z_get (k := 28) (v := .ref 13) dX7_readsAdd_56 rfl rfl rfl (by decide) zf_X7_51 zw_in7 ?_
          refine z_iconst (v := 0) dX7_readsAdd_59 rfl ?_
          refine z_ialdN (k := 0) dX7_readsAdd_60 rfl (by first | omega | assumption) (by decide) ?_
          refine z_topi (w := ((g_m_grows n (g_m_valueAt tl 2 (g_m_range tl S).2).2)).2 12 (0)) rfl ?_
          refine z_topi (w := nI (mN (g_m_range tl S).2 0)) ((congrFun ((mEq_grows _ h1 h40).2 12 (by decide) (by decide) (by decide)) 0).trans ((valueAt_num (lx_range hL) (by decide)).trans (range_t hL hO.1 h1 h40 c4).1)) ?_
          refine z_aload_0 dX7_readsAdd_61 ?_
          refine z_get (k := 28) (v := .ref 13) dX7_readsAdd_62 rfl rfl rfl (by decide) zf_X7_51 zw_in7 ?_
          refine z_iconst (v := 1) dX7_readsAdd_65 rfl ?_
          refine z_ialdN (k := 1) dX7_readsAdd_66 rfl (by first | omega | assumption) (by decide) ?_
          refine z_topi (w := ((g_m_grows n (g_m_valueAt tl 2 (g_m_range tl S).2).2)).2 12 (1)) rfl ?_
          refine z_topi (w := nI (mN (g_m_range tl S).2 1)) ((congrFun ((mEq_grows _ h1 h40).2 12 (by decide) (by decide) (by decide)) 1).trans ((valueAt_num (lx_range hL) (by decide)).trans (range_t hL hO.1 h1 h40 c4).2.1)) ?_
          refine z_iconst (v := 1) dX7_readsAdd_67 rfl ?_
          refine z_aload_0 dX7_readsAdd_68 ?_
          refine z_get (k := 28) (v := .ref 13) dX7_readsAdd_69 rfl rfl rfl (by decide) zf_X7_51 zw_in7 ?_
          refine z_iconst (v := 2) dX7_readsAdd_72 rfl ?_
          refine z_ialdN (k := 2) dX7_readsAdd_73 rfl (by first | omega | assumption) (by decide) ?_
          refine z_topi (w := ((g_m_grows n (g_m_valueAt tl 2 (g_m_range tl S).2).2)).2 12 (2)) rfl ?_
          refine Z.call0s (zRun.V (ρ := fun i => i) (k_m_updates n (mN (g_m_range tl S).2 0) (mN (g_m_range tl S).2 1) (1) (((g_m_grows n (g_m_valueAt tl 2 (g_m_range tl S).2).2)).2 12 (2)) (g_m_grows n (g_m_valueAt tl 2 (g_m_range tl S).2).2) h1 h40 (range_t hL hO.1 h1 h40 c4).2.2.1 (range_t hL hO.1 h1 h40 c4).2.2.2 (mGr_of h1 h40 ((kp_valueAt (lx_range hL)).ok ((kp_range hL).ok hO))).ok) dX7_readsAdd_74 zy_X7_updates zm_X7_116 rfl rfl rfl rfl (Nat.le_of_ble_eq_true rfl) (by decide) (by decide)) (zlen2 14 rfl rfl) ?_
          refine z_pop dX7_readsAdd_77 rfl ?_
          refine z_iconst (v := 1) dX7_readsAdd_78 rfl ?_
          rw [g_m_readsAdd, if_pos c4, if_pos c12, if_pos c20, if_pos c49]
          exact z_iret dX7_readsAdd_79 rfl rfl rfl rfl
        · refine z_iconst (v := 0) dX7_readsAdd_52 rfl ?_
          rw [g_m_readsAdd, if_pos c4, if_pos c12, if_pos c20, if_neg c49]
          exact z_iret dX7_readsAdd_53 rfl rfl rfl rfl
noncomputable def s_m_readsNegate_1 (tl : Nat) (n : Nat) (S : ZS) : ZS := (g_m_updates n (mN (g_m_range tl S).2 0) (mN (g_m_range tl S).2 1) ((-1)) (0) ((g_m_range tl S).2)).2
noncomputable def g_m_readsNegate (tl : Nat) (n : Nat) (S : ZS) : Bool × ZS := (if ((g_m_range tl S).1) = true then (if ((g_m_stops (true) ((g_m_range tl S).2)).1) = true then (true, (s_m_readsNegate_1 tl n S)) else (false, (g_m_stops (true) ((g_m_range tl S).2)).2)) else (false, (g_m_range tl S).2))
theorem k_m_readsNegate (tl : Nat) (n : Nat) (S : ZS) (hL : mLx tl S) (h1 : 1 ≤ n) (h40 : n ≤ 40) (hO : mOK n S) : zM sc yX7_readsNegate cX7_readsNegate 1 (some .boolean) 12 0 0 [.ref 0] (mh S) (.inl (some (.int (zb (g_m_readsNegate tl n S).1)))) (mh (g_m_readsNegate tl n S).2) := by
  refine zM.at (ls := [some (.ref 0)]) zy_X7_readsNegate.2.2.2.2.2 (Nat.le_of_ble_eq_true rfl) rfl ?_
  refine z_aload_0 dX7_readsNegate_0 ?_
  refine Z.call0s (zRun.V (ρ := fun i => i) (k_m_range tl S hL) dX7_readsNegate_1 zy_X7_range zm_X7_197 rfl rfl rfl rfl (Nat.le_of_ble_eq_true rfl) (by decide) (by decide)) (zlen2 14 rfl rfl) ?_
  refine z_ifB_eq (tgt := 15) dX7_readsNegate_4 (by decide) (fun c4 => ?_) (fun c4 => ?_)
  · refine z_iconst (v := 0) dX7_readsNegate_15 rfl ?_
    rw [g_m_readsNegate, if_neg c4]
    exact z_iret dX7_readsNegate_16 rfl rfl rfl rfl
  · refine z_aload_0 dX7_readsNegate_7 ?_
    refine z_iconst (v := 1) dX7_readsNegate_8 rfl ?_
    refine Z.call0s (zRun.V (ρ := fun i => i) (k_m_stops (true) ((g_m_range tl S).2) ) dX7_readsNegate_9 zy_X7_stops zm_X7_203 rfl rfl rfl rfl (Nat.le_of_ble_eq_true rfl) (by decide) (by decide)) (zlen2 14 rfl rfl) ?_
    refine z_ifB_ne (tgt := 17) dX7_readsNegate_12 (by decide) (fun c12 => ?_) (fun c12 => ?_)
    · refine Z.heap (h2 := mh (g_m_range tl S).2) (by rw [(stops_t2 c12).1]) ?_
      refine z_aload_0 dX7_readsNegate_17 ?_
      refine z_aload_0 dX7_readsNegate_18 ?_
      refine z_get (k := 28) (v := .ref 13) dX7_readsNegate_19 rfl rfl rfl (by decide) zf_X7_51 zw_in7 ?_
      refine z_iconst (v := 0) dX7_readsNegate_22 rfl ?_
      refine z_ialdN (k := 0) dX7_readsNegate_23 rfl (by first | omega | assumption) (by decide) ?_
      refine z_topi (w := ((g_m_range tl S).2).2 12 (0)) rfl ?_
      refine z_topi (w := nI (mN (g_m_range tl S).2 0)) (range_t hL hO.1 h1 h40 c4).1 ?_
      refine z_aload_0 dX7_readsNegate_24 ?_
      refine z_get (k := 28) (v := .ref 13) dX7_readsNegate_25 rfl rfl rfl (by decide) zf_X7_51 zw_in7 ?_
      refine z_iconst (v := 1) dX7_readsNegate_28 rfl ?_
      refine z_ialdN (k := 1) dX7_readsNegate_29 rfl (by first | omega | assumption) (by decide) ?_
      refine z_topi (w := ((g_m_range tl S).2).2 12 (1)) rfl ?_
      refine z_topi (w := nI (mN (g_m_range tl S).2 1)) (range_t hL hO.1 h1 h40 c4).2.1 ?_
      refine z_iconst (v := (-1)) dX7_readsNegate_30 rfl ?_
      refine z_iconst (v := 0) dX7_readsNegate_31 rfl ?_
      refine Z.call0s (zRun.V (ρ := fun i => i) (k_m_updates n (mN (g_m_range tl S).2 0) (mN (g_m_range tl S).2 1) ((-1)) (0) ((g_m_range tl S).2) h1 h40 (range_t hL hO.1 h1 h40 c4).2.2.1 (range_t hL hO.1 h1 h40 c4).2.2.2 ((kp_range hL).ok hO)) dX7_readsNegate_32 zy_X7_updates zm_X7_116 rfl rfl rfl rfl (Nat.le_of_ble_eq_true rfl) (by decide) (by decide)) (zlen2 14 rfl rfl) ?_
      refine z_pop dX7_readsNegate_35 rfl ?_
      refine z_iconst (v := 1) dX7_readsNegate_36 rfl ?_
      rw [g_m_readsNegate, if_pos c4, if_pos c12]
      exact z_iret dX7_readsNegate_37 rfl rfl rfl rfl
    · refine z_iconst (v := 0) dX7_readsNegate_15 rfl ?_
      rw [g_m_readsNegate, if_pos c4, if_neg c12]
      exact z_iret dX7_readsNegate_16 rfl rfl rfl rfl
noncomputable def g_m_readsSettle (_tl : Nat) (n : Nat) (S : ZS) : Bool × ZS := (if ((g_m_stops (true) S).1) = true then (true, (g_m_allPushes n S).2) else (false, (g_m_stops (true) S).2))
theorem k_m_readsSettle (tl : Nat) (n : Nat) (S : ZS) (hL : mLx tl S) (h1 : 1 ≤ n) (h40 : n ≤ 40) (hO : mOK n S) : zM sc yX7_readsSettle cX7_readsSettle 1 (some .boolean) 4 0 0 [.ref 0] (mh S) (.inl (some (.int (zb (g_m_readsSettle tl n S).1)))) (mh (g_m_readsSettle tl n S).2) := by
  refine zM.at (ls := [some (.ref 0)]) zy_X7_readsSettle.2.2.2.2.2 (Nat.le_of_ble_eq_true rfl) rfl ?_
  refine z_aload_0 dX7_readsSettle_0 ?_
  refine z_iconst (v := 1) dX7_readsSettle_1 rfl ?_
  refine Z.call0s (zRun.V (ρ := fun i => i) (k_m_stops (true) S ) dX7_readsSettle_2 zy_X7_stops zm_X7_203 rfl rfl rfl rfl (Nat.le_of_ble_eq_true rfl) (by decide) (by decide)) (zlen2 14 rfl rfl) ?_
  refine z_ifB_ne (tgt := 10) dX7_readsSettle_5 (by decide) (fun c5 => ?_) (fun c5 => ?_)
  · refine Z.heap (h2 := mh S) (by rw [(stops_t2 c5).1]) ?_
    refine z_aload_0 dX7_readsSettle_10 ?_
    refine Z.call0s (zRun.V (ρ := fun i => i) (k_m_allPushes n S h1 h40 hO) dX7_readsSettle_11 zy_X7_allPushes zm_X7_213 rfl rfl rfl rfl (Nat.le_of_ble_eq_true rfl) (by decide) (by decide)) (zlen2 14 rfl rfl) ?_
    refine z_pop dX7_readsSettle_14 rfl ?_
    refine z_iconst (v := 1) dX7_readsSettle_15 rfl ?_
    rw [g_m_readsSettle, if_pos c5]
    exact z_iret dX7_readsSettle_16 rfl rfl rfl rfl
  · refine z_iconst (v := 0) dX7_readsSettle_8 rfl ?_
    rw [g_m_readsSettle, if_neg c5]
    exact z_iret dX7_readsSettle_9 rfl rfl rfl rfl
noncomputable def g_m_readsAppend (tl : Nat) (n : Nat) (S : ZS) : Bool × ZS := (if ((g_m_valueAt tl 0 S).1) = true then (if 40 ≤ n then (if ((g_m_stops (false) ((g_m_valueAt tl 0 S).2)).1) = true then (true, (g_m_appends n (((g_m_valueAt tl 0 S).2).2 12 (0)) ((g_m_valueAt tl 0 S).2)).2) else (false, (g_m_stops (false) ((g_m_valueAt tl 0 S).2)).2)) else (if ((g_m_stops (true) ((g_m_valueAt tl 0 S).2)).1) = true then (true, (g_m_appends n (((g_m_valueAt tl 0 S).2).2 12 (0)) ((g_m_valueAt tl 0 S).2)).2) else (false, (g_m_stops (true) ((g_m_valueAt tl 0 S).2)).2))) else (false, (g_m_valueAt tl 0 S).2))
theorem k_m_readsAppend (tl : Nat) (n : Nat) (S : ZS) (hL : mLx tl S) (h1 : 1 ≤ n) (h40 : n ≤ 40) (hO : mOK n S) : zM sc yX7_readsAppend cX7_readsAppend 1 (some .boolean) 4 0 0 [.ref 0] (mh S) (.inl (some (.int (zb (g_m_readsAppend tl n S).1)))) (mh (g_m_readsAppend tl n S).2) := by
  refine zM.at (ls := [some (.ref 0)]) zy_X7_readsAppend.2.2.2.2.2 (Nat.le_of_ble_eq_true rfl) rfl ?_
  refine z_aload_0 dX7_readsAppend_0 ?_
  refine z_iconst (v := 0) dX7_readsAppend_1 rfl ?_
  refine Z.call0s (zRun.V (ρ := fun i => i) (k_m_valueAt tl 0 S hL (by decide)) dX7_readsAppend_2 zy_X7_valueAt zm_X7_200 rfl rfl rfl rfl (Nat.le_of_ble_eq_true rfl) (by decide) (by decide)) (zlen2 14 rfl rfl) ?_
  refine z_ifB_eq (tgt := 31) dX7_readsAppend_5 (by decide) (fun c5 => ?_) (fun c5 => ?_)
  · refine z_iconst (v := 0) dX7_readsAppend_31 rfl ?_
    rw [g_m_readsAppend, if_neg c5]
    exact z_iret dX7_readsAppend_32 rfl rfl rfl rfl
  · refine z_aload_0 dX7_readsAppend_8 ?_
    refine z_aload_0 dX7_readsAppend_9 ?_
    refine z_get (k := 0) (v := .ref 1) dX7_readsAppend_10 rfl rfl rfl (by decide) zf_X7_7 zw_in7 ?_
    refine z_iconst (v := 0) dX7_readsAppend_13 rfl ?_
    refine z_ialdN (k := 0) dX7_readsAppend_14 rfl (by first | omega | assumption) (by decide) ?_
    refine z_topi (w := ((g_m_valueAt tl 0 S).2).2 0 (0)) rfl ?_
    refine z_topi (w := nI (n)) ((kp_valueAt hL).ok hO).1 ?_
    refine z_bipush (v := 40) dX7_readsAppend_15 rfl ?_
    refine z_icmpN_ge (tgt := 24) dX7_readsAppend_17 (by decide) (x := n) (z := 40) (by first | omega | assumption) (by first | omega | assumption) (fun c17 => ?_) (fun c17 => ?_)
    · refine z_iconst (v := 0) dX7_readsAppend_24 rfl ?_
      refine Z.call0s (zRun.V (ρ := fun i => i) (k_m_stops (false) ((g_m_valueAt tl 0 S).2) ) dX7_readsAppend_25 zy_X7_stops zm_X7_203 rfl rfl rfl rfl (Nat.le_of_ble_eq_true rfl) (by decide) (by decide)) (zlen2 14 rfl rfl) ?_
      refine z_ifB_ne (tgt := 33) dX7_readsAppend_28 (by decide) (fun c28 => ?_) (fun c28 => ?_)
      · refine Z.heap (h2 := mh (g_m_valueAt tl 0 S).2) (by rw [(stops_t2 c28).1]) ?_
        refine z_aload_0 dX7_readsAppend_33 ?_
        refine z_aload_0 dX7_readsAppend_34 ?_
        refine z_get (k := 28) (v := .ref 13) dX7_readsAppend_35 rfl rfl rfl (by decide) zf_X7_51 zw_in7 ?_
        refine z_iconst (v := 0) dX7_readsAppend_38 rfl ?_
        refine z_ialdN (k := 0) dX7_readsAppend_39 rfl (by first | omega | assumption) (by decide) ?_
        refine z_topi (w := ((g_m_valueAt tl 0 S).2).2 12 (0)) rfl ?_
        refine Z.call0s (zRun.V (ρ := fun i => i) (k_m_appends n (((g_m_valueAt tl 0 S).2).2 12 (0)) ((g_m_valueAt tl 0 S).2) h1 h40 ((kp_valueAt hL).ok hO) (by first | omega | exact absurd (stops_t2 c28).2.1 Bool.false_ne_true)) dX7_readsAppend_40 zy_X7_appends zm_X7_216 rfl rfl rfl rfl (Nat.le_of_ble_eq_true rfl) (by decide) (by decide)) (zlen2 14 rfl rfl) ?_
        refine z_pop dX7_readsAppend_43 rfl ?_
        refine z_iconst (v := 1) dX7_readsAppend_44 rfl ?_
        rw [g_m_readsAppend, if_pos c5, if_pos c17, if_pos c28]
        exact z_iret dX7_readsAppend_45 rfl rfl rfl rfl
      · refine z_iconst (v := 0) dX7_readsAppend_31 rfl ?_
        rw [g_m_readsAppend, if_pos c5, if_pos c17, if_neg c28]
        exact z_iret dX7_readsAppend_32 rfl rfl rfl rfl
    · refine z_iconst (v := 1) dX7_readsAppend_20 rfl ?_
      refine z_goto (tgt := 25) dX7_readsAppend_21 (by decide) ?_
      refine Z.call0s (zRun.V (ρ := fun i => i) (k_m_stops (true) ((g_m_valueAt tl 0 S).2) ) dX7_readsAppend_25 zy_X7_stops zm_X7_203 rfl rfl rfl rfl (Nat.le_of_ble_eq_true rfl) (by decide) (by decide)) (zlen2 14 rfl rfl) ?_
      refine z_ifB_ne (tgt := 33) dX7_readsAppend_28 (by decide) (fun c28 => ?_) (fun c28 => ?_)
      · refine Z.heap (h2 := mh (g_m_valueAt tl 0 S).2) (by rw [(stops_t2 c28).1]) ?_
        refine z_aload_0 dX7_readsAppend_33 ?_
        refine z_aload_0 dX7_readsAppend_34 ?_
        refine z_get (k := 28) (v := .ref 13) dX7_readsAppend_35 rfl rfl rfl (by decide) zf_X7_51 zw_in7 ?_
        refine z_iconst (v := 0) dX7_readsAppend_38 rfl ?_
        refine z_ialdN (k := 0) dX7_readsAppend_39 rfl (by first | omega | assumption) (by decide) ?_
        refine z_topi (w := ((g_m_valueAt tl 0 S).2).2 12 (0)) rfl ?_
        refine Z.call0s (zRun.V (ρ := fun i => i) (k_m_appends n (((g_m_valueAt tl 0 S).2).2 12 (0)) ((g_m_valueAt tl 0 S).2) h1 h40 ((kp_valueAt hL).ok hO) (by first | omega | exact absurd (stops_t2 c28).2.1 Bool.false_ne_true)) dX7_readsAppend_40 zy_X7_appends zm_X7_216 rfl rfl rfl rfl (Nat.le_of_ble_eq_true rfl) (by decide) (by decide)) (zlen2 14 rfl rfl) ?_
        refine z_pop dX7_readsAppend_43 rfl ?_
        refine z_iconst (v := 1) dX7_readsAppend_44 rfl ?_
        rw [g_m_readsAppend, if_pos c5, if_neg c17, if_pos c28]
        exact z_iret dX7_readsAppend_45 rfl rfl rfl rfl
      · refine z_iconst (v := 0) dX7_readsAppend_31 rfl ?_
        rw [g_m_readsAppend, if_pos c5, if_neg c17, if_neg c28]
        exact z_iret dX7_readsAppend_32 rfl rfl rfl rfl
noncomputable def g_m_readsRemove (_tl : Nat) (n : Nat) (S : ZS) : Bool × ZS := (if n ≤ 1 then (if ((g_m_stops (false) S).1) = true then (true, (g_m_removes n S).2) else (false, (g_m_stops (false) S).2)) else (if ((g_m_stops (true) S).1) = true then (true, (g_m_removes n S).2) else (false, (g_m_stops (true) S).2)))
theorem k_m_readsRemove (tl : Nat) (n : Nat) (S : ZS) (hL : mLx tl S) (h1 : 1 ≤ n) (h40 : n ≤ 40) (hO : mOK n S) : zM sc yX7_readsRemove cX7_readsRemove 1 (some .boolean) 4 0 0 [.ref 0] (mh S) (.inl (some (.int (zb (g_m_readsRemove tl n S).1)))) (mh (g_m_readsRemove tl n S).2) := by
  refine zM.at (ls := [some (.ref 0)]) zy_X7_readsRemove.2.2.2.2.2 (Nat.le_of_ble_eq_true rfl) rfl ?_
  refine z_aload_0 dX7_readsRemove_0 ?_
  refine z_aload_0 dX7_readsRemove_1 ?_
  refine z_get (k := 0) (v := .ref 1) dX7_readsRemove_2 rfl rfl rfl (by decide) zf_X7_7 zw_in7 ?_
  refine z_iconst (v := 0) dX7_readsRemove_5 rfl ?_
  refine z_ialdN (k := 0) dX7_readsRemove_6 rfl (by first | omega | assumption) (by decide) ?_
  refine z_topi (w := S.2 0 (0)) rfl ?_
  refine z_topi (w := nI (n)) hO.1 ?_
  refine z_iconst (v := 1) dX7_readsRemove_7 rfl ?_
  refine z_icmpN_le (tgt := 15) dX7_readsRemove_8 (by decide) (x := n) (z := 1) (by first | omega | assumption) (by first | omega | assumption) (fun c8 => ?_) (fun c8 => ?_)
  · refine z_iconst (v := 0) dX7_readsRemove_15 rfl ?_
    refine Z.call0s (zRun.V (ρ := fun i => i) (k_m_stops (false) S ) dX7_readsRemove_16 zy_X7_stops zm_X7_203 rfl rfl rfl rfl (Nat.le_of_ble_eq_true rfl) (by decide) (by decide)) (zlen2 14 rfl rfl) ?_
    refine z_ifB_ne (tgt := 24) dX7_readsRemove_19 (by decide) (fun c19 => ?_) (fun c19 => ?_)
    · refine Z.heap (h2 := mh S) (by rw [(stops_t2 c19).1]) ?_
      refine z_aload_0 dX7_readsRemove_24 ?_
      refine Z.call0s (zRun.V (ρ := fun i => i) (k_m_removes n S h1 h40 hO (by first | omega | exact absurd (stops_t2 c19).2.1 Bool.false_ne_true)) dX7_readsRemove_25 zy_X7_removes zm_X7_219 rfl rfl rfl rfl (Nat.le_of_ble_eq_true rfl) (by decide) (by decide)) (zlen2 14 rfl rfl) ?_
      refine z_pop dX7_readsRemove_28 rfl ?_
      refine z_iconst (v := 1) dX7_readsRemove_29 rfl ?_
      rw [g_m_readsRemove, if_pos c8, if_pos c19]
      exact z_iret dX7_readsRemove_30 rfl rfl rfl rfl
    · refine z_iconst (v := 0) dX7_readsRemove_22 rfl ?_
      rw [g_m_readsRemove, if_pos c8, if_neg c19]
      exact z_iret dX7_readsRemove_23 rfl rfl rfl rfl
  · refine z_iconst (v := 1) dX7_readsRemove_11 rfl ?_
    refine z_goto (tgt := 16) dX7_readsRemove_12 (by decide) ?_
    refine Z.call0s (zRun.V (ρ := fun i => i) (k_m_stops (true) S ) dX7_readsRemove_16 zy_X7_stops zm_X7_203 rfl rfl rfl rfl (Nat.le_of_ble_eq_true rfl) (by decide) (by decide)) (zlen2 14 rfl rfl) ?_
    refine z_ifB_ne (tgt := 24) dX7_readsRemove_19 (by decide) (fun c19 => ?_) (fun c19 => ?_)
    · refine Z.heap (h2 := mh S) (by rw [(stops_t2 c19).1]) ?_
      refine z_aload_0 dX7_readsRemove_24 ?_
      refine Z.call0s (zRun.V (ρ := fun i => i) (k_m_removes n S h1 h40 hO (by first | omega | exact absurd (stops_t2 c19).2.1 Bool.false_ne_true)) dX7_readsRemove_25 zy_X7_removes zm_X7_219 rfl rfl rfl rfl (Nat.le_of_ble_eq_true rfl) (by decide) (by decide)) (zlen2 14 rfl rfl) ?_
      refine z_pop dX7_readsRemove_28 rfl ?_
      refine z_iconst (v := 1) dX7_readsRemove_29 rfl ?_
      rw [g_m_readsRemove, if_neg c8, if_pos c19]
      exact z_iret dX7_readsRemove_30 rfl rfl rfl rfl
    · refine z_iconst (v := 0) dX7_readsRemove_22 rfl ?_
      rw [g_m_readsRemove, if_neg c8, if_neg c19]
      exact z_iret dX7_readsRemove_23 rfl rfl rfl rfl
