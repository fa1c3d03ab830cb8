variable {sc : SC}

noncomputable def s_m_readsSequence_1 (tl : Nat) (n : Nat) (S : ZS) : ZS := (g_m_next tl (sA 0 (0) (nI (n + 1)) (sA 0 (4 + n) (((g_m_signed tl 0 S).2).2 12 (0)) (g_m_signed tl 0 S).2)))
noncomputable def g_m_readsSequence_L (tl : Nat) : Nat → Bool → Nat → ZS → Bool × ZS
  | 0, _, _, S => (false, S)
  | fu + 1, more, n, S => (if more = true then (if ((g_m_signed tl 0 S).1) = true then (if n = 40 then (false, (g_m_fail (3) ((g_m_signed tl 0 S).2)).2) else (if ((s_m_readsSequence_1 tl n S)).1 23 = 3 then g_m_readsSequence_L tl fu true (n + 1) (s_m_readsSequence_1 tl n S) else (if ((s_m_readsSequence_1 tl n S)).1 23 = 4 then g_m_readsSequence_L tl fu true (n + 1) (s_m_readsSequence_1 tl n S) else g_m_readsSequence_L tl fu false (n + 1) (s_m_readsSequence_1 tl n S)))) else (false, (g_m_signed tl 0 S).2)) else ((g_m_is (1) S).1, (g_m_is (1) S).2))
theorem l_g_m_readsSequence_L (tl : Nat) : ∀ (fu : Nat) (more : Bool) (n : Nat) (S : ZS) , (n + fu = 41) → (n ≤ 40) → (S.2 0 0 = nI n) → (mLx tl S) → Z sc yX7_readsSequence cX7_readsSequence 2 (some .boolean) 5 0 0 21 [some (.ref 0), some (.int (zb (more)))] [] (mh S) (.inl (some (.int (zb (g_m_readsSequence_L tl fu more n S).1)))) (mh (g_m_readsSequence_L tl fu more n S).2) := by
  intro fu
  induction fu with
  | zero =>
    intro more n S hn hn0 hc hL
    exact absurd hn0 (by omega)
  | succ fu ih =>
    intro more n S hn hn0 hc hL
    refine z_iload_1 dX7_readsSequence_21 ?_
    refine z_ifB_eq (tgt := 110) dX7_readsSequence_22 (by decide) (fun c22 => ?_) (fun c22 => ?_)
    · refine z_aload_0 dX7_readsSequence_110 ?_
      refine z_iconst (v := 1) dX7_readsSequence_111 rfl ?_
      refine Z.call0s (zRun.V (ρ := fun i => i) (k_m_is (1) S ) dX7_readsSequence_112 zy_X7_is zm_X7_179 rfl rfl rfl rfl (Nat.le_of_ble_eq_true rfl) (by decide) (by decide)) (zlen2 14 rfl rfl) ?_
      rw [g_m_readsSequence_L, if_neg c22]
      exact z_iret dX7_readsSequence_115 rfl (zb_nar _) rfl rfl
    · refine z_aload_0 dX7_readsSequence_25 ?_
      refine z_iconst (v := 0) dX7_readsSequence_26 rfl ?_
      refine Z.call0s (zRun.V (ρ := fun i => i) (k_m_signed tl 0 S hL (by decide)) dX7_readsSequence_27 zy_X7_signed zm_X7_185 rfl rfl rfl rfl (Nat.le_of_ble_eq_true rfl) (by decide) (by decide)) (zlen2 14 rfl rfl) ?_
      refine z_ifB_ne (tgt := 35) dX7_readsSequence_30 (by decide) (fun c30 => ?_) (fun c30 => ?_)
      · refine z_aload_0 dX7_readsSequence_35 ?_
        refine z_get (k := 0) (v := .ref 1) dX7_readsSequence_36 rfl rfl rfl (by decide) zf_X7_7 zw_in7 ?_
        refine z_iconst (v := 0) dX7_readsSequence_39 rfl ?_
        refine z_ialdN (k := 0) dX7_readsSequence_40 rfl (by first | omega | assumption) (by decide) ?_
        refine z_topi (w := ((g_m_signed tl 0 S).2).2 0 (0)) rfl ?_
        refine z_topi (w := nI (n)) ((congrFun ((kp_signed hL).2 0 (by decide)) 0).trans hc) ?_
        refine z_bipush (v := 40) dX7_readsSequence_41 rfl ?_
        refine z_icmpN_ne (tgt := 52) dX7_readsSequence_43 (by decide) (x := n) (z := 40) (by first | omega | assumption) (by first | omega | assumption) (fun c43 => ?_) (fun c43 => ?_)
        · refine z_aload_0 dX7_readsSequence_52 ?_
          refine z_get (k := 0) (v := .ref 1) dX7_readsSequence_53 rfl rfl rfl (by decide) zf_X7_7 zw_in7 ?_
          refine z_iconst (v := 4) dX7_readsSequence_56 rfl ?_
          refine z_aload_0 dX7_readsSequence_57 ?_
          refine z_get (k := 0) (v := .ref 1) dX7_readsSequence_58 rfl rfl rfl (by decide) zf_X7_7 zw_in7 ?_
          refine z_iconst (v := 0) dX7_readsSequence_61 rfl ?_
          refine z_ialdN (k := 0) dX7_readsSequence_62 rfl (by first | omega | assumption) (by decide) ?_
          refine z_topi (w := ((g_m_signed tl 0 S).2).2 0 (0)) rfl ?_
          refine z_topi (w := nI (n)) ((congrFun ((kp_signed hL).2 0 (by decide)) 0).trans hc) ?_
          refine z_iadd dX7_readsSequence_63 ?_
          refine z_topi (w := nI (4 + n)) (nI_add _ _) ?_
          refine z_aload_0 dX7_readsSequence_64 ?_
          refine z_get (k := 28) (v := .ref 13) dX7_readsSequence_65 rfl rfl rfl (by decide) zf_X7_51 zw_in7 ?_
          refine z_iconst (v := 0) dX7_readsSequence_68 rfl ?_
          refine z_ialdN (k := 0) dX7_readsSequence_69 rfl (by first | omega | assumption) (by decide) ?_
          refine z_topi (w := ((g_m_signed tl 0 S).2).2 12 (0)) rfl ?_
          refine z_iastN (k := (4 + n)) dX7_readsSequence_70 rfl (by first | omega | assumption) (by decide) ?_
          refine Z.heap (h2 := mh (sA 0 (4 + n) (((g_m_signed tl 0 S).2).2 12 (0)) (g_m_signed tl 0 S).2)) rfl ?_
          refine z_aload_0 dX7_readsSequence_71 ?_
          refine z_get (k := 0) (v := .ref 1) dX7_readsSequence_72 rfl rfl rfl (by decide) zf_X7_7 zw_in7 ?_
          refine z_iconst (v := 0) dX7_readsSequence_75 rfl ?_
          refine z_dup2 dX7_readsSequence_76 rfl rfl ?_
          refine z_ialdN (k := 0) dX7_readsSequence_77 rfl (by first | omega | assumption) (by decide) ?_
          refine z_topi (w := ((g_m_signed tl 0 S).2).2 0 (0)) (by rw [sA_o (by omega)]) ?_
          refine z_topi (w := nI (n)) ((congrFun ((kp_signed hL).2 0 (by decide)) 0).trans hc) ?_
          refine z_iconst (v := 1) dX7_readsSequence_78 rfl ?_
          refine z_iadd dX7_readsSequence_79 ?_
          refine z_topi (w := nI (n + 1)) (nI_add _ _) ?_
          refine z_iastN (k := 0) dX7_readsSequence_80 rfl (by first | omega | assumption) (by decide) ?_
          refine Z.heap (h2 := mh (sA 0 (0) (nI (n + 1)) (sA 0 (4 + n) (((g_m_signed tl 0 S).2).2 12 (0)) (g_m_signed tl 0 S).2))) rfl ?_
          refine z_aload_0 dX7_readsSequence_81 ?_
          refine Z.call0n (zRun.V (ρ := fun i => i) (k_m_next tl (sA 0 (0) (nI (n + 1)) (sA 0 (4 + n) (((g_m_signed tl 0 S).2).2 12 (0)) (g_m_signed tl 0 S).2)) (lx_signed hL).sA.sA.tk) dX7_readsSequence_82 zy_X7_next zm_X7_182 rfl rfl rfl rfl (Nat.le_of_ble_eq_true rfl) (by decide) (by decide)) (zlen2 14 rfl rfl) ?_
          refine z_aload_0 dX7_readsSequence_85 ?_
          refine z_get (k := 23) (v := .int (((s_m_readsSequence_1 tl n S)).1 23)) dX7_readsSequence_86 rfl rfl rfl (by decide) zf_X7_165 zw_in7 ?_
          refine z_iconst (v := 3) dX7_readsSequence_89 rfl ?_
          refine z_icmp_eq (tgt := 101) dX7_readsSequence_90 (by decide) (fun c90 => ?_) (fun c90 => ?_)
          · refine z_iconst (v := 1) dX7_readsSequence_101 rfl ?_
            refine z_goto (tgt := 106) dX7_readsSequence_102 (by decide) ?_
            refine z_istore_1 dX7_readsSequence_106 rfl (by decide) ?_
            refine z_goto (tgt := 21) dX7_readsSequence_107 (by decide) ?_
            rw [g_m_readsSequence_L, if_pos c22, if_pos c30, if_neg c43, if_pos c90]
            exact ih true (n + 1) (s_m_readsSequence_1 tl n S) (by first | omega | assumption) (by first | omega | assumption) (by rw [s_m_readsSequence_1, next_2 (lx_signed hL).sA.sA.tk, sA_same]) (lx_next (lx_signed hL).sA.sA.tk)
          · refine z_aload_0 dX7_readsSequence_93 ?_
            refine z_get (k := 23) (v := .int (((s_m_readsSequence_1 tl n S)).1 23)) dX7_readsSequence_94 rfl rfl rfl (by decide) zf_X7_165 zw_in7 ?_
            refine z_iconst (v := 4) dX7_readsSequence_97 rfl ?_
            refine z_icmp_ne (tgt := 105) dX7_readsSequence_98 (by decide) (fun c98 => ?_) (fun c98 => ?_)
            · refine z_iconst (v := 0) dX7_readsSequence_105 rfl ?_
              refine z_istore_1 dX7_readsSequence_106 rfl (by decide) ?_
              refine z_goto (tgt := 21) dX7_readsSequence_107 (by decide) ?_
              rw [g_m_readsSequence_L, if_pos c22, if_pos c30, if_neg c43, if_neg c90, if_neg c98]
              exact ih false (n + 1) (s_m_readsSequence_1 tl n S) (by first | omega | assumption) (by first | omega | assumption) (by rw [s_m_readsSequence_1, next_2 (lx_signed hL).sA.sA.tk, sA_same]) (lx_next (lx_signed hL).sA.sA.tk)
            · refine z_iconst (v := 1) dX7_readsSequence_101 rfl ?_
              refine z_goto (tgt := 106) dX7_readsSequence_102 (by decide) ?_
              refine z_istore_1 dX7_readsSequence_106 rfl (by decide) ?_
              refine z_goto (tgt := 21) dX7_readsSequence_107 (by decide) ?_
              rw [g_m_readsSequence_L, if_pos c22, if_pos c30, if_neg c43, if_neg c90, if_pos c98]
              exact ih true (n + 1) (s_m_readsSequence_1 tl n S) (by first | omega | assumption) (by first | omega | assumption) (by rw [s_m_readsSequence_1, next_2 (lx_signed hL).sA.sA.tk, sA_same]) (lx_next (lx_signed hL).sA.sA.tk)
        · refine z_aload_0 dX7_readsSequence_46 ?_
          refine z_iconst (v := 3) dX7_readsSequence_47 rfl ?_
          refine Z.call0s (zRun.V (ρ := fun i => i) (k_m_fail (3) ((g_m_signed tl 0 S).2) ) dX7_readsSequence_48 zy_X7_fail zm_X7_176 rfl rfl rfl rfl (Nat.le_of_ble_eq_true rfl) (by decide) (by decide)) (zlen2 14 rfl rfl) ?_
          refine z_topi (w := 0) (by rw [fail_1]; rfl) ?_
          rw [g_m_readsSequence_L, if_pos c22, if_pos c30, if_pos c43]
          exact z_iret dX7_readsSequence_51 rfl rfl rfl rfl
      · refine z_iconst (v := 0) dX7_readsSequence_33 rfl ?_
        rw [g_m_readsSequence_L, if_pos c22, if_neg c30]
        exact z_iret dX7_readsSequence_34 rfl rfl rfl rfl
noncomputable def g_m_readsSequence (tl : Nat) (S : ZS) : Bool × ZS := (if ((g_m_says tl 20 S)) = true then g_m_readsSequence_L tl 41 true 0 (g_m_next tl S) else (false, (g_m_fail (1) S).2))
theorem k_m_readsSequence (tl : Nat) (S : ZS) (hL : mLx tl S) (hc : S.2 0 0 = 0) : zM sc yX7_readsSequence cX7_readsSequence 2 (some .boolean) 5 0 0 [.ref 0] (mh S) (.inl (some (.int (zb (g_m_readsSequence tl S).1)))) (mh (g_m_readsSequence tl S).2) := by
  refine zM.at (ls := [some (.ref 0), none]) zy_X7_readsSequence.2.2.2.2.2 (Nat.le_of_ble_eq_true rfl) rfl ?_
  refine z_aload_0 dX7_readsSequence_0 ?_
  refine z_ldcStr (i := 20) dX7_readsSequence_1 rfl ?_
  refine Z.call0s (zRun.V (ρ := fun i => i) (k_m_says tl 20 S (by decide) hL) dX7_readsSequence_3 zy_X7_says zm_X7_193 rfl rfl rfl rfl (Nat.le_of_ble_eq_true rfl) (by decide) (by decide)) (zlen2 14 rfl rfl) ?_
  refine z_ifB_ne (tgt := 15) dX7_readsSequence_6 (by decide) (fun c6 => ?_) (fun c6 => ?_)
  · refine z_aload_0 dX7_readsSequence_15 ?_
    refine Z.call0n (zRun.V (ρ := fun i => i) (k_m_next tl S hL.tk) dX7_readsSequence_16 zy_X7_next zm_X7_182 rfl rfl rfl rfl (Nat.le_of_ble_eq_true rfl) (by decide) (by decide)) (zlen2 14 rfl rfl) ?_
    refine z_iconst (v := 1) dX7_readsSequence_19 rfl ?_
    refine z_istore_1 dX7_readsSequence_20 rfl (by decide) ?_
    rw [g_m_readsSequence, if_pos c6]
    exact l_g_m_readsSequence_L tl 41 true 0 (g_m_next tl S) (by first | omega | assumption) (by first | omega | assumption) (by rw [next_2 hL.tk]; exact hc) (lx_next hL.tk)
  · refine z_aload_0 dX7_readsSequence_9 ?_
    refine z_iconst (v := 1) dX7_readsSequence_10 rfl ?_
    refine Z.call0s (zRun.V (ρ := fun i => i) (k_m_fail (1) S ) dX7_readsSequence_11 zy_X7_fail zm_X7_176 rfl rfl rfl rfl (Nat.le_of_ble_eq_true rfl) (by decide) (by decide)) (zlen2 14 rfl rfl) ?_
    refine z_topi (w := 0) (by rw [fail_1]; rfl) ?_
    rw [g_m_readsSequence, if_neg c6]
    exact z_iret dX7_readsSequence_14 rfl rfl rfl rfl
theorem ztab6 {x : Int32} (h0 : ¬ x = 0) (h1 : ¬ x = 1) (h2 : ¬ x = 2) (h3 : ¬ x = 3) (h4 : ¬ x = 4) (h5 : ¬ x = 5) : x.toInt < 0 ∨ (5 : Int) < x.toInt := by
  have k : ∀ c : Int32, ¬ x = c → ¬ x.toInt = c.toInt := fun c h e => h (Int32.toInt_inj.mp e)
  have a0 := k 0 h0
  have a1 := k 1 h1
  have a2 := k 2 h2
  have a3 := k 3 h3
  have a4 := k 4 h4
  have a5 := k 5 h5
  have b0 : (0 : Int32).toInt = 0 := by decide
  have b1 : (1 : Int32).toInt = 1 := by decide
  have b2 : (2 : Int32).toInt = 2 := by decide
  have b3 : (3 : Int32).toInt = 3 := by decide
  have b4 : (4 : Int32).toInt = 4 := by decide
  have b5 : (5 : Int32).toInt = 5 := by decide
  omega
noncomputable def g_m_wordAhead (tl : Nat) (S : ZS) : Int32 := (if ((g_m_says tl 21 S)) = true then 0 else (if ((g_m_says tl 22 S)) = true then 1 else (if ((g_m_says tl 23 S)) = true then 2 else (if ((g_m_says tl 24 S)) = true then 3 else (if ((g_m_says tl 25 S)) = true then 4 else (if ((g_m_says tl 26 S)) = true then 5 else (if ((g_m_says tl 27 S)) = true then 6 else (if ((g_m_says tl 28 S)) = true then 7 else (-1)))))))))
theorem k_m_wordAhead (tl : Nat) (S : ZS) (hL : mLx tl S) : zM sc yX7_wordAhead cX7_wordAhead 1 (some .int) 5 0 0 [.ref 0] (mh S) (.inl (some (.int (g_m_wordAhead tl S)))) (mh S) := by
  refine zM.at (ls := [some (.ref 0)]) zy_X7_wordAhead.2.2.2.2.2 (Nat.le_of_ble_eq_true rfl) rfl ?_
  refine z_aload_0 dX7_wordAhead_0 ?_
  refine z_ldcStr (i := 21) dX7_wordAhead_1 rfl ?_
  refine Z.call0s (zRun.V (ρ := fun i => i) (k_m_says tl 21 S (by decide) hL) dX7_wordAhead_3 zy_X7_says zm_X7_193 rfl rfl rfl rfl (Nat.le_of_ble_eq_true rfl) (by decide) (by decide)) (zlen2 14 rfl rfl) ?_
  refine z_ifB_eq (tgt := 13) dX7_wordAhead_6 (by decide) (fun c6 => ?_) (fun c6 => ?_)
  · refine z_aload_0 dX7_wordAhead_13 ?_
    refine z_ldcStr (i := 22) dX7_wordAhead_14 rfl ?_
    refine Z.call0s (zRun.V (ρ := fun i => i) (k_m_says tl 22 S (by decide) hL) dX7_wordAhead_16 zy_X7_says zm_X7_193 rfl rfl rfl rfl (Nat.le_of_ble_eq_true rfl) (by decide) (by decide)) (zlen2 14 rfl rfl) ?_
    refine z_ifB_eq (tgt := 26) dX7_wordAhead_19 (by decide) (fun c19 => ?_) (fun c19 => ?_)
    · refine z_aload_0 dX7_wordAhead_26 ?_
      refine z_ldcStr (i := 23) dX7_wordAhead_27 rfl ?_
      refine Z.call0s (zRun.V (ρ := fun i => i) (k_m_says tl 23 S (by decide) hL) dX7_wordAhead_29 zy_X7_says zm_X7_193 rfl rfl rfl rfl (Nat.le_of_ble_eq_true rfl) (by decide) (by decide)) (zlen2 14 rfl rfl) ?_
      refine z_ifB_eq (tgt := 39) dX7_wordAhead_32 (by decide) (fun c32 => ?_) (fun c32 => ?_)
      · refine z_aload_0 dX7_wordAhead_39 ?_
        refine z_ldcStr (i := 24) dX7_wordAhead_40 rfl ?_
        refine Z.call0s (zRun.V (ρ := fun i => i) (k_m_says tl 24 S (by decide) hL) dX7_wordAhead_42 zy_X7_says zm_X7_193 rfl rfl rfl rfl (Nat.le_of_ble_eq_true rfl) (by decide) (by decide)) (zlen2 14 rfl rfl) ?_
        refine z_ifB_eq (tgt := 52) dX7_wordAhead_45 (by decide) (fun c45 => ?_) (fun c45 => ?_)
        · refine z_aload_0 dX7_wordAhead_52 ?_
          refine z_ldcStr (i := 25) dX7_wordAhead_53 rfl ?_
          refine Z.call0s (zRun.V (ρ := fun i => i) (k_m_says tl 25 S (by decide) hL) dX7_wordAhead_55 zy_X7_says zm_X7_193 rfl rfl rfl rfl (Nat.le_of_ble_eq_true rfl) (by decide) (by decide)) (zlen2 14 rfl rfl) ?_
          refine z_ifB_eq (tgt := 65) dX7_wordAhead_58 (by decide) (fun c58 => ?_) (fun c58 => ?_)
          · refine z_aload_0 dX7_wordAhead_65 ?_
            refine z_ldcStr (i := 26) dX7_wordAhead_66 rfl ?_
            refine Z.call0s (zRun.V (ρ := fun i => i) (k_m_says tl 26 S (by decide) hL) dX7_wordAhead_68 zy_X7_says zm_X7_193 rfl rfl rfl rfl (Nat.le_of_ble_eq_true rfl) (by decide) (by decide)) (zlen2 14 rfl rfl) ?_
            refine z_ifB_eq (tgt := 78) dX7_wordAhead_71 (by decide) (fun c71 => ?_) (fun c71 => ?_)
            · refine z_aload_0 dX7_wordAhead_78 ?_
              refine z_ldcStr (i := 27) dX7_wordAhead_79 rfl ?_
              refine Z.call0s (zRun.V (ρ := fun i => i) (k_m_says tl 27 S (by decide) hL) dX7_wordAhead_81 zy_X7_says zm_X7_193 rfl rfl rfl rfl (Nat.le_of_ble_eq_true rfl) (by decide) (by decide)) (zlen2 14 rfl rfl) ?_
              refine z_ifB_eq (tgt := 92) dX7_wordAhead_84 (by decide) (fun c84 => ?_) (fun c84 => ?_)
              · refine z_aload_0 dX7_wordAhead_92 ?_
                refine z_ldcStr (i := 28) dX7_wordAhead_93 rfl ?_
                refine Z.call0s (zRun.V (ρ := fun i => i) (k_m_says tl 28 S (by decide) hL) dX7_wordAhead_95 zy_X7_says zm_X7_193 rfl rfl rfl rfl (Nat.le_of_ble_eq_true rfl) (by decide) (by decide)) (zlen2 14 rfl rfl) ?_
                refine z_ifB_eq (tgt := 106) dX7_wordAhead_98 (by decide) (fun c98 => ?_) (fun c98 => ?_)
                · refine z_iconst (v := (-1)) dX7_wordAhead_106 rfl ?_
                  rw [g_m_wordAhead, if_neg c6, if_neg c19, if_neg c32, if_neg c45, if_neg c58, if_neg c71, if_neg c84, if_neg c98]
                  exact z_iret dX7_wordAhead_107 rfl rfl rfl rfl
                · refine z_bipush (v := 7) dX7_wordAhead_101 rfl ?_
                  refine z_goto (tgt := 107) dX7_wordAhead_103 (by decide) ?_
                  rw [g_m_wordAhead, if_neg c6, if_neg c19, if_neg c32, if_neg c45, if_neg c58, if_neg c71, if_neg c84, if_pos c98]
                  exact z_iret dX7_wordAhead_107 rfl rfl rfl rfl
              · refine z_bipush (v := 6) dX7_wordAhead_87 rfl ?_
                refine z_goto (tgt := 107) dX7_wordAhead_89 (by decide) ?_
                rw [g_m_wordAhead, if_neg c6, if_neg c19, if_neg c32, if_neg c45, if_neg c58, if_neg c71, if_pos c84]
                exact z_iret dX7_wordAhead_107 rfl rfl rfl rfl
            · refine z_iconst (v := 5) dX7_wordAhead_74 rfl ?_
              refine z_goto (tgt := 107) dX7_wordAhead_75 (by decide) ?_
              rw [g_m_wordAhead, if_neg c6, if_neg c19, if_neg c32, if_neg c45, if_neg c58, if_pos c71]
              exact z_iret dX7_wordAhead_107 rfl rfl rfl rfl
          · refine z_iconst (v := 4) dX7_wordAhead_61 rfl ?_
            refine z_goto (tgt := 107) dX7_wordAhead_62 (by decide) ?_
            rw [g_m_wordAhead, if_neg c6, if_neg c19, if_neg c32, if_neg c45, if_pos c58]
            exact z_iret dX7_wordAhead_107 rfl rfl rfl rfl
        · refine z_iconst (v := 3) dX7_wordAhead_48 rfl ?_
          refine z_goto (tgt := 107) dX7_wordAhead_49 (by decide) ?_
          rw [g_m_wordAhead, if_neg c6, if_neg c19, if_neg c32, if_pos c45]
          exact z_iret dX7_wordAhead_107 rfl rfl rfl rfl
      · refine z_iconst (v := 2) dX7_wordAhead_35 rfl ?_
        refine z_goto (tgt := 107) dX7_wordAhead_36 (by decide) ?_
        rw [g_m_wordAhead, if_neg c6, if_neg c19, if_pos c32]
        exact z_iret dX7_wordAhead_107 rfl rfl rfl rfl
    · refine z_iconst (v := 1) dX7_wordAhead_22 rfl ?_
      refine z_goto (tgt := 107) dX7_wordAhead_23 (by decide) ?_
      rw [g_m_wordAhead, if_neg c6, if_pos c19]
      exact z_iret dX7_wordAhead_107 rfl rfl rfl rfl
  · refine z_iconst (v := 0) dX7_wordAhead_9 rfl ?_
    refine z_goto (tgt := 107) dX7_wordAhead_10 (by decide) ?_
    rw [g_m_wordAhead, if_pos c6]
    exact z_iret dX7_wordAhead_107 rfl rfl rfl rfl
/-- push, whichever its number -/
noncomputable def g_m_rp (tl n : Nat) (S : ZS) : Bool × ZS := if 1 ≤ S.1 26 ∧ S.1 26 ≤ 127 then g_m_readsPush tl n (S.1 26).toNatClampNeg S else g_m_readsPushX tl n S
theorem k_m_rp (tl n : Nat) (S : ZS) (hL : mLx tl S) (h1 : 1 ≤ n) (h40 : n ≤ 40) (hO : mOK n S) : zM sc yX7_readsPush cX7_readsPush 2 (some .boolean) 3 0 0 [.ref 0] (mh S) (.inl (some (.int (zb (g_m_rp tl n S).1)))) (mh (g_m_rp tl n S).2) := by
  by_cases c : 1 ≤ S.1 26 ∧ S.1 26 ≤ 127
  · rw [g_m_rp, if_pos c]
    have h0 := zI_in (x := S.1 26) (b := 127) (Int32.le_trans (by decide) c.1) c.2 (by decide)
    refine k_m_readsPush tl n _ S hL h1 h40 hO ?_ (by omega) h0.1
    have h2 := c.1
    rw [h0.1, show (1 : Int32) = nI 1 from rfl, nI_leI (by decide) (by omega)] at h2
    exact h2
  · rw [g_m_rp, if_neg c]
    exact k_m_readsPushX tl n S hL h1 h40 hO c
