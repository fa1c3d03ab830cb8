variable {sc : SC}

noncomputable def g_m_cmd0 (tl : Nat) (n : Nat) (_dp : Int32) (S : ZS) : Bool × ZS := (if (g_m_wordAhead tl S) = (-1) then (false, (g_m_fail (1) S).2) else (if (g_m_wordAhead tl S) = 7 then (false, (g_m_fail (5) S).2) else (if S.1 27 = 200 then (false, (g_m_fail (6) S).2) else (if (g_m_wordAhead tl S) = 0 then ((g_m_readsAssign tl n (g_m_next tl (sI 27 ((S.1 27) + 1) S))).1, (g_m_readsAssign tl n (g_m_next tl (sI 27 ((S.1 27) + 1) S))).2) else (if (g_m_wordAhead tl S) = 1 then ((g_m_readsAdd tl n (g_m_next tl (sI 27 ((S.1 27) + 1) S))).1, (g_m_readsAdd tl n (g_m_next tl (sI 27 ((S.1 27) + 1) S))).2) else (if (g_m_wordAhead tl S) = 2 then ((g_m_readsNegate tl n (g_m_next tl (sI 27 ((S.1 27) + 1) S))).1, (g_m_readsNegate tl n (g_m_next tl (sI 27 ((S.1 27) + 1) S))).2) else (if (g_m_wordAhead tl S) = 3 then ((g_m_rp tl n (g_m_next tl (sI 27 ((S.1 27) + 1) S))).1, (g_m_rp tl n (g_m_next tl (sI 27 ((S.1 27) + 1) S))).2) else (if (g_m_wordAhead tl S) = 4 then ((g_m_readsSettle tl n (g_m_next tl (sI 27 ((S.1 27) + 1) S))).1, (g_m_readsSettle tl n (g_m_next tl (sI 27 ((S.1 27) + 1) S))).2) else (if (g_m_wordAhead tl S) = 5 then ((g_m_readsAppend tl n (g_m_next tl (sI 27 ((S.1 27) + 1) S))).1, (g_m_readsAppend tl n (g_m_next tl (sI 27 ((S.1 27) + 1) S))).2) else ((g_m_readsRemove tl n (g_m_next tl (sI 27 ((S.1 27) + 1) S))).1, (g_m_readsRemove tl n (g_m_next tl (sI 27 ((S.1 27) + 1) S))).2))))))))))
theorem k_m_cmd0 (tl : Nat) (n : Nat) (dp : Int32) (S : ZS) (hL : mLx tl S) (h1 : 1 ≤ n) (h40 : n ≤ 40) (hO : mOK n S) (hdp : dp = 3) : zM sc yX7_readsCommand cX7_readsCommand 3 (some .boolean) 13 0 0 [.ref 0, .int (dp)] (mh S) (.inl (some (.int (zb (g_m_cmd0 tl n dp S).1)))) (mh (g_m_cmd0 tl n dp S).2) := by
  refine zM.at (ls := [some (.ref 0), some (.int (dp)), none]) zy_X7_readsCommand.2.2.2.2.2 (Nat.le_of_ble_eq_true rfl) rfl ?_
  refine z_aload_0 dX7_readsCommand_0 ?_
  refine Z.call0s (zRun.V (ρ := fun i => i) (k_m_wordAhead tl S hL) dX7_readsCommand_1 zy_X7_wordAhead zm_X7_241 rfl rfl rfl rfl (Nat.le_of_ble_eq_true rfl) (by decide) (by decide)) (zlen2 14 rfl rfl) ?_
  refine z_istore_2 dX7_readsCommand_4 rfl (by decide) ?_
  refine z_iload_2 dX7_readsCommand_5 ?_
  refine z_iconst (v := (-1)) dX7_readsCommand_6 rfl ?_
  refine z_icmp_ne (tgt := 16) dX7_readsCommand_7 (by decide) (fun c7 => ?_) (fun c7 => ?_)
  · refine z_iload_2 dX7_readsCommand_16 ?_
    refine z_bipush (v := 7) dX7_readsCommand_17 rfl ?_
    refine z_icmp_ne (tgt := 43) dX7_readsCommand_19 (by decide) (fun c19 => ?_) (fun c19 => ?_)
    · refine z_aload_0 dX7_readsCommand_43 ?_
      refine z_get (k := 27) (v := .int (S.1 27)) dX7_readsCommand_44 rfl rfl rfl (by decide) zf_X7_247 zw_in7 ?_
      refine z_sipush (v := 200) dX7_readsCommand_47 rfl ?_
      refine z_icmp_ne (tgt := 60) dX7_readsCommand_50 (by decide) (fun c50 => ?_) (fun c50 => ?_)
      · refine z_aload_0 dX7_readsCommand_60 ?_
        refine z_dup dX7_readsCommand_61 rfl ?_
        refine z_get (k := 27) (v := .int (S.1 27)) dX7_readsCommand_62 rfl rfl rfl (by decide) zf_X7_247 zw_in7 ?_
        refine z_iconst (v := 1) dX7_readsCommand_65 rfl ?_
        refine z_iadd dX7_readsCommand_66 ?_
        refine z_put (k := 27) (ty := tyX7) dX7_readsCommand_67 rfl rfl (by decide) zf_X7_247 zw_in7 tyX7_ok nmX7 rfl (fun _ => ⟨rfl, rfl⟩) (Nat.le_of_ble_eq_true rfl) ?_
        refine Z.heap (h2 := mh (sI 27 ((S.1 27) + 1) S)) rfl ?_
        refine z_aload_0 dX7_readsCommand_70 ?_
        refine Z.call0n (zRun.V (ρ := fun i => i) (k_m_next tl (sI 27 ((S.1 27) + 1) S) (hL.sI (by decide) (by decide) (by decide)).tk) dX7_readsCommand_71 zy_X7_next zm_X7_182 rfl rfl rfl rfl (Nat.le_of_ble_eq_true rfl) (by decide) (by decide)) (zlen2 14 rfl rfl) ?_
        refine z_iload_2 dX7_readsCommand_74 ?_
        by_cases cW0 : (g_m_wordAhead tl S) = 0
        · refine z_tabIn (off := 37) (tgt := 112) dX7_readsCommand_75 (by rw [cW0]; decide) (by rw [cW0]; decide) (by rw [cW0]; rfl) (by decide) ?_
          refine z_aload_0 dX7_readsCommand_112 ?_
          refine Z.call0s (zRun.V (ρ := fun i => i) (k_m_readsAssign tl n (g_m_next tl (sI 27 ((S.1 27) + 1) S)) (lx_next (hL.sI (by decide) (by decide) (by decide)).tk) h1 h40 ((kp_next (hL.sI (by decide) (by decide) (by decide)).tk).ok (hO.sI (by decide)))) dX7_readsCommand_113 zy_X7_readsAssign zm_X7_250 rfl rfl rfl rfl (Nat.le_of_ble_eq_true rfl) (by decide) (by decide)) (zlen2 14 rfl rfl) ?_
          rw [g_m_cmd0, if_neg c7, if_neg c19, if_neg c50, if_pos cW0]
          exact z_iret dX7_readsCommand_116 rfl (zb_nar _) rfl rfl
        · by_cases cW1 : (g_m_wordAhead tl S) = 1
          · refine z_tabIn (off := 42) (tgt := 117) dX7_readsCommand_75 (by rw [cW1]; decide) (by rw [cW1]; decide) (by rw [cW1]; rfl) (by decide) ?_
            refine z_aload_0 dX7_readsCommand_117 ?_
            refine Z.call0s (zRun.V (ρ := fun i => i) (k_m_readsAdd tl n (g_m_next tl (sI 27 ((S.1 27) + 1) S)) (lx_next (hL.sI (by decide) (by decide) (by decide)).tk) h1 h40 ((kp_next (hL.sI (by decide) (by decide) (by decide)).tk).ok (hO.sI (by decide)))) dX7_readsCommand_118 zy_X7_readsAdd zm_X7_253 rfl rfl rfl rfl (Nat.le_of_ble_eq_true rfl) (by decide) (by decide)) (zlen2 14 rfl rfl) ?_
            rw [g_m_cmd0, if_neg c7, if_neg c19, if_neg c50, if_neg cW0, if_pos cW1]
            exact z_iret dX7_readsCommand_121 rfl (zb_nar _) rfl rfl
          · by_cases cW2 : (g_m_wordAhead tl S) = 2
            · refine z_tabIn (off := 47) (tgt := 122) dX7_readsCommand_75 (by rw [cW2]; decide) (by rw [cW2]; decide) (by rw [cW2]; rfl) (by decide) ?_
              refine z_aload_0 dX7_readsCommand_122 ?_
              refine Z.call0s (zRun.V (ρ := fun i => i) (k_m_readsNegate tl n (g_m_next tl (sI 27 ((S.1 27) + 1) S)) (lx_next (hL.sI (by decide) (by decide) (by decide)).tk) h1 h40 ((kp_next (hL.sI (by decide) (by decide) (by decide)).tk).ok (hO.sI (by decide)))) dX7_readsCommand_123 zy_X7_readsNegate zm_X7_256 rfl rfl rfl rfl (Nat.le_of_ble_eq_true rfl) (by decide) (by decide)) (zlen2 14 rfl rfl) ?_
              rw [g_m_cmd0, if_neg c7, if_neg c19, if_neg c50, if_neg cW0, if_neg cW1, if_pos cW2]
              exact z_iret dX7_readsCommand_126 rfl (zb_nar _) rfl rfl
            · by_cases cW3 : (g_m_wordAhead tl S) = 3
              · refine z_tabIn (off := 52) (tgt := 127) dX7_readsCommand_75 (by rw [cW3]; decide) (by rw [cW3]; decide) (by rw [cW3]; rfl) (by decide) ?_
                refine z_aload_0 dX7_readsCommand_127 ?_
                refine Z.call0s (zRun.V (ρ := fun i => i) (k_m_rp tl n (g_m_next tl (sI 27 ((S.1 27) + 1) S)) (lx_next (hL.sI (by decide) (by decide) (by decide)).tk) h1 h40 ((kp_next (hL.sI (by decide) (by decide) (by decide)).tk).ok (hO.sI (by decide)))) dX7_readsCommand_128 zy_X7_readsPush zm_X7_259 rfl rfl rfl rfl (Nat.le_of_ble_eq_true rfl) (by decide) (by decide)) (zlen2 14 rfl rfl) ?_
                rw [g_m_cmd0, if_neg c7, if_neg c19, if_neg c50, if_neg cW0, if_neg cW1, if_neg cW2, if_pos cW3]
                exact z_iret dX7_readsCommand_131 rfl (zb_nar _) rfl rfl
              · by_cases cW4 : (g_m_wordAhead tl S) = 4
                · refine z_tabIn (off := 57) (tgt := 132) dX7_readsCommand_75 (by rw [cW4]; decide) (by rw [cW4]; decide) (by rw [cW4]; rfl) (by decide) ?_
                  refine z_aload_0 dX7_readsCommand_132 ?_
                  refine Z.call0s (zRun.V (ρ := fun i => i) (k_m_readsSettle tl n (g_m_next tl (sI 27 ((S.1 27) + 1) S)) (lx_next (hL.sI (by decide) (by decide) (by decide)).tk) h1 h40 ((kp_next (hL.sI (by decide) (by decide) (by decide)).tk).ok (hO.sI (by decide)))) dX7_readsCommand_133 zy_X7_readsSettle zm_X7_262 rfl rfl rfl rfl (Nat.le_of_ble_eq_true rfl) (by decide) (by decide)) (zlen2 14 rfl rfl) ?_
                  rw [g_m_cmd0, if_neg c7, if_neg c19, if_neg c50, if_neg cW0, if_neg cW1, if_neg cW2, if_neg cW3, if_pos cW4]
                  exact z_iret dX7_readsCommand_136 rfl (zb_nar _) rfl rfl
                · by_cases cW5 : (g_m_wordAhead tl S) = 5
                  · refine z_tabIn (off := 62) (tgt := 137) dX7_readsCommand_75 (by rw [cW5]; decide) (by rw [cW5]; decide) (by rw [cW5]; rfl) (by decide) ?_
                    refine z_aload_0 dX7_readsCommand_137 ?_
                    refine Z.call0s (zRun.V (ρ := fun i => i) (k_m_readsAppend tl n (g_m_next tl (sI 27 ((S.1 27) + 1) S)) (lx_next (hL.sI (by decide) (by decide) (by decide)).tk) h1 h40 ((kp_next (hL.sI (by decide) (by decide) (by decide)).tk).ok (hO.sI (by decide)))) dX7_readsCommand_138 zy_X7_readsAppend zm_X7_265 rfl rfl rfl rfl (Nat.le_of_ble_eq_true rfl) (by decide) (by decide)) (zlen2 14 rfl rfl) ?_
                    rw [g_m_cmd0, if_neg c7, if_neg c19, if_neg c50, if_neg cW0, if_neg cW1, if_neg cW2, if_neg cW3, if_neg cW4, if_pos cW5]
                    exact z_iret dX7_readsCommand_141 rfl (zb_nar _) rfl rfl
                  · refine z_tabOut (tgt := 142) dX7_readsCommand_75 (ztab6 cW0 cW1 cW2 cW3 cW4 cW5) (by decide) ?_
                    refine z_aload_0 dX7_readsCommand_142 ?_
                    refine Z.call0s (zRun.V (ρ := fun i => i) (k_m_readsRemove tl n (g_m_next tl (sI 27 ((S.1 27) + 1) S)) (lx_next (hL.sI (by decide) (by decide) (by decide)).tk) h1 h40 ((kp_next (hL.sI (by decide) (by decide) (by decide)).tk).ok (hO.sI (by decide)))) dX7_readsCommand_143 zy_X7_readsRemove zm_X7_268 rfl rfl rfl rfl (Nat.le_of_ble_eq_true rfl) (by decide) (by decide)) (zlen2 14 rfl rfl) ?_
                    rw [g_m_cmd0, if_neg c7, if_neg c19, if_neg c50, if_neg cW0, if_neg cW1, if_neg cW2, if_neg cW3, if_neg cW4, if_neg cW5]
                    exact z_iret dX7_readsCommand_146 rfl (zb_nar _) rfl rfl
      · refine z_aload_0 dX7_readsCommand_53 ?_
        refine z_bipush (v := 6) dX7_readsCommand_54 rfl ?_
        refine Z.call0s (zRun.V (ρ := fun i => i) (k_m_fail (6) S ) dX7_readsCommand_56 zy_X7_fail zm_X7_176 rfl rfl rfl rfl (Nat.le_of_ble_eq_true rfl) (by decide) (by decide)) (zlen2 14 rfl rfl) ?_
        refine z_topi (w := 0) (by rw [fail_1]; rfl) ?_
        rw [g_m_cmd0, if_neg c7, if_neg c19, if_pos c50]
        exact z_iret dX7_readsCommand_59 rfl rfl rfl rfl
    · refine z_iload_1 dX7_readsCommand_22 ?_
      refine z_iconst (v := 3) dX7_readsCommand_23 rfl ?_
      refine z_icmp_ne_f (tgt := 33) dX7_readsCommand_24 (by decide) hdp ?_
      refine z_aload_0 dX7_readsCommand_27 ?_
      refine z_iconst (v := 5) dX7_readsCommand_28 rfl ?_
      refine Z.call0s (zRun.V (ρ := fun i => i) (k_m_fail (5) S ) dX7_readsCommand_29 zy_X7_fail zm_X7_176 rfl rfl rfl rfl (Nat.le_of_ble_eq_true rfl) (by decide) (by decide)) (zlen2 14 rfl rfl) ?_
      refine z_topi (w := 0) (by rw [fail_1]; rfl) ?_
      rw [g_m_cmd0, if_neg c7, if_pos c19]
      exact z_iret dX7_readsCommand_32 rfl rfl rfl rfl
  · refine z_aload_0 dX7_readsCommand_10 ?_
    refine z_iconst (v := 1) dX7_readsCommand_11 rfl ?_
    refine Z.call0s (zRun.V (ρ := fun i => i) (k_m_fail (1) S ) dX7_readsCommand_12 zy_X7_fail zm_X7_176 rfl rfl rfl rfl (Nat.le_of_ble_eq_true rfl) (by decide) (by decide)) (zlen2 14 rfl rfl) ?_
    refine z_topi (w := 0) (by rw [fail_1]; rfl) ?_
    rw [g_m_cmd0, if_pos c7]
    exact z_iret dX7_readsCommand_15 rfl rfl rfl rfl
noncomputable def g_m_cmdS (_dd : Nat) (tl : Nat) (n : Nat) (RR : ZS → Bool × ZS) (_dp : Int32) (S : ZS) : Bool × ZS := (if (g_m_wordAhead tl S) = (-1) then (false, (g_m_fail (1) S).2) else (if (g_m_wordAhead tl S) = 7 then ((RR (g_m_next tl S)).1, (RR (g_m_next tl S)).2) else (if S.1 27 = 200 then (false, (g_m_fail (6) S).2) else (if (g_m_wordAhead tl S) = 0 then ((g_m_readsAssign tl n (g_m_next tl (sI 27 ((S.1 27) + 1) S))).1, (g_m_readsAssign tl n (g_m_next tl (sI 27 ((S.1 27) + 1) S))).2) else (if (g_m_wordAhead tl S) = 1 then ((g_m_readsAdd tl n (g_m_next tl (sI 27 ((S.1 27) + 1) S))).1, (g_m_readsAdd tl n (g_m_next tl (sI 27 ((S.1 27) + 1) S))).2) else (if (g_m_wordAhead tl S) = 2 then ((g_m_readsNegate tl n (g_m_next tl (sI 27 ((S.1 27) + 1) S))).1, (g_m_readsNegate tl n (g_m_next tl (sI 27 ((S.1 27) + 1) S))).2) else (if (g_m_wordAhead tl S) = 3 then ((g_m_rp tl n (g_m_next tl (sI 27 ((S.1 27) + 1) S))).1, (g_m_rp tl n (g_m_next tl (sI 27 ((S.1 27) + 1) S))).2) else (if (g_m_wordAhead tl S) = 4 then ((g_m_readsSettle tl n (g_m_next tl (sI 27 ((S.1 27) + 1) S))).1, (g_m_readsSettle tl n (g_m_next tl (sI 27 ((S.1 27) + 1) S))).2) else (if (g_m_wordAhead tl S) = 5 then ((g_m_readsAppend tl n (g_m_next tl (sI 27 ((S.1 27) + 1) S))).1, (g_m_readsAppend tl n (g_m_next tl (sI 27 ((S.1 27) + 1) S))).2) else ((g_m_readsRemove tl n (g_m_next tl (sI 27 ((S.1 27) + 1) S))).1, (g_m_readsRemove tl n (g_m_next tl (sI 27 ((S.1 27) + 1) S))).2))))))))))
theorem k_m_cmdS (dd : Nat) (tl : Nat) (n : Nat) (RR : ZS → Bool × ZS) (dp : Int32) (S : ZS) (hL : mLx tl S) (h1 : 1 ≤ n) (h40 : n ≤ 40) (hO : mOK n S) (hdp : ¬ dp = 3) (hRR : ∀ S, mPar tl S → zM sc yX7_readsRepeat cX7_readsRepeat 5 (some .boolean) dd 0 0 [.ref 0, .int dp] (mh S) (.inl (some (.int (zb (RR S).1)))) (mh (RR S).2)) (hd : 12 ≤ dd) : zM sc yX7_readsCommand cX7_readsCommand 3 (some .boolean) (dd + 1) 0 0 [.ref 0, .int (dp)] (mh S) (.inl (some (.int (zb (g_m_cmdS dd tl n RR dp S).1)))) (mh (g_m_cmdS dd tl n RR dp S).2) := by
  refine zM.at (ls := [some (.ref 0), some (.int (dp)), none]) zy_X7_readsCommand.2.2.2.2.2 (Nat.le_of_ble_eq_true rfl) rfl ?_
  refine z_aload_0 dX7_readsCommand_0 ?_
  refine Z.call0s (zRun.V (ρ := fun i => i) (k_m_wordAhead tl S hL) dX7_readsCommand_1 zy_X7_wordAhead zm_X7_241 rfl rfl rfl rfl (Nat.le_of_ble_eq_true rfl) (by omega) (by decide)) (zlen2 14 rfl rfl) ?_
  refine z_istore_2 dX7_readsCommand_4 rfl (by decide) ?_
  refine z_iload_2 dX7_readsCommand_5 ?_
  refine z_iconst (v := (-1)) dX7_readsCommand_6 rfl ?_
  refine z_icmp_ne (tgt := 16) dX7_readsCommand_7 (by decide) (fun c7 => ?_) (fun c7 => ?_)
  · refine z_iload_2 dX7_readsCommand_16 ?_
    refine z_bipush (v := 7) dX7_readsCommand_17 rfl ?_
    refine z_icmp_ne (tgt := 43) dX7_readsCommand_19 (by decide) (fun c19 => ?_) (fun c19 => ?_)
    · refine z_aload_0 dX7_readsCommand_43 ?_
      refine z_get (k := 27) (v := .int (S.1 27)) dX7_readsCommand_44 rfl rfl rfl (by decide) zf_X7_247 zw_in7 ?_
      refine z_sipush (v := 200) dX7_readsCommand_47 rfl ?_
      refine z_icmp_ne (tgt := 60) dX7_readsCommand_50 (by decide) (fun c50 => ?_) (fun c50 => ?_)
      · refine z_aload_0 dX7_readsCommand_60 ?_
        refine z_dup dX7_readsCommand_61 rfl ?_
        refine z_get (k := 27) (v := .int (S.1 27)) dX7_readsCommand_62 rfl rfl rfl (by decide) zf_X7_247 zw_in7 ?_
        refine z_iconst (v := 1) dX7_readsCommand_65 rfl ?_
        refine z_iadd dX7_readsCommand_66 ?_
        refine z_put (k := 27) (ty := tyX7) dX7_readsCommand_67 rfl rfl (by decide) zf_X7_247 zw_in7 tyX7_ok nmX7 rfl (fun _ => ⟨rfl, rfl⟩) (Nat.le_of_ble_eq_true rfl) ?_
        refine Z.heap (h2 := mh (sI 27 ((S.1 27) + 1) S)) rfl ?_
        refine z_aload_0 dX7_readsCommand_70 ?_
        refine Z.call0n (zRun.V (ρ := fun i => i) (k_m_next tl (sI 27 ((S.1 27) + 1) S) (hL.sI (by decide) (by decide) (by decide)).tk) dX7_readsCommand_71 zy_X7_next zm_X7_182 rfl rfl rfl rfl (Nat.le_of_ble_eq_true rfl) (by omega) (by decide)) (zlen2 14 rfl rfl) ?_
        refine z_iload_2 dX7_readsCommand_74 ?_
        by_cases cW0 : (g_m_wordAhead tl S) = 0
        · refine z_tabIn (off := 37) (tgt := 112) dX7_readsCommand_75 (by rw [cW0]; decide) (by rw [cW0]; decide) (by rw [cW0]; rfl) (by decide) ?_
          refine z_aload_0 dX7_readsCommand_112 ?_
          refine Z.call0s (zRun.V (ρ := fun i => i) (k_m_readsAssign tl n (g_m_next tl (sI 27 ((S.1 27) + 1) S)) (lx_next (hL.sI (by decide) (by decide) (by decide)).tk) h1 h40 ((kp_next (hL.sI (by decide) (by decide) (by decide)).tk).ok (hO.sI (by decide)))) dX7_readsCommand_113 zy_X7_readsAssign zm_X7_250 rfl rfl rfl rfl (Nat.le_of_ble_eq_true rfl) (by omega) (by decide)) (zlen2 14 rfl rfl) ?_
          rw [g_m_cmdS, if_neg c7, if_neg c19, if_neg c50, if_pos cW0]
          exact z_iret dX7_readsCommand_116 rfl (zb_nar _) rfl rfl
        · by_cases cW1 : (g_m_wordAhead tl S) = 1
          · refine z_tabIn (off := 42) (tgt := 117) dX7_readsCommand_75 (by rw [cW1]; decide) (by rw [cW1]; decide) (by rw [cW1]; rfl) (by decide) ?_
            refine z_aload_0 dX7_readsCommand_117 ?_
            refine Z.call0s (zRun.V (ρ := fun i => i) (k_m_readsAdd tl n (g_m_next tl (sI 27 ((S.1 27) + 1) S)) (lx_next (hL.sI (by decide) (by decide) (by decide)).tk) h1 h40 ((kp_next (hL.sI (by decide) (by decide) (by decide)).tk).ok (hO.sI (by decide)))) dX7_readsCommand_118 zy_X7_readsAdd zm_X7_253 rfl rfl rfl rfl (Nat.le_of_ble_eq_true rfl) (by omega) (by decide)) (zlen2 14 rfl rfl) ?_
            rw [g_m_cmdS, if_neg c7, if_neg c19, if_neg c50, if_neg cW0, if_pos cW1]
            exact z_iret dX7_readsCommand_121 rfl (zb_nar _) rfl rfl
          · by_cases cW2 : (g_m_wordAhead tl S) = 2
            · refine z_tabIn (off := 47) (tgt := 122) dX7_readsCommand_75 (by rw [cW2]; decide) (by rw [cW2]; decide) (by rw [cW2]; rfl) (by decide) ?_
              refine z_aload_0 dX7_readsCommand_122 ?_
              refine Z.call0s (zRun.V (ρ := fun i => i) (k_m_readsNegate tl n (g_m_next tl (sI 27 ((S.1 27) + 1) S)) (lx_next (hL.sI (by decide) (by decide) (by decide)).tk) h1 h40 ((kp_next (hL.sI (by decide) (by decide) (by decide)).tk).ok (hO.sI (by decide)))) dX7_readsCommand_123 zy_X7_readsNegate zm_X7_256 rfl rfl rfl rfl (Nat.le_of_ble_eq_true rfl) (by omega) (by decide)) (zlen2 14 rfl rfl) ?_
              rw [g_m_cmdS, if_neg c7, if_neg c19, if_neg c50, if_neg cW0, if_neg cW1, if_pos cW2]
              exact z_iret dX7_readsCommand_126 rfl (zb_nar _) rfl rfl
            · by_cases cW3 : (g_m_wordAhead tl S) = 3
              · refine z_tabIn (off := 52) (tgt := 127) dX7_readsCommand_75 (by rw [cW3]; decide) (by rw [cW3]; decide) (by rw [cW3]; rfl) (by decide) ?_
                refine z_aload_0 dX7_readsCommand_127 ?_
                refine Z.call0s (zRun.V (ρ := fun i => i) (k_m_rp tl n (g_m_next tl (sI 27 ((S.1 27) + 1) S)) (lx_next (hL.sI (by decide) (by decide) (by decide)).tk) h1 h40 ((kp_next (hL.sI (by decide) (by decide) (by decide)).tk).ok (hO.sI (by decide)))) dX7_readsCommand_128 zy_X7_readsPush zm_X7_259 rfl rfl rfl rfl (Nat.le_of_ble_eq_true rfl) (by omega) (by decide)) (zlen2 14 rfl rfl) ?_
                rw [g_m_cmdS, if_neg c7, if_neg c19, if_neg c50, if_neg cW0, if_neg cW1, if_neg cW2, if_pos cW3]
                exact z_iret dX7_readsCommand_131 rfl (zb_nar _) rfl rfl
              · by_cases cW4 : (g_m_wordAhead tl S) = 4
                · refine z_tabIn (off := 57) (tgt := 132) dX7_readsCommand_75 (by rw [cW4]; decide) (by rw [cW4]; decide) (by rw [cW4]; rfl) (by decide) ?_
                  refine z_aload_0 dX7_readsCommand_132 ?_
                  refine Z.call0s (zRun.V (ρ := fun i => i) (k_m_readsSettle tl n (g_m_next tl (sI 27 ((S.1 27) + 1) S)) (lx_next (hL.sI (by decide) (by decide) (by decide)).tk) h1 h40 ((kp_next (hL.sI (by decide) (by decide) (by decide)).tk).ok (hO.sI (by decide)))) dX7_readsCommand_133 zy_X7_readsSettle zm_X7_262 rfl rfl rfl rfl (Nat.le_of_ble_eq_true rfl) (by omega) (by decide)) (zlen2 14 rfl rfl) ?_
                  rw [g_m_cmdS, if_neg c7, if_neg c19, if_neg c50, if_neg cW0, if_neg cW1, if_neg cW2, if_neg cW3, if_pos cW4]
                  exact z_iret dX7_readsCommand_136 rfl (zb_nar _) rfl rfl
                · by_cases cW5 : (g_m_wordAhead tl S) = 5
                  · refine z_tabIn (off := 62) (tgt := 137) dX7_readsCommand_75 (by rw [cW5]; decide) (by rw [cW5]; decide) (by rw [cW5]; rfl) (by decide) ?_
                    refine z_aload_0 dX7_readsCommand_137 ?_
                    refine Z.call0s (zRun.V (ρ := fun i => i) (k_m_readsAppend tl n (g_m_next tl (sI 27 ((S.1 27) + 1) S)) (lx_next (hL.sI (by decide) (by decide) (by decide)).tk) h1 h40 ((kp_next (hL.sI (by decide) (by decide) (by decide)).tk).ok (hO.sI (by decide)))) dX7_readsCommand_138 zy_X7_readsAppend zm_X7_265 rfl rfl rfl rfl (Nat.le_of_ble_eq_true rfl) (by omega) (by decide)) (zlen2 14 rfl rfl) ?_
                    rw [g_m_cmdS, if_neg c7, if_neg c19, if_neg c50, if_neg cW0, if_neg cW1, if_neg cW2, if_neg cW3, if_neg cW4, if_pos cW5]
                    exact z_iret dX7_readsCommand_141 rfl (zb_nar _) rfl rfl
                  · refine z_tabOut (tgt := 142) dX7_readsCommand_75 (ztab6 cW0 cW1 cW2 cW3 cW4 cW5) (by decide) ?_
                    refine z_aload_0 dX7_readsCommand_142 ?_
                    refine Z.call0s (zRun.V (ρ := fun i => i) (k_m_readsRemove tl n (g_m_next tl (sI 27 ((S.1 27) + 1) S)) (lx_next (hL.sI (by decide) (by decide) (by decide)).tk) h1 h40 ((kp_next (hL.sI (by decide) (by decide) (by decide)).tk).ok (hO.sI (by decide)))) dX7_readsCommand_143 zy_X7_readsRemove zm_X7_268 rfl rfl rfl rfl (Nat.le_of_ble_eq_true rfl) (by omega) (by decide)) (zlen2 14 rfl rfl) ?_
                    rw [g_m_cmdS, if_neg c7, if_neg c19, if_neg c50, if_neg cW0, if_neg cW1, if_neg cW2, if_neg cW3, if_neg cW4, if_neg cW5]
                    exact z_iret dX7_readsCommand_146 rfl (zb_nar _) rfl rfl
      · refine z_aload_0 dX7_readsCommand_53 ?_
        refine z_bipush (v := 6) dX7_readsCommand_54 rfl ?_
        refine Z.call0s (zRun.V (ρ := fun i => i) (k_m_fail (6) S ) dX7_readsCommand_56 zy_X7_fail zm_X7_176 rfl rfl rfl rfl (Nat.le_of_ble_eq_true rfl) (by omega) (by decide)) (zlen2 14 rfl rfl) ?_
        refine z_topi (w := 0) (by rw [fail_1]; rfl) ?_
        rw [g_m_cmdS, if_neg c7, if_neg c19, if_pos c50]
        exact z_iret dX7_readsCommand_59 rfl rfl rfl rfl
    · refine z_iload_1 dX7_readsCommand_22 ?_
      refine z_iconst (v := 3) dX7_readsCommand_23 rfl ?_
      refine z_icmp_ne_t (tgt := 33) dX7_readsCommand_24 (by decide) hdp ?_
      refine z_aload_0 dX7_readsCommand_33 ?_
      refine Z.call0n (zRun.V (ρ := fun i => i) (k_m_next tl S hL.tk) dX7_readsCommand_34 zy_X7_next zm_X7_182 rfl rfl rfl rfl (Nat.le_of_ble_eq_true rfl) (by omega) (by decide)) (zlen2 14 rfl rfl) ?_
      refine z_aload_0 dX7_readsCommand_37 ?_
      refine z_iload_1 dX7_readsCommand_38 ?_
      refine Z.call0s (zRun.V (ρ := fun i => i) (hRR (g_m_next tl S) (mPar.of (lx_next hL.tk) ((kp_next hL.tk).ok hO) h1 h40)) dX7_readsCommand_39 zy_X7_readsRepeat zm_X7_244 rfl rfl rfl rfl (Nat.le_of_ble_eq_true rfl) (by omega) (by decide)) (zlen2 14 rfl rfl) ?_
      rw [g_m_cmdS, if_neg c7, if_pos c19]
      exact z_iret dX7_readsCommand_42 rfl (zb_nar _) rfl rfl
  · refine z_aload_0 dX7_readsCommand_10 ?_
    refine z_iconst (v := 1) dX7_readsCommand_11 rfl ?_
    refine Z.call0s (zRun.V (ρ := fun i => i) (k_m_fail (1) S ) dX7_readsCommand_12 zy_X7_fail zm_X7_176 rfl rfl rfl rfl (Nat.le_of_ble_eq_true rfl) (by omega) (by decide)) (zlen2 14 rfl rfl) ?_
    refine z_topi (w := 0) (by rw [fail_1]; rfl) ?_
    rw [g_m_cmdS, if_pos c7]
    exact z_iret dX7_readsCommand_15 rfl rfl rfl rfl
