variable {sc : SC}

theorem ztab9_6 {x : Int32} (h0 : ¬ x = 9) (h1 : ¬ x = 10) (h2 : ¬ x = 11) (h3 : ¬ x = 12) (h4 : ¬ x = 13) (h5 : ¬ x = 14) : x.toInt < 9 ∨ (14 : Int) < x.toInt := by
  have k : ∀ c : Int32, ¬ x = c → ¬ x.toInt = c.toInt := fun c h e => h (Int32.toInt_inj.mp e)
  have a0 := k 9 h0
  have a1 := k 10 h1
  have a2 := k 11 h2
  have a3 := k 12 h3
  have a4 := k 13 h4
  have a5 := k 14 h5
  have b0 : (9 : Int32).toInt = 9 := by decide
  have b1 : (10 : Int32).toInt = 10 := by decide
  have b2 : (11 : Int32).toInt = 11 := by decide
  have b3 : (12 : Int32).toInt = 12 := by decide
  have b4 : (13 : Int32).toInt = 13 := by decide
  have b5 : (14 : Int32).toInt = 14 := by decide
  omega
theorem scN.of {c : Nat} {S R : ZS} (h : scN c S) (e : R.2 4 = S.2 4) : scN c R := fun k => by
  have e2 : g_c_4_numberAt c k R = g_c_4_numberAt c k S := by rw [g_c_4_numberAt, g_c_4_numberAt, e]
  rw [nm, e2]
  exact h k
noncomputable def g_c_2_readCommand (c : Nat) (n : Nat) (x : Int32) (S : ZS) (TU : TS) : ZS × TS := (if xe S < 200 then (if x = 9 then ((sI 6 ((((g_c_2_readUpdate c n (x) (sI 5 (nI (sp S + 1)) S) TU).1).1 6) + 1) (g_c_2_readUpdate c n (x) (sI 5 (nI (sp S + 1)) S) TU).1), (g_c_2_readUpdate c n (x) (sI 5 (nI (sp S + 1)) S) TU).2) else (if x = 10 then ((sI 6 ((((g_c_2_readUpdate c n (x) (sI 5 (nI (sp S + 1)) S) TU).1).1 6) + 1) (g_c_2_readUpdate c n (x) (sI 5 (nI (sp S + 1)) S) TU).1), (g_c_2_readUpdate c n (x) (sI 5 (nI (sp S + 1)) S) TU).2) else (if x = 11 then ((sI 6 ((((g_c_2_readUpdate c n (x) (sI 5 (nI (sp S + 1)) S) TU).1).1 6) + 1) (g_c_2_readUpdate c n (x) (sI 5 (nI (sp S + 1)) S) TU).1), (g_c_2_readUpdate c n (x) (sI 5 (nI (sp S + 1)) S) TU).2) else (if x = 12 then ((sI 6 ((((g_c_2_readPush c (sI 5 (nI (sp S + 1)) S) TU).1).1 6) + 1) (g_c_2_readPush c (sI 5 (nI (sp S + 1)) S) TU).1), (g_c_2_readPush c (sI 5 (nI (sp S + 1)) S) TU).2) else (if x = 13 then (if ((g_c_2_ends c (true) (sI 5 (nI (sp S + 1)) S) TU).1) = true then ((sI 6 ((((g_c_2_ends c (true) (sI 5 (nI (sp S + 1)) S) TU).2).1 6) + 1) (g_c_2_ends c (true) (sI 5 (nI (sp S + 1)) S) TU).2), ((tPushEach TU).1)) else ((sI 6 ((((g_c_2_ends c (true) (sI 5 (nI (sp S + 1)) S) TU).2).1 6) + 1) (g_c_2_ends c (true) (sI 5 (nI (sp S + 1)) S) TU).2), TU)) else (if x = 14 then ((sI 6 ((((g_c_2_readAppend c n (sI 5 (nI (sp S + 1)) S) TU).1).1 6) + 1) (g_c_2_readAppend c n (sI 5 (nI (sp S + 1)) S) TU).1), (g_c_2_readAppend c n (sI 5 (nI (sp S + 1)) S) TU).2) else (if n ≤ 1 then (if ((g_c_2_ends c (false) (sI 5 (nI (sp S + 1)) S) TU).1) = true then ((sI 6 ((((g_c_2_ends c (false) (sI 5 (nI (sp S + 1)) S) TU).2).1 6) + 1) (g_c_2_ends c (false) (sI 5 (nI (sp S + 1)) S) TU).2), (tBuild (tSz TU (n - 1) (tva TU)))) else ((sI 6 ((((g_c_2_ends c (false) (sI 5 (nI (sp S + 1)) S) TU).2).1 6) + 1) (g_c_2_ends c (false) (sI 5 (nI (sp S + 1)) S) TU).2), TU)) else (if ((g_c_2_ends c (true) (sI 5 (nI (sp S + 1)) S) TU).1) = true then ((sI 6 ((((g_c_2_ends c (true) (sI 5 (nI (sp S + 1)) S) TU).2).1 6) + 1) (g_c_2_ends c (true) (sI 5 (nI (sp S + 1)) S) TU).2), (tBuild (tSz TU (n - 1) (tva TU)))) else ((sI 6 ((((g_c_2_ends c (true) (sI 5 (nI (sp S + 1)) S) TU).2).1 6) + 1) (g_c_2_ends c (true) (sI 5 (nI (sp S + 1)) S) TU).2), TU))))))))) else ((g_c_2_fail (6) S TU), TU))
theorem k_c_2_readCommand (c : Nat) (n : Nat) (x : Int32) (S : ZS) (TU : TS) (hS : scO c S) (hN : scN c S) (hn : tn TU = nI n) (h1 : 1 ≤ n) (h40 : n ≤ 40) (hr : sp S < c) (he : S.1 6 = nI (xe S)) (he2 : xe S ≤ 200) : zM sc yX2_readCommand cX2_readCommand 2 none 5 0 0 [.ref 0, .int (x)] (sho 0 S TU) (.inl none) (sho 0 (g_c_2_readCommand c n x S TU).1 (g_c_2_readCommand c n x S TU).2) := by
  refine zM.at (ls := [some (.ref 0), some (.int (x))]) zy_X2_readCommand.2.2.2.2.2 (Nat.le_of_ble_eq_true rfl) rfl ?_
  refine z_aload_0 dX2_readCommand_0 ?_
  refine z_get (k := 4) (v := .int (S.1 6)) dX2_readCommand_1 rfl rfl rfl (by decide) zf_X2_33 zw_in2 ?_
  refine z_topi (w := nI (xe S)) he ?_
  refine z_sipush (v := 200) dX2_readCommand_4 rfl ?_
  refine z_icmpN_lt (tgt := 17) dX2_readCommand_7 (by decide) (x := xe S) (z := 200) (by first | omega | assumption) (by first | omega | assumption) (fun c7 => ?_) (fun c7 => ?_)
  · refine z_aload_0 dX2_readCommand_17 ?_
    refine z_dup dX2_readCommand_18 rfl ?_
    refine z_get (k := 3) (v := .int (S.1 5)) dX2_readCommand_19 rfl rfl rfl (by decide) zf_X2_29 zw_in2 ?_
    refine z_topi (w := nI (sp S)) hS.2.2.1 ?_
    refine z_iconst (v := 1) dX2_readCommand_22 rfl ?_
    refine z_iadd dX2_readCommand_23 ?_
    refine z_topi (w := nI (sp S + 1)) (nI_add _ _) ?_
    refine z_put (k := 3) (ty := tyX2) dX2_readCommand_24 rfl rfl (by decide) zf_X2_29 zw_in2 tyX2_ok nmX2 rfl (fun _ => ⟨rfl, rfl⟩) (Nat.le_of_ble_eq_true rfl) ?_
    refine Z.heap (h2 := sho 0 (sI 5 (nI (sp S + 1)) S) TU) rfl ?_
    refine z_iload_1 dX2_readCommand_27 ?_
    by_cases cW0 : x = 9
    · refine z_tabIn (off := 40) (tgt := 68) dX2_readCommand_28 (by rw [cW0]; decide) (by rw [cW0]; decide) (by rw [cW0]; rfl) (by decide) ?_
      refine z_aload_0 dX2_readCommand_68 ?_
      refine z_iload_1 dX2_readCommand_69 ?_
      refine Z.call0n (zRun.V (ρ := fun i => i) (k_c_2_readUpdate c n (x) (sI 5 (nI (sp S + 1)) S) TU (adv_sc hS hr) hn h1 h40) dX2_readCommand_70 zy_X2_readUpdate zm_X2_111 rfl rfl rfl rfl (Nat.le_of_ble_eq_true rfl) (by decide) (by decide)) (zlen2 18 rfl rfl) ?_
      refine z_goto (tgt := 139) dX2_readCommand_73 (by decide) ?_
      refine z_aload_0 dX2_readCommand_139 ?_
      refine z_dup dX2_readCommand_140 rfl ?_
      refine z_get (k := 4) (v := .int (((g_c_2_readUpdate c n (x) (sI 5 (nI (sp S + 1)) S) TU).1).1 6)) dX2_readCommand_141 rfl rfl rfl (by decide) zf_X2_33 zw_in2 ?_
      refine z_iconst (v := 1) dX2_readCommand_144 rfl ?_
      refine z_iadd dX2_readCommand_145 ?_
      refine z_put (k := 4) (ty := tyX2) dX2_readCommand_146 rfl rfl (by decide) zf_X2_33 zw_in2 tyX2_ok nmX2 rfl (fun _ => ⟨rfl, rfl⟩) (Nat.le_of_ble_eq_true rfl) ?_
      refine Z.heap (h2 := sho 0 (sI 6 ((((g_c_2_readUpdate c n (x) (sI 5 (nI (sp S + 1)) S) TU).1).1 6) + 1) (g_c_2_readUpdate c n (x) (sI 5 (nI (sp S + 1)) S) TU).1) (g_c_2_readUpdate c n (x) (sI 5 (nI (sp S + 1)) S) TU).2) rfl ?_
      rw [g_c_2_readCommand, if_pos c7, if_pos cW0]
      try dsimp only
      exact z_vret dX2_readCommand_149 rfl rfl rfl
    · by_cases cW1 : x = 10
      · refine z_tabIn (off := 40) (tgt := 68) dX2_readCommand_28 (by rw [cW1]; decide) (by rw [cW1]; decide) (by rw [cW1]; rfl) (by decide) ?_
        refine z_aload_0 dX2_readCommand_68 ?_
        refine z_iload_1 dX2_readCommand_69 ?_
        refine Z.call0n (zRun.V (ρ := fun i => i) (k_c_2_readUpdate c n (x) (sI 5 (nI (sp S + 1)) S) TU (adv_sc hS hr) hn h1 h40) dX2_readCommand_70 zy_X2_readUpdate zm_X2_111 rfl rfl rfl rfl (Nat.le_of_ble_eq_true rfl) (by decide) (by decide)) (zlen2 18 rfl rfl) ?_
        refine z_goto (tgt := 139) dX2_readCommand_73 (by decide) ?_
        refine z_aload_0 dX2_readCommand_139 ?_
        refine z_dup dX2_readCommand_140 rfl ?_
        refine z_get (k := 4) (v := .int (((g_c_2_readUpdate c n (x) (sI 5 (nI (sp S + 1)) S) TU).1).1 6)) dX2_readCommand_141 rfl rfl rfl (by decide) zf_X2_33 zw_in2 ?_
        refine z_iconst (v := 1) dX2_readCommand_144 rfl ?_
        refine z_iadd dX2_readCommand_145 ?_
        refine z_put (k := 4) (ty := tyX2) dX2_readCommand_146 rfl rfl (by decide) zf_X2_33 zw_in2 tyX2_ok nmX2 rfl (fun _ => ⟨rfl, rfl⟩) (Nat.le_of_ble_eq_true rfl) ?_
        refine Z.heap (h2 := sho 0 (sI 6 ((((g_c_2_readUpdate c n (x) (sI 5 (nI (sp S + 1)) S) TU).1).1 6) + 1) (g_c_2_readUpdate c n (x) (sI 5 (nI (sp S + 1)) S) TU).1) (g_c_2_readUpdate c n (x) (sI 5 (nI (sp S + 1)) S) TU).2) rfl ?_
        rw [g_c_2_readCommand, if_pos c7, if_neg cW0, if_pos cW1]
        try dsimp only
        exact z_vret dX2_readCommand_149 rfl rfl rfl
      · by_cases cW2 : x = 11
        · refine z_tabIn (off := 40) (tgt := 68) dX2_readCommand_28 (by rw [cW2]; decide) (by rw [cW2]; decide) (by rw [cW2]; rfl) (by decide) ?_
          refine z_aload_0 dX2_readCommand_68 ?_
          refine z_iload_1 dX2_readCommand_69 ?_
          refine Z.call0n (zRun.V (ρ := fun i => i) (k_c_2_readUpdate c n (x) (sI 5 (nI (sp S + 1)) S) TU (adv_sc hS hr) hn h1 h40) dX2_readCommand_70 zy_X2_readUpdate zm_X2_111 rfl rfl rfl rfl (Nat.le_of_ble_eq_true rfl) (by decide) (by decide)) (zlen2 18 rfl rfl) ?_
          refine z_goto (tgt := 139) dX2_readCommand_73 (by decide) ?_
          refine z_aload_0 dX2_readCommand_139 ?_
          refine z_dup dX2_readCommand_140 rfl ?_
          refine z_get (k := 4) (v := .int (((g_c_2_readUpdate c n (x) (sI 5 (nI (sp S + 1)) S) TU).1).1 6)) dX2_readCommand_141 rfl rfl rfl (by decide) zf_X2_33 zw_in2 ?_
          refine z_iconst (v := 1) dX2_readCommand_144 rfl ?_
          refine z_iadd dX2_readCommand_145 ?_
          refine z_put (k := 4) (ty := tyX2) dX2_readCommand_146 rfl rfl (by decide) zf_X2_33 zw_in2 tyX2_ok nmX2 rfl (fun _ => ⟨rfl, rfl⟩) (Nat.le_of_ble_eq_true rfl) ?_
          refine Z.heap (h2 := sho 0 (sI 6 ((((g_c_2_readUpdate c n (x) (sI 5 (nI (sp S + 1)) S) TU).1).1 6) + 1) (g_c_2_readUpdate c n (x) (sI 5 (nI (sp S + 1)) S) TU).1) (g_c_2_readUpdate c n (x) (sI 5 (nI (sp S + 1)) S) TU).2) rfl ?_
          rw [g_c_2_readCommand, if_pos c7, if_neg cW0, if_neg cW1, if_pos cW2]
          try dsimp only
          exact z_vret dX2_readCommand_149 rfl rfl rfl
        · by_cases cW3 : x = 12
          · refine z_tabIn (off := 48) (tgt := 76) dX2_readCommand_28 (by rw [cW3]; decide) (by rw [cW3]; decide) (by rw [cW3]; rfl) (by decide) ?_
            refine z_aload_0 dX2_readCommand_76 ?_
            refine Z.call0n (zRun.V (ρ := fun i => i) (k_c_2_readPush c (sI 5 (nI (sp S + 1)) S) TU (adv_sc hS hr) (hN.of rfl)) dX2_readCommand_77 zy_X2_readPush zm_X2_114 rfl rfl rfl rfl (Nat.le_of_ble_eq_true rfl) (by decide) (by decide)) (zlen2 18 rfl rfl) ?_
            refine z_goto (tgt := 139) dX2_readCommand_80 (by decide) ?_
            refine z_aload_0 dX2_readCommand_139 ?_
            refine z_dup dX2_readCommand_140 rfl ?_
            refine z_get (k := 4) (v := .int (((g_c_2_readPush c (sI 5 (nI (sp S + 1)) S) TU).1).1 6)) dX2_readCommand_141 rfl rfl rfl (by decide) zf_X2_33 zw_in2 ?_
            refine z_iconst (v := 1) dX2_readCommand_144 rfl ?_
            refine z_iadd dX2_readCommand_145 ?_
            refine z_put (k := 4) (ty := tyX2) dX2_readCommand_146 rfl rfl (by decide) zf_X2_33 zw_in2 tyX2_ok nmX2 rfl (fun _ => ⟨rfl, rfl⟩) (Nat.le_of_ble_eq_true rfl) ?_
            refine Z.heap (h2 := sho 0 (sI 6 ((((g_c_2_readPush c (sI 5 (nI (sp S + 1)) S) TU).1).1 6) + 1) (g_c_2_readPush c (sI 5 (nI (sp S + 1)) S) TU).1) (g_c_2_readPush c (sI 5 (nI (sp S + 1)) S) TU).2) rfl ?_
            rw [g_c_2_readCommand, if_pos c7, if_neg cW0, if_neg cW1, if_neg cW2, if_pos cW3]
            try dsimp only
            exact z_vret dX2_readCommand_149 rfl rfl rfl
          · by_cases cW4 : x = 13
            · refine z_tabIn (off := 55) (tgt := 83) dX2_readCommand_28 (by rw [cW4]; decide) (by rw [cW4]; decide) (by rw [cW4]; rfl) (by decide) ?_
              refine z_aload_0 dX2_readCommand_83 ?_
              refine z_iconst (v := 1) dX2_readCommand_84 rfl ?_
              refine Z.call0s (zRun.V (ρ := fun i => i) (k_c_2_ends c (true) (sI 5 (nI (sp S + 1)) S) TU (adv_sc hS hr)) dX2_readCommand_85 zy_X2_ends zm_X2_117 rfl rfl rfl rfl (Nat.le_of_ble_eq_true rfl) (by decide) (by decide)) (zlen2 18 rfl rfl) ?_
              refine z_ifB_eq (tgt := 139) dX2_readCommand_88 (by decide) (fun c88 => ?_) (fun c88 => ?_)
              · refine z_aload_0 dX2_readCommand_139 ?_
                refine z_dup dX2_readCommand_140 rfl ?_
                refine z_get (k := 4) (v := .int (((g_c_2_ends c (true) (sI 5 (nI (sp S + 1)) S) TU).2).1 6)) dX2_readCommand_141 rfl rfl rfl (by decide) zf_X2_33 zw_in2 ?_
                refine z_iconst (v := 1) dX2_readCommand_144 rfl ?_
                refine z_iadd dX2_readCommand_145 ?_
                refine z_put (k := 4) (ty := tyX2) dX2_readCommand_146 rfl rfl (by decide) zf_X2_33 zw_in2 tyX2_ok nmX2 rfl (fun _ => ⟨rfl, rfl⟩) (Nat.le_of_ble_eq_true rfl) ?_
                refine Z.heap (h2 := sho 0 (sI 6 ((((g_c_2_ends c (true) (sI 5 (nI (sp S + 1)) S) TU).2).1 6) + 1) (g_c_2_ends c (true) (sI 5 (nI (sp S + 1)) S) TU).2) TU) rfl ?_
                rw [g_c_2_readCommand, if_pos c7, if_neg cW0, if_neg cW1, if_neg cW2, if_neg cW3, if_pos cW4, if_neg c88]
                try dsimp only
                exact z_vret dX2_readCommand_149 rfl rfl rfl
              · refine z_aload_0 dX2_readCommand_91 ?_
                refine z_get (k := 0) (v := .ref 1) dX2_readCommand_92 rfl rfl rfl (by decide) zf_X2_12 zw_in2 ?_
                refine Z.shs (sho 0 (g_c_2_ends c (true) (sI 5 (nI (sp S + 1)) S) TU).2 ((tPushEach TU).1)) (zRun.V (ρ := zsh 1) (k_pushEach TU) dX2_readCommand_95 zy_X5_pushEach zm_X2_121 rfl rfl rfl rfl (Nat.le_of_ble_eq_true rfl) (by decide) (by decide) (zsh_fix 1)) (zsh_inj (Nat.le_of_ble_eq_true rfl)) ⟨rfl, rfl, rfl, rfl, rfl, rfl, rfl, rfl, rfl, trivial⟩ (zlen2 9 rfl rfl) rfl rfl ?_
                refine z_pop dX2_readCommand_98 rfl ?_
                refine z_goto (tgt := 139) dX2_readCommand_99 (by decide) ?_
                refine z_aload_0 dX2_readCommand_139 ?_
                refine z_dup dX2_readCommand_140 rfl ?_
                refine z_get (k := 4) (v := .int (((g_c_2_ends c (true) (sI 5 (nI (sp S + 1)) S) TU).2).1 6)) dX2_readCommand_141 rfl rfl rfl (by decide) zf_X2_33 zw_in2 ?_
                refine z_iconst (v := 1) dX2_readCommand_144 rfl ?_
                refine z_iadd dX2_readCommand_145 ?_
                refine z_put (k := 4) (ty := tyX2) dX2_readCommand_146 rfl rfl (by decide) zf_X2_33 zw_in2 tyX2_ok nmX2 rfl (fun _ => ⟨rfl, rfl⟩) (Nat.le_of_ble_eq_true rfl) ?_
                refine Z.heap (h2 := sho 0 (sI 6 ((((g_c_2_ends c (true) (sI 5 (nI (sp S + 1)) S) TU).2).1 6) + 1) (g_c_2_ends c (true) (sI 5 (nI (sp S + 1)) S) TU).2) ((tPushEach TU).1)) rfl ?_
                rw [g_c_2_readCommand, if_pos c7, if_neg cW0, if_neg cW1, if_neg cW2, if_neg cW3, if_pos cW4, if_pos c88]
                try dsimp only
                exact z_vret dX2_readCommand_149 rfl rfl rfl
            · by_cases cW5 : x = 14
              · refine z_tabIn (off := 74) (tgt := 102) dX2_readCommand_28 (by rw [cW5]; decide) (by rw [cW5]; decide) (by rw [cW5]; rfl) (by decide) ?_
                refine z_aload_0 dX2_readCommand_102 ?_
                refine Z.call0n (zRun.V (ρ := fun i => i) (k_c_2_readAppend c n (sI 5 (nI (sp S + 1)) S) TU (adv_sc hS hr) hn h1 h40) dX2_readCommand_103 zy_X2_readAppend zm_X2_125 rfl rfl rfl rfl (Nat.le_of_ble_eq_true rfl) (by decide) (by decide)) (zlen2 18 rfl rfl) ?_
                refine z_goto (tgt := 139) dX2_readCommand_106 (by decide) ?_
                refine z_aload_0 dX2_readCommand_139 ?_
                refine z_dup dX2_readCommand_140 rfl ?_
                refine z_get (k := 4) (v := .int (((g_c_2_readAppend c n (sI 5 (nI (sp S + 1)) S) TU).1).1 6)) dX2_readCommand_141 rfl rfl rfl (by decide) zf_X2_33 zw_in2 ?_
                refine z_iconst (v := 1) dX2_readCommand_144 rfl ?_
                refine z_iadd dX2_readCommand_145 ?_
                refine z_put (k := 4) (ty := tyX2) dX2_readCommand_146 rfl rfl (by decide) zf_X2_33 zw_in2 tyX2_ok nmX2 rfl (fun _ => ⟨rfl, rfl⟩) (Nat.le_of_ble_eq_true rfl) ?_
                refine Z.heap (h2 := sho 0 (sI 6 ((((g_c_2_readAppend c n (sI 5 (nI (sp S + 1)) S) TU).1).1 6) + 1) (g_c_2_readAppend c n (sI 5 (nI (sp S + 1)) S) TU).1) (g_c_2_readAppend c n (sI 5 (nI (sp S + 1)) S) TU).2) rfl ?_
                rw [g_c_2_readCommand, if_pos c7, if_neg cW0, if_neg cW1, if_neg cW2, if_neg cW3, if_neg cW4, if_pos cW5]
                try dsimp only
                exact z_vret dX2_readCommand_149 rfl rfl rfl
              · refine z_tabOut (tgt := 109) dX2_readCommand_28 (ztab9_6 cW0 cW1 cW2 cW3 cW4 cW5) (by decide) ?_
                refine z_aload_0 dX2_readCommand_109 ?_
                refine z_aload_0 dX2_readCommand_110 ?_
                refine z_get (k := 0) (v := .ref 1) dX2_readCommand_111 rfl rfl rfl (by decide) zf_X2_12 zw_in2 ?_
                refine Z.shs (sho 0 (sI 5 (nI (sp S + 1)) S) TU) (zRun.V (ρ := zsh 1) (k_size TU) dX2_readCommand_114 zy_X5_size zm_X2_128 rfl rfl rfl rfl (Nat.le_of_ble_eq_true rfl) (by decide) (by decide) (zsh_fix 1)) (zsh_inj (Nat.le_of_ble_eq_true rfl)) ⟨rfl, rfl, rfl, rfl, rfl, rfl, rfl, rfl, rfl, trivial⟩ (zlen2 9 rfl rfl) rfl rfl ?_
                refine z_topi (w := nI (n)) hn ?_
                refine z_iconst (v := 1) dX2_readCommand_117 rfl ?_
                refine z_icmpN_le (tgt := 125) dX2_readCommand_118 (by decide) (x := n) (z := 1) (by first | omega | assumption) (by first | omega | assumption) (fun c118 => ?_) (fun c118 => ?_)
                · refine z_iconst (v := 0) dX2_readCommand_125 rfl ?_
                  refine Z.call0s (zRun.V (ρ := fun i => i) (k_c_2_ends c (false) (sI 5 (nI (sp S + 1)) S) TU (adv_sc hS hr)) dX2_readCommand_126 zy_X2_ends zm_X2_117 rfl rfl rfl rfl (Nat.le_of_ble_eq_true rfl) (by decide) (by decide)) (zlen2 18 rfl rfl) ?_
                  refine z_ifB_eq (tgt := 139) dX2_readCommand_129 (by decide) (fun c129 => ?_) (fun c129 => ?_)
                  · refine z_aload_0 dX2_readCommand_139 ?_
                    refine z_dup dX2_readCommand_140 rfl ?_
                    refine z_get (k := 4) (v := .int (((g_c_2_ends c (false) (sI 5 (nI (sp S + 1)) S) TU).2).1 6)) dX2_readCommand_141 rfl rfl rfl (by decide) zf_X2_33 zw_in2 ?_
                    refine z_iconst (v := 1) dX2_readCommand_144 rfl ?_
                    refine z_iadd dX2_readCommand_145 ?_
                    refine z_put (k := 4) (ty := tyX2) dX2_readCommand_146 rfl rfl (by decide) zf_X2_33 zw_in2 tyX2_ok nmX2 rfl (fun _ => ⟨rfl, rfl⟩) (Nat.le_of_ble_eq_true rfl) ?_
                    refine Z.heap (h2 := sho 0 (sI 6 ((((g_c_2_ends c (false) (sI 5 (nI (sp S + 1)) S) TU).2).1 6) + 1) (g_c_2_ends c (false) (sI 5 (nI (sp S + 1)) S) TU).2) TU) rfl ?_
                    rw [g_c_2_readCommand, if_pos c7, if_neg cW0, if_neg cW1, if_neg cW2, if_neg cW3, if_neg cW4, if_neg cW5, if_pos c118, if_neg c129]
                    try dsimp only
                    exact z_vret dX2_readCommand_149 rfl rfl rfl
                  · refine z_aload_0 dX2_readCommand_132 ?_
                    refine z_get (k := 0) (v := .ref 1) dX2_readCommand_133 rfl rfl rfl (by decide) zf_X2_12 zw_in2 ?_
                    refine Z.shn (sho 0 (g_c_2_ends c (false) (sI 5 (nI (sp S + 1)) S) TU).2 (tBuild (tSz TU (n - 1) (tva TU)))) (zRun.V (ρ := zsh 1) (k_shorten TU (n - 1) (by rw [hn]; congr 1; omega) (by first | omega | exact absurd (ends_ok (by assumption)).1 Bool.false_ne_true) (by omega)) dX2_readCommand_136 zy_X5_shorten zm_X2_131 rfl rfl rfl rfl (Nat.le_of_ble_eq_true rfl) (by decide) (by decide) (zsh_fix 1)) (zsh_inj (Nat.le_of_ble_eq_true rfl)) ⟨rfl, rfl, rfl, rfl, rfl, rfl, rfl, rfl, rfl, trivial⟩ (zlen2 9 rfl rfl) rfl ?_
                    refine z_aload_0 dX2_readCommand_139 ?_
                    refine z_dup dX2_readCommand_140 rfl ?_
                    refine z_get (k := 4) (v := .int (((g_c_2_ends c (false) (sI 5 (nI (sp S + 1)) S) TU).2).1 6)) dX2_readCommand_141 rfl rfl rfl (by decide) zf_X2_33 zw_in2 ?_
                    refine z_iconst (v := 1) dX2_readCommand_144 rfl ?_
                    refine z_iadd dX2_readCommand_145 ?_
                    refine z_put (k := 4) (ty := tyX2) dX2_readCommand_146 rfl rfl (by decide) zf_X2_33 zw_in2 tyX2_ok nmX2 rfl (fun _ => ⟨rfl, rfl⟩) (Nat.le_of_ble_eq_true rfl) ?_
                    refine Z.heap (h2 := sho 0 (sI 6 ((((g_c_2_ends c (false) (sI 5 (nI (sp S + 1)) S) TU).2).1 6) + 1) (g_c_2_ends c (false) (sI 5 (nI (sp S + 1)) S) TU).2) (tBuild (tSz TU (n - 1) (tva TU)))) rfl ?_
                    rw [g_c_2_readCommand, if_pos c7, if_neg cW0, if_neg cW1, if_neg cW2, if_neg cW3, if_neg cW4, if_neg cW5, if_pos c118, if_pos c129]
                    try dsimp only
                    exact z_vret dX2_readCommand_149 rfl rfl rfl
                · refine z_iconst (v := 1) dX2_readCommand_121 rfl ?_
                  refine z_goto (tgt := 126) dX2_readCommand_122 (by decide) ?_
                  refine Z.call0s (zRun.V (ρ := fun i => i) (k_c_2_ends c (true) (sI 5 (nI (sp S + 1)) S) TU (adv_sc hS hr)) dX2_readCommand_126 zy_X2_ends zm_X2_117 rfl rfl rfl rfl (Nat.le_of_ble_eq_true rfl) (by decide) (by decide)) (zlen2 18 rfl rfl) ?_
                  refine z_ifB_eq (tgt := 139) dX2_readCommand_129 (by decide) (fun c129 => ?_) (fun c129 => ?_)
                  · refine z_aload_0 dX2_readCommand_139 ?_
                    refine z_dup dX2_readCommand_140 rfl ?_
                    refine z_get (k := 4) (v := .int (((g_c_2_ends c (true) (sI 5 (nI (sp S + 1)) S) TU).2).1 6)) dX2_readCommand_141 rfl rfl rfl (by decide) zf_X2_33 zw_in2 ?_
                    refine z_iconst (v := 1) dX2_readCommand_144 rfl ?_
                    refine z_iadd dX2_readCommand_145 ?_
                    refine z_put (k := 4) (ty := tyX2) dX2_readCommand_146 rfl rfl (by decide) zf_X2_33 zw_in2 tyX2_ok nmX2 rfl (fun _ => ⟨rfl, rfl⟩) (Nat.le_of_ble_eq_true rfl) ?_
                    refine Z.heap (h2 := sho 0 (sI 6 ((((g_c_2_ends c (true) (sI 5 (nI (sp S + 1)) S) TU).2).1 6) + 1) (g_c_2_ends c (true) (sI 5 (nI (sp S + 1)) S) TU).2) TU) rfl ?_
                    rw [g_c_2_readCommand, if_pos c7, if_neg cW0, if_neg cW1, if_neg cW2, if_neg cW3, if_neg cW4, if_neg cW5, if_neg c118, if_neg c129]
                    try dsimp only
                    exact z_vret dX2_readCommand_149 rfl rfl rfl
                  · refine z_aload_0 dX2_readCommand_132 ?_
                    refine z_get (k := 0) (v := .ref 1) dX2_readCommand_133 rfl rfl rfl (by decide) zf_X2_12 zw_in2 ?_
                    refine Z.shn (sho 0 (g_c_2_ends c (true) (sI 5 (nI (sp S + 1)) S) TU).2 (tBuild (tSz TU (n - 1) (tva TU)))) (zRun.V (ρ := zsh 1) (k_shorten TU (n - 1) (by rw [hn]; congr 1; omega) (by first | omega | exact absurd (ends_ok (by assumption)).1 Bool.false_ne_true) (by omega)) dX2_readCommand_136 zy_X5_shorten zm_X2_131 rfl rfl rfl rfl (Nat.le_of_ble_eq_true rfl) (by decide) (by decide) (zsh_fix 1)) (zsh_inj (Nat.le_of_ble_eq_true rfl)) ⟨rfl, rfl, rfl, rfl, rfl, rfl, rfl, rfl, rfl, trivial⟩ (zlen2 9 rfl rfl) rfl ?_
                    refine z_aload_0 dX2_readCommand_139 ?_
                    refine z_dup dX2_readCommand_140 rfl ?_
                    refine z_get (k := 4) (v := .int (((g_c_2_ends c (true) (sI 5 (nI (sp S + 1)) S) TU).2).1 6)) dX2_readCommand_141 rfl rfl rfl (by decide) zf_X2_33 zw_in2 ?_
                    refine z_iconst (v := 1) dX2_readCommand_144 rfl ?_
                    refine z_iadd dX2_readCommand_145 ?_
                    refine z_put (k := 4) (ty := tyX2) dX2_readCommand_146 rfl rfl (by decide) zf_X2_33 zw_in2 tyX2_ok nmX2 rfl (fun _ => ⟨rfl, rfl⟩) (Nat.le_of_ble_eq_true rfl) ?_
                    refine Z.heap (h2 := sho 0 (sI 6 ((((g_c_2_ends c (true) (sI 5 (nI (sp S + 1)) S) TU).2).1 6) + 1) (g_c_2_ends c (true) (sI 5 (nI (sp S + 1)) S) TU).2) (tBuild (tSz TU (n - 1) (tva TU)))) rfl ?_
                    rw [g_c_2_readCommand, if_pos c7, if_neg cW0, if_neg cW1, if_neg cW2, if_neg cW3, if_neg cW4, if_neg cW5, if_neg c118, if_pos c129]
                    try dsimp only
                    exact z_vret dX2_readCommand_149 rfl rfl rfl
  · refine z_aload_0 dX2_readCommand_10 ?_
    refine z_bipush (v := 6) dX2_readCommand_11 rfl ?_
    refine Z.call0n (zRun.V (ρ := fun i => i) (k_c_2_fail (6) S TU ) dX2_readCommand_13 zy_X2_fail zm_X2_83 rfl rfl rfl rfl (Nat.le_of_ble_eq_true rfl) (by decide) (by decide)) (zlen2 18 rfl rfl) ?_
    rw [g_c_2_readCommand, if_neg c7]
    try dsimp only
    exact z_vret dX2_readCommand_16 rfl rfl rfl
/-- the tree's size -/
def tz (T : TS) : Nat := (tn T).toNatClampNeg
def tOK (T : TS) : Prop := tn T = nI (tz T) ∧ 1 ≤ tz T ∧ tz T ≤ 40
theorem tOK.of {T : TS} {n : Nat} (h : tn T = nI n) (h1 : 1 ≤ n) (h2 : n ≤ 40) : tOK T := by
  have e : tz T = n := by rw [tz, h, nI_clamp (by omega)]
  rw [tOK, e]
  exact ⟨h, h1, h2⟩
theorem tOK.same {T U : TS} (h : tOK T) (e : tn U = tn T) : tOK U := tOK.of (e.trans h.1) h.2.1 h.2.2
