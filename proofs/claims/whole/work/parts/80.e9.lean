variable {sc : SC}

/-- the script's state as a run begins -/
def rS0 (S : ZS) : ZS := sI 9 0 (sI 6 0 (sI 5 0 (sI 7 0 S)))
theorem goes_ok {c : Nat} {S : ZS} {TU : TS} (h : g_c_2_goesOn c S TU = true) : S.1 7 = 0 := by
  rw [g_c_2_goesOn] at h
  split at h
  next q => exact q
  next q => exact absurd h Bool.false_ne_true
theorem rS_ok {t : Nat} {S X : ZS} (h6 : t ≤ 600) : scO (kc t (rS0 S) X) (g_c_4_split t (rS0 S) X) ∧ scN (kc t (rS0 S) X) (g_c_4_split t (rS0 S) X) ∧ (g_c_4_split t (rS0 S) X).1 9 = nI 0 ∧ (g_c_4_split t (rS0 S) X).1 6 = nI 0 := by
  have h := split_ok (t := t) (S := rS0 S) (X := X) h6
  have h5 : (g_c_4_split t (rS0 S) X).1 5 = nI 0 := h.2.2.2.1 5 (by decide)
  have e := sp_nI h5 (by decide)
  exact ⟨⟨h.1, h.2.1, by rw [e]; exact h5, by rw [e]; exact Nat.zero_le _⟩, h.2.2.1, h.2.2.2.1 9 (by decide), h.2.2.2.1 6 (by decide)⟩
theorem seqL_all {c : Nat} {TU : TS} : ∀ fu k j S, scO c S → k ≤ 40 → j + fu = 41 → (k = j ∨ 40 ≤ k) → scO c (g_c_2_readSequence_L c fu k j S TU).1 ∧ (g_c_2_readSequence_L c fu k j S TU).1.1 4 = S.1 4 ∧ (g_c_2_readSequence_L c fu k j S TU).1.1 6 = S.1 6 ∧ (g_c_2_readSequence_L c fu k j S TU).1.1 9 = S.1 9 ∧ (g_c_2_readSequence_L c fu k j S TU).1.2 4 = S.2 4 ∧ ((g_c_2_readSequence_L c fu k j S TU).1.1 7 = 0 → tOK (g_c_2_readSequence_L c fu k j S TU).2) := by
  have hb : ∀ (k : Nat) (U : TS), 1 ≤ k → k ≤ 40 → ∀ f, tOK (tBuild (tSz U k f)) := fun k U h1 h2 f => tOK.of (n := k) (by rw [tn_build]; rfl) h1 h2
  intro fu
  induction fu with
  | zero =>
    intro k j S h hk hj hkj
    have e1 := exp_sc (x := 6) (TU := TU) h (by decide)
    have e2 : kf S (g_c_2_expect c 6 S TU) := kf_exp
    rw [g_c_2_readSequence_L]
    generalize g_c_2_expect c 6 S TU = E at e1 e2 ⊢
    split
    next q =>
      refine ⟨e1, e2.1, e2.2.1, e2.2.2.1, by rw [e2.2.2.2], fun _ => ?_⟩
      dsimp only
      exact hb k _ (by omega) hk _
    next q => exact ⟨e1, e2.1, e2.2.1, e2.2.2.1, by rw [e2.2.2.2], fun z => absurd z q⟩
  | succ fu ih =>
    intro k j S h hk hj hkj
    have e1 := exp_sc (x := 6) (TU := TU) h (by decide)
    have e2 : kf S (g_c_2_expect c 6 S TU) := kf_exp
    have e3 : ¬ S.1 7 = 0 → (g_c_2_expect c 6 S TU).1 7 = 0 → False := fun q z => by rw [exp_err q] at z; exact q z
    have v1 : ∀ b, scO c (g_c_2_readValue c b S TU).2 ∧ kf S (g_c_2_readValue c b S TU).2 := fun b => ⟨val_sc h, kf_val⟩
    rw [g_c_2_readSequence_L]
    generalize g_c_2_expect c 6 S TU = E at e1 e2 e3 ⊢
    have w0 : ∀ b k' j', k' ≤ 40 → j' + fu = 41 → (k' = j' ∨ 40 ≤ k') → _ := fun b k' j' a1 a2 a3 => ih k' j' (g_c_2_readValue c b S TU).2 (v1 b).1 a1 a2 a3
    have w1 : ∀ b k' j' v, k' ≤ 40 → j' + fu = 41 → (k' = j' ∨ 40 ≤ k') → _ := fun b k' j' v a1 a2 a3 => ih k' j' (sA 5 k v (g_c_2_readValue c b S TU).2) ((v1 b).1.of rfl rfl) a1 a2 a3
    have fin : ∀ b (R : ZS × TS), (scO c R.1 ∧ R.1.1 4 = (g_c_2_readValue c b S TU).2.1 4 ∧ R.1.1 6 = (g_c_2_readValue c b S TU).2.1 6 ∧ R.1.1 9 = (g_c_2_readValue c b S TU).2.1 9 ∧ R.1.2 4 = (g_c_2_readValue c b S TU).2.2 4 ∧ (R.1.1 7 = 0 → tOK R.2)) → scO c R.1 ∧ R.1.1 4 = S.1 4 ∧ R.1.1 6 = S.1 6 ∧ R.1.1 9 = S.1 9 ∧ R.1.2 4 = S.2 4 ∧ (R.1.1 7 = 0 → tOK R.2) := fun b R q => ⟨q.1, q.2.1.trans (v1 b).2.1, q.2.2.1.trans (v1 b).2.2.1, q.2.2.2.1.trans (v1 b).2.2.2.1, by rw [q.2.2.2.2.1, (v1 b).2.2.2.2], q.2.2.2.2.2⟩
    repeat' split
    all_goals
      first
        | exact ⟨e1, e2.1, e2.2.1, e2.2.2.1, by rw [e2.2.2.2], fun z => absurd z (by assumption)⟩
        | exact absurd (by assumption) (e3 (by assumption))
        | (refine ⟨e1, e2.1, e2.2.1, e2.2.2.1, by rw [e2.2.2.2], fun _ => ?_⟩; dsimp only; exact hb k _ (by omega) hk _)
        | exact fin true _ (w1 true (k + 1) (j + 1) _ (by omega) (by omega) (by omega))
        | exact fin false _ (w0 false k (j + 1) (by omega) (by omega) (by omega))
        | exact fin false _ (w1 false (k + 1) (j + 1) _ (by omega) (by omega) (by omega))
        | exact fin true _ (w0 true k (j + 1) (by omega) (by omega) (by omega))
theorem seq_R {c : Nat} {S : ZS} {TU : TS} (h : scO c S) (hN : scN c S) (h9 : S.1 9 = nI 0) (h6 : S.1 6 = nI 0) : scR c (g_c_2_readSequence c S TU).1 (g_c_2_readSequence c S TU).2 := by
  rw [g_c_2_readSequence]
  have e1 := exp_sc (x := 7) (TU := TU) h (by decide)
  have e2 : kf S (g_c_2_expect c 7 S TU) := kf_exp
  have k := seqL_all (TU := TU) 41 0 0 _ e1 (by decide) rfl (Or.inl rfl)
  generalize g_c_2_readSequence_L c 41 0 0 (g_c_2_expect c 7 S TU) TU = R at k ⊢
  obtain ⟨k1, k2, k3, k4, k5, k6⟩ := k
  have q9 : R.1.1 9 = nI 0 := k4.trans (e2.2.2.1.trans h9)
  have q6 : R.1.1 6 = nI 0 := k3.trans (e2.2.1.trans h6)
  have s9 := so_nI q9 (by decide)
  have s6 := xe_nI q6 (by decide)
  exact ⟨k1, hN.of (by rw [k5, e2.2.2.2]), ⟨by rw [s9]; exact q9, by omega⟩, ⟨by rw [s6]; exact q6, by omega⟩, fun k hk => by omega, k6⟩
theorem so_pred {S : ZS} (h : S.1 9 = nI (so S)) (h3 : so S ≤ 3) (hp : 0 < S.1 9) : S.1 9 = nI (so S - 1 + 1) ∧ so S - 1 < 3 := by
  have h1 : 1 ≤ so S := by
    rw [h, Int32.lt_iff_toInt_lt, nI_toInt (by omega)] at hp
    have : (0 : Int32).toInt = 0 := by decide
    omega
  exact ⟨by rw [Nat.sub_add_cancel h1]; exact h, by omega⟩
noncomputable def g_c_2_run_L (t : Nat) : Nat → Nat → Nat → ZS → ZS → TS → ZS × TS
  | 0, _, _, S, _, TU => (S, TU)
  | fu + 1, j, c, S, X, TU => (if ((g_c_2_goesOn c S TU)) = true then (if (g_c_4_codeAt c (sp S) S) < 9 then (if (g_c_4_codeAt c (sp S) S) = 8 then g_c_2_run_L t fu (j + 1) c (g_c_2_openRepeat c S TU) X TU else (if (g_c_4_codeAt c (sp S) S) = 5 then (if S.1 9 ≤ 0 then g_c_2_run_L t fu (j + 1) c (g_c_2_fail (1) S TU) X TU else g_c_2_run_L t fu (j + 1) c (g_c_2_closeRepeat c (so S - 1) S TU) X TU) else g_c_2_run_L t fu (j + 1) c (g_c_2_fail (1) S TU) X TU)) else g_c_2_run_L t fu (j + 1) c ((g_c_2_readCommand c (tz TU) ((g_c_4_codeAt c (sp S) S)) S TU).1) X ((g_c_2_readCommand c (tz TU) ((g_c_4_codeAt c (sp S) S)) S TU).2)) else (S, TU))
theorem l_g_c_2_run_L (t : Nat) : ∀ (fu : Nat) (j : Nat) (c : Nat) (S : ZS) (X : ZS) (TU : TS) (j3 : Option Value), (scR c S TU) → (j + fu = 1000000) → Z sc yX2_run cX2_run 4 none 8 0 0 34 [some (.ref 0), some (.ref 18), some (.int (nI (j))), j3] [] (sho 0 S TU ++ xho 18 X) (.inl none) (sho 0 (g_c_2_run_L t fu j c S X TU).1 (g_c_2_run_L t fu j c S X TU).2 ++ xho 18 X) := by
  intro fu
  induction fu with
  | zero =>
    intro j c S X TU j3 hR hj
    refine z_iload_2 dX2_run_34 ?_
    refine z_ldc (v := 1000000) dX2_run_35 zk_X2_65 ?_
    refine z_icmpN_ge_t (tgt := 116) dX2_run_37 (by decide) (x := j) (z := 1000000) (by first | omega | assumption) (by first | omega | assumption) (by omega) ?_
    rw [g_c_2_run_L]
    try dsimp only
    exact z_vret dX2_run_116 rfl rfl rfl
  | succ fu ih =>
    intro j c S X TU j3 hR hj
    refine z_iload_2 dX2_run_34 ?_
    refine z_ldc (v := 1000000) dX2_run_35 zk_X2_65 ?_
    refine z_icmpN_ge_f (tgt := 116) dX2_run_37 (by decide) (x := j) (z := 1000000) (by first | omega | assumption) (by first | omega | assumption) (by omega) ?_
    refine z_aload_0 dX2_run_40 ?_
    refine Z.callPs (zRun.V (ρ := fun i => i) (k_c_2_goesOn c S TU hR.1) dX2_run_41 zy_X2_goesOn zm_X2_66 rfl rfl rfl rfl (Nat.le_of_ble_eq_true rfl) (by decide) (by decide)) (zlen2 18 rfl rfl) ?_
    refine Z.heap (h2 := sho 0 S TU ++ xho 18 X) rfl ?_
    refine z_ifB_eq (tgt := 116) dX2_run_44 (by decide) (fun c44 => ?_) (fun c44 => ?_)
    · rw [g_c_2_run_L, if_neg c44]
      try dsimp only
      exact z_vret dX2_run_116 rfl rfl rfl
    · have hT := hR.2.2.2.2.2 (goes_ok c44)
      refine z_aload_0 dX2_run_47 ?_
      refine z_get (k := 1) (v := .ref 10) dX2_run_48 rfl rfl rfl (by decide) zf_X2_21 zw_in2 ?_
      refine z_aload_0 dX2_run_51 ?_
      refine z_get (k := 3) (v := .int (S.1 5)) dX2_run_52 rfl rfl rfl (by decide) zf_X2_29 zw_in2 ?_
      refine z_topi (w := nI (sp S)) hR.1.2.2.1 ?_
      refine Z.shs (sho 0 S TU ++ xho 18 X) (zRun.V (ρ := zsh 10) (k_c_4_codeAt c (sp S) S hR.1.1 hR.1.2.1 hR.1.lt) dX2_run_55 zy_X4_codeAt zm_X2_70 rfl rfl rfl rfl (Nat.le_of_ble_eq_true rfl) (by decide) (by decide) (zsh_fix 10)) (zsh_inj (Nat.le_of_ble_eq_true rfl)) ⟨rfl, rfl, rfl, rfl, trivial⟩ (zlen2 4 rfl rfl) rfl rfl ?_
      refine z_istore_3 dX2_run_58 rfl (by decide) ?_
      refine z_iload_3 dX2_run_59 ?_
      refine z_bipush (v := 9) dX2_run_60 rfl ?_
      refine z_icmp_lt (tgt := 73) dX2_run_62 (by decide) (fun c62 => ?_) (fun c62 => ?_)
      · refine z_iload_3 dX2_run_73 ?_
        refine z_bipush (v := 8) dX2_run_74 rfl ?_
        refine z_icmp_ne (tgt := 86) dX2_run_76 (by decide) (fun c76 => ?_) (fun c76 => ?_)
        · refine z_iload_3 dX2_run_86 ?_
          refine z_iconst (v := 5) dX2_run_87 rfl ?_
          refine z_icmp_ne (tgt := 105) dX2_run_88 (by decide) (fun c88 => ?_) (fun c88 => ?_)
          · refine z_aload_0 dX2_run_105 ?_
            refine z_iconst (v := 1) dX2_run_106 rfl ?_
            refine Z.callPn (zRun.V (ρ := fun i => i) (k_c_2_fail (1) S TU ) dX2_run_107 zy_X2_fail zm_X2_83 rfl rfl rfl rfl (Nat.le_of_ble_eq_true rfl) (by decide) (by decide)) (zlen2 18 rfl rfl) ?_
            refine Z.heap (h2 := sho 0 (g_c_2_fail (1) S TU) TU ++ xho 18 X) rfl ?_
            refine z_iinc_2 (v := nI (j + 1)) dX2_run_110 (nI_add _ 1) rfl (by decide) ?_
            refine z_goto (tgt := 34) dX2_run_113 (by decide) ?_
            rw [g_c_2_run_L, if_pos c44, if_pos c62, if_neg c76, if_neg c88]
            exact ih (j + 1) c (g_c_2_fail (1) S TU) X TU _ (by first | exact cmd_R hR hr hT | exact open_R hR hr hT | exact close_R hR hq9.1 hq9.2 hr hT | exact fail_R hR (by decide)) (by first | omega | assumption)
          · refine z_aload_0 dX2_run_91 ?_
            refine z_get (k := 7) (v := .int (S.1 9)) dX2_run_92 rfl rfl rfl (by decide) zf_X2_42 zw_in2 ?_
            refine z_if_le (tgt := 105) dX2_run_95 (by decide) (fun c95 => ?_) (fun c95 => ?_)
            · refine z_aload_0 dX2_run_105 ?_
              refine z_iconst (v := 1) dX2_run_106 rfl ?_
              refine Z.callPn (zRun.V (ρ := fun i => i) (k_c_2_fail (1) S TU ) dX2_run_107 zy_X2_fail zm_X2_83 rfl rfl rfl rfl (Nat.le_of_ble_eq_true rfl) (by decide) (by decide)) (zlen2 18 rfl rfl) ?_
              refine Z.heap (h2 := sho 0 (g_c_2_fail (1) S TU) TU ++ xho 18 X) rfl ?_
              refine z_iinc_2 (v := nI (j + 1)) dX2_run_110 (nI_add _ 1) rfl (by decide) ?_
              refine z_goto (tgt := 34) dX2_run_113 (by decide) ?_
              rw [g_c_2_run_L, if_pos c44, if_pos c62, if_neg c76, if_pos c88, if_pos c95]
              exact ih (j + 1) c (g_c_2_fail (1) S TU) X TU _ (by first | exact cmd_R hR hr hT | exact open_R hR hr hT | exact close_R hR hq9.1 hq9.2 hr hT | exact fail_R hR (by decide)) (by first | omega | assumption)
            · have hr : sp S < c := code_lt (by rw [c88]; decide)
              have hq9 := so_pred hR.2.2.1.1 hR.2.2.1.2 (Int32.not_le.mp c95)
              refine z_aload_0 dX2_run_98 ?_
              refine Z.callPn (zRun.V (ρ := fun i => i) (k_c_2_closeRepeat c (so S - 1) S TU hR.1 hq9.1 hq9.2 hr) dX2_run_99 zy_X2_closeRepeat zm_X2_80 rfl rfl rfl rfl (Nat.le_of_ble_eq_true rfl) (by decide) (by decide)) (zlen2 18 rfl rfl) ?_
              refine Z.heap (h2 := sho 0 (g_c_2_closeRepeat c (so S - 1) S TU) TU ++ xho 18 X) rfl ?_
              refine z_goto (tgt := 110) dX2_run_102 (by decide) ?_
              refine z_iinc_2 (v := nI (j + 1)) dX2_run_110 (nI_add _ 1) rfl (by decide) ?_
              refine z_goto (tgt := 34) dX2_run_113 (by decide) ?_
              rw [g_c_2_run_L, if_pos c44, if_pos c62, if_neg c76, if_pos c88, if_neg c95]
              exact ih (j + 1) c (g_c_2_closeRepeat c (so S - 1) S TU) X TU _ (by first | exact cmd_R hR hr hT | exact open_R hR hr hT | exact close_R hR hq9.1 hq9.2 hr hT | exact fail_R hR (by decide)) (by first | omega | assumption)
        · have hr : sp S < c := code_lt (by rw [c76]; decide)
          refine z_aload_0 dX2_run_79 ?_
          refine Z.callPn (zRun.V (ρ := fun i => i) (k_c_2_openRepeat c S TU hR.1 hR.2.2.1.1 hR.2.2.1.2 hr) dX2_run_80 zy_X2_openRepeat zm_X2_77 rfl rfl rfl rfl (Nat.le_of_ble_eq_true rfl) (by decide) (by decide)) (zlen2 18 rfl rfl) ?_
          refine Z.heap (h2 := sho 0 (g_c_2_openRepeat c S TU) TU ++ xho 18 X) rfl ?_
          refine z_goto (tgt := 110) dX2_run_83 (by decide) ?_
          refine z_iinc_2 (v := nI (j + 1)) dX2_run_110 (nI_add _ 1) rfl (by decide) ?_
          refine z_goto (tgt := 34) dX2_run_113 (by decide) ?_
          rw [g_c_2_run_L, if_pos c44, if_pos c62, if_pos c76]
          exact ih (j + 1) c (g_c_2_openRepeat c S TU) X TU _ (by first | exact cmd_R hR hr hT | exact open_R hR hr hT | exact close_R hR hq9.1 hq9.2 hr hT | exact fail_R hR (by decide)) (by first | omega | assumption)
      · have hr : sp S < c := code_lt (fun e => c62 (by rw [e]; decide))
        refine z_aload_0 dX2_run_65 ?_
        refine z_iload_3 dX2_run_66 ?_
        refine Z.callPn (zRun.V (ρ := fun i => i) (k_c_2_readCommand c (tz TU) ((g_c_4_codeAt c (sp S) S)) S TU hR.1 hR.2.1 hT.1 hT.2.1 hT.2.2 hr hR.2.2.2.1.1 hR.2.2.2.1.2) dX2_run_67 zy_X2_readCommand zm_X2_73 rfl rfl rfl rfl (Nat.le_of_ble_eq_true rfl) (by decide) (by decide)) (zlen2 18 rfl rfl) ?_
        refine Z.heap (h2 := sho 0 (g_c_2_readCommand c (tz TU) ((g_c_4_codeAt c (sp S) S)) S TU).1 (g_c_2_readCommand c (tz TU) ((g_c_4_codeAt c (sp S) S)) S TU).2 ++ xho 18 X) rfl ?_
        refine z_goto (tgt := 110) dX2_run_70 (by decide) ?_
        refine z_iinc_2 (v := nI (j + 1)) dX2_run_110 (nI_add _ 1) rfl (by decide) ?_
        refine z_goto (tgt := 34) dX2_run_113 (by decide) ?_
        rw [g_c_2_run_L, if_pos c44, if_neg c62]
        exact ih (j + 1) c ((g_c_2_readCommand c (tz TU) ((g_c_4_codeAt c (sp S) S)) S TU).1) X ((g_c_2_readCommand c (tz TU) ((g_c_4_codeAt c (sp S) S)) S TU).2) _ (by first | exact cmd_R hR hr hT | exact open_R hR hr hT | exact close_R hR hq9.1 hq9.2 hr hT | exact fail_R hR (by decide)) (by first | omega | assumption)
noncomputable def g_c_2_run (t : Nat) (S : ZS) (X : ZS) (TU : TS) : ZS × TS := g_c_2_run_L t (zopq 1000000) 0 (kc t (rS0 S) X) ((g_c_2_readSequence (kc t (rS0 S) X) (g_c_4_split t (rS0 S) X) TU).1) X ((g_c_2_readSequence (kc t (rS0 S) X) (g_c_4_split t (rS0 S) X) TU).2)
theorem k_c_2_run (t : Nat) (S : ZS) (X : ZS) (TU : TS) (ht : X.1 2 = nI t) (h6 : t ≤ 600) : zM sc yX2_run cX2_run 4 none 8 0 0 [.ref 0, .ref 18] (sho 0 S TU ++ xho 18 X) (.inl none) (sho 0 (g_c_2_run t S X TU).1 (g_c_2_run t S X TU).2 ++ xho 18 X) := by
  refine zM.at (ls := [some (.ref 0), some (.ref 18), none, none]) zy_X2_run.2.2.2.2.2 (Nat.le_of_ble_eq_true rfl) rfl ?_
  refine z_aload_0 dX2_run_0 ?_
  refine z_iconst (v := 0) dX2_run_1 rfl ?_
  refine z_put (k := 5) (ty := tyX2) dX2_run_2 rfl rfl (by decide) zf_X2_36 zw_in2 tyX2_ok nmX2 rfl (fun _ => ⟨rfl, rfl⟩) (Nat.le_of_ble_eq_true rfl) ?_
  refine Z.heap (h2 := sho 0 (sI 7 (0) S) TU ++ xho 18 X) rfl ?_
  refine z_aload_0 dX2_run_5 ?_
  refine z_iconst (v := 0) dX2_run_6 rfl ?_
  refine z_put (k := 3) (ty := tyX2) dX2_run_7 rfl rfl (by decide) zf_X2_29 zw_in2 tyX2_ok nmX2 rfl (fun _ => ⟨rfl, rfl⟩) (Nat.le_of_ble_eq_true rfl) ?_
  refine Z.heap (h2 := sho 0 (sI 5 (0) (sI 7 (0) S)) TU ++ xho 18 X) rfl ?_
  refine z_aload_0 dX2_run_10 ?_
  refine z_iconst (v := 0) dX2_run_11 rfl ?_
  refine z_put (k := 4) (ty := tyX2) dX2_run_12 rfl rfl (by decide) zf_X2_33 zw_in2 tyX2_ok nmX2 rfl (fun _ => ⟨rfl, rfl⟩) (Nat.le_of_ble_eq_true rfl) ?_
  refine Z.heap (h2 := sho 0 (sI 6 (0) (sI 5 (0) (sI 7 (0) S))) TU ++ xho 18 X) rfl ?_
  refine z_aload_0 dX2_run_15 ?_
  refine z_iconst (v := 0) dX2_run_16 rfl ?_
  refine z_put (k := 7) (ty := tyX2) dX2_run_17 rfl rfl (by decide) zf_X2_42 zw_in2 tyX2_ok nmX2 rfl (fun _ => ⟨rfl, rfl⟩) (Nat.le_of_ble_eq_true rfl) ?_
  refine Z.heap (h2 := sho 0 (sI 9 (0) (sI 6 (0) (sI 5 (0) (sI 7 (0) S)))) TU ++ xho 18 X) rfl ?_
  refine Z.heap (h2 := sho 0 (rS0 S) TU ++ xho 18 X) (by rw [rS0]) ?_
  refine z_aload_0 dX2_run_20 ?_
  refine z_get (k := 1) (v := .ref 10) dX2_run_21 rfl rfl rfl (by decide) zf_X2_21 zw_in2 ?_
  refine z_aload_1 dX2_run_24 ?_
  refine Z.shn (sho 0 (g_c_4_split t (rS0 S) X) TU ++ xho 18 X) (zRun.V (ρ := zs3 4 10 18) (k_c_4_split t (rS0 S) X ht h6) dX2_run_25 zy_X4_split zm_X2_58 rfl rfl rfl rfl (Nat.le_of_ble_eq_true rfl) (by decide) (by decide) (fun i => zs3_fix _ _ i (by decide))) (zs3_inj (Nat.le_of_ble_eq_true rfl) (Nat.le_of_ble_eq_true rfl) (Or.inl (by decide))) ⟨rfl, rfl, rfl, rfl, rfl, rfl, trivial⟩ (zlen2 6 rfl rfl) (by have hs := (split_ok (t := t) (S := rS0 S) (X := X) h6).2.2.2; generalize g_c_4_split t (rS0 S) X = R at hs ⊢; simp only [sho, hs.1 5 (by decide), hs.1 6 (by decide), hs.1 7 (by decide), hs.1 8 (by decide), hs.1 9 (by decide), hs.2 5 (by decide) (by decide) (by decide), hs.2 6 (by decide) (by decide) (by decide), hs.2 7 (by decide) (by decide) (by decide), hs.2 8 (by decide) (by decide) (by decide)]; rfl) ?_
  refine z_aload_0 dX2_run_28 ?_
  refine Z.callPn (zRun.V (ρ := fun i => i) (k_c_2_readSequence (kc t (rS0 S) X) (g_c_4_split t (rS0 S) X) TU (rS_ok h6).1) dX2_run_29 zy_X2_readSequence zm_X2_62 rfl rfl rfl rfl (Nat.le_of_ble_eq_true rfl) (by decide) (by decide)) (zlen2 18 rfl rfl) ?_
  refine Z.heap (h2 := sho 0 (g_c_2_readSequence (kc t (rS0 S) X) (g_c_4_split t (rS0 S) X) TU).1 (g_c_2_readSequence (kc t (rS0 S) X) (g_c_4_split t (rS0 S) X) TU).2 ++ xho 18 X) rfl ?_
  refine z_iconst (v := 0) dX2_run_32 rfl ?_
  refine z_istore_2 dX2_run_33 rfl (by decide) ?_
  rw [g_c_2_run]
  exact l_g_c_2_run_L t (zopq 1000000) 0 (kc t (rS0 S) X) ((g_c_2_readSequence (kc t (rS0 S) X) (g_c_4_split t (rS0 S) X) TU).1) X ((g_c_2_readSequence (kc t (rS0 S) X) (g_c_4_split t (rS0 S) X) TU).2) _ (seq_R (rS_ok h6).1 (rS_ok h6).2.1 (rS_ok h6).2.2.1 (rS_ok h6).2.2.2) (by have := zopq_eq 1000000; omega)
