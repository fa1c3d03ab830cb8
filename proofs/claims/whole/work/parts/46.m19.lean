variable {sc : SC}

theorem sA_zero {k : Nat} {S : ZS} (h : 0 < k → S.2 0 0 = 0) : (sA 0 k 0 S).2 0 0 = 0 := by
  by_cases e : k = 0
  · subst e; rw [sA_same]
  · rw [sA_o (by omega)]; exact h (by omega)
theorem clear_0 : ∀ fu k S, (g_m_clearMarks_L fu k S).2 0 0 = S.2 0 0 := by
  intro fu
  induction fu with
  | zero => intro k S; rfl
  | succ fu ih =>
    intro k S
    rw [g_m_clearMarks_L, ih, sA_o (by omega), sA_o (by omega)]
theorem clear_1 : ∀ fu k S, (g_m_clearMarks_L fu k S).1 = S.1 := by
  intro fu
  induction fu with
  | zero => intro k S; rfl
  | succ fu ih =>
    intro k S
    rw [g_m_clearMarks_L, ih]
    rfl
theorem gF_A {j i : Nat} {v : Int32} {S : ZS} (h : ¬ j = 8) (h1 : ¬ j = 9) (h2 : ¬ j = 10) : gF S (sA j i v S) := Or.inl ⟨rfl, sA_x (by omega), sA_x (by omega), sA_x (by omega)⟩
theorem gF_I {k : Nat} {v : Int32} {S : ZS} (h : ¬ k = 19) : gF S (sI k v S) := Or.inl ⟨sI_o (by omega), rfl, rfl, rfl⟩
/-- where a parse begins -/
noncomputable def pX (S : ZS) : ZS := sI 25 0 (sI 27 0 (sI 12 (-1) (sI 11 0 (g_m_clearMarks S))))
theorem pX_tk {tl : Nat} {S : ZS} (ht : S.1 10 = nI tl) (h6 : tl ≤ 600) : mTk tl (pX S) := by
  have e : (pX S).1 10 = nI tl := by
    show (g_m_clearMarks S).1 10 = nI tl
    rw [g_m_clearMarks, clear_1]; exact ht
  have e25 : (pX S).1 25 = nI 0 := rfl
  have e2 : me (pX S) = 0 := me_nI e25 (by decide)
  exact ⟨e, h6, by rw [e2]; exact e25, by omega⟩
theorem pX_fg {S : ZS} (h : mFg S) : mFg (pX S) := by
  refine h.gF (((((?_ : gF S (g_m_clearMarks S)).trans (gF_I (by decide))).trans (gF_I (by decide))).trans (gF_I (by decide))).trans (gF_I (by decide)))
  rw [g_m_clearMarks]
  exact (clear_uF _ 0 S).2.2
theorem pX_0 {S : ZS} (h : S.2 0 0 = 0) : (pX S).2 0 0 = 0 := by
  show (g_m_clearMarks S).2 0 0 = 0
  rw [g_m_clearMarks, clear_0]; exact h
noncomputable def s_m_parses_1 (tl : Nat) (S : ZS) : ZS := (g_m_readsAll tl (g_m_next tl (sI 25 (0) (sI 27 (0) (sI 12 ((-1)) (sI 11 (0) (g_m_clearMarks S))))))).2
noncomputable def g_m_parses_L (tl : Nat) : Nat → Nat → ZS → Bool × ZS
  | 0, _, S => ((g_m_readsAll tl (g_m_next tl (sI 25 (0) (sI 27 (0) (sI 12 ((-1)) (sI 11 (0) (g_m_clearMarks S))))))).1, (s_m_parses_1 tl S))
  | fu + 1, k, S => g_m_parses_L tl fu (k + 1) (sA 0 (k) (0) S)
theorem l_g_m_parses_L (tl : Nat) : ∀ (fu : Nat) (k : Nat) (S : ZS) , (k + fu = 300) → (S.1 10 = nI tl) → (tl ≤ 600) → (mFg S) → (0 < k → S.2 0 0 = 0) → Z sc yX7_parses cX7_parses 2 (some .boolean) 21 0 0 2 [some (.ref 0), some (.int (nI (k)))] [] (mh S) (.inl (some (.int (zb (g_m_parses_L tl fu k S).1)))) (mh (g_m_parses_L tl fu k S).2) := by
  intro fu
  induction fu with
  | zero =>
    intro k S hk ht h6 hF h0
    refine z_iload_1 dX7_parses_2 ?_
    refine z_sipush (v := 300) dX7_parses_3 rfl ?_
    refine z_icmpN_ge_t (tgt := 22) dX7_parses_6 (by decide) (x := k) (z := 300) (by first | omega | assumption) (by first | omega | assumption) (by omega) ?_
    refine z_aload_0 dX7_parses_22 ?_
    refine Z.call0n (zRun.V (ρ := fun i => i) (k_m_clearMarks S ) dX7_parses_23 zy_X7_clearMarks zm_X7_124 rfl rfl rfl rfl (Nat.le_of_ble_eq_true rfl) (by decide) (by decide)) (zlen2 14 rfl rfl) ?_
    refine z_aload_0 dX7_parses_26 ?_
    refine z_iconst (v := 0) dX7_parses_27 rfl ?_
    refine z_put (k := 11) (ty := tyX7) dX7_parses_28 rfl rfl (by decide) zf_X7_173 zw_in7 tyX7_ok nmX7 rfl (fun _ => ⟨rfl, rfl⟩) (Nat.le_of_ble_eq_true rfl) ?_
    refine Z.heap (h2 := mh (sI 11 (0) (g_m_clearMarks S))) rfl ?_
    refine z_aload_0 dX7_parses_31 ?_
    refine z_iconst (v := (-1)) dX7_parses_32 rfl ?_
    refine z_put (k := 12) (ty := tyX7) dX7_parses_33 rfl rfl (by decide) zf_X7_31 zw_in7 tyX7_ok nmX7 rfl (fun _ => ⟨rfl, rfl⟩) (Nat.le_of_ble_eq_true rfl) ?_
    refine Z.heap (h2 := mh (sI 12 ((-1)) (sI 11 (0) (g_m_clearMarks S)))) rfl ?_
    refine z_aload_0 dX7_parses_36 ?_
    refine z_iconst (v := 0) dX7_parses_37 rfl ?_
    refine z_put (k := 27) (ty := tyX7) dX7_parses_38 rfl rfl (by decide) zf_X7_247 zw_in7 tyX7_ok nmX7 rfl (fun _ => ⟨rfl, rfl⟩) (Nat.le_of_ble_eq_true rfl) ?_
    refine Z.heap (h2 := mh (sI 27 (0) (sI 12 ((-1)) (sI 11 (0) (g_m_clearMarks S))))) rfl ?_
    refine z_aload_0 dX7_parses_41 ?_
    refine z_iconst (v := 0) dX7_parses_42 rfl ?_
    refine z_put (k := 25) (ty := tyX7) dX7_parses_43 rfl rfl (by decide) zf_X7_159 zw_in7 tyX7_ok nmX7 rfl (fun _ => ⟨rfl, rfl⟩) (Nat.le_of_ble_eq_true rfl) ?_
    refine Z.heap (h2 := mh (sI 25 (0) (sI 27 (0) (sI 12 ((-1)) (sI 11 (0) (g_m_clearMarks S)))))) rfl ?_
    refine z_aload_0 dX7_parses_46 ?_
    refine Z.call0n (zRun.V (ρ := fun i => i) (k_m_next tl (sI 25 (0) (sI 27 (0) (sI 12 ((-1)) (sI 11 (0) (g_m_clearMarks S))))) (pX_tk ht h6)) dX7_parses_47 zy_X7_next zm_X7_182 rfl rfl rfl rfl (Nat.le_of_ble_eq_true rfl) (by decide) (by decide)) (zlen2 14 rfl rfl) ?_
    refine z_aload_0 dX7_parses_50 ?_
    refine Z.call0s (zRun.V (ρ := fun i => i) (k_m_readsAll tl (g_m_next tl (sI 25 (0) (sI 27 (0) (sI 12 ((-1)) (sI 11 (0) (g_m_clearMarks S)))))) (lx_next (pX_tk ht h6)) ((pX_fg hF).gF (kp_next (pX_tk ht h6)).gF) ((congrFun (congrFun (next_2 (pX_tk ht h6)) 0) 0).trans (pX_0 (h0 (by omega))))) dX7_parses_51 zy_X7_readsAll zm_X7_274 rfl rfl rfl rfl (Nat.le_of_ble_eq_true rfl) (by decide) (by decide)) (zlen2 14 rfl rfl) ?_
    rw [g_m_parses_L]
    exact z_iret dX7_parses_54 rfl (zb_nar _) rfl rfl
  | succ fu ih =>
    intro k S hk ht h6 hF h0
    refine z_iload_1 dX7_parses_2 ?_
    refine z_sipush (v := 300) dX7_parses_3 rfl ?_
    refine z_icmpN_ge_f (tgt := 22) dX7_parses_6 (by decide) (x := k) (z := 300) (by first | omega | assumption) (by first | omega | assumption) (by omega) ?_
    refine z_aload_0 dX7_parses_9 ?_
    refine z_get (k := 0) (v := .ref 1) dX7_parses_10 rfl rfl rfl (by decide) zf_X7_7 zw_in7 ?_
    refine z_iload_1 dX7_parses_13 ?_
    refine z_iconst (v := 0) dX7_parses_14 rfl ?_
    refine z_iastN (k := k) dX7_parses_15 rfl (by first | omega | assumption) (by decide) ?_
    refine Z.heap (h2 := mh (sA 0 (k) (0) S)) rfl ?_
    refine z_iinc_1 (v := nI (k + 1)) dX7_parses_16 (nI_add _ 1) rfl (by decide) ?_
    refine z_goto (tgt := 2) dX7_parses_19 (by decide) ?_
    rw [g_m_parses_L]
    exact ih (k + 1) (sA 0 (k) (0) S) (by first | omega | assumption) ht (by first | omega | assumption) (hF.gF (gF_A (by decide) (by decide) (by decide))) (fun _ => sA_zero h0)
noncomputable def g_m_parses (tl : Nat) (S : ZS) : Bool × ZS := g_m_parses_L tl 300 0 S
theorem k_m_parses (tl : Nat) (S : ZS) (ht : S.1 10 = nI tl) (h6 : tl ≤ 600) (hF : mFg S) : zM sc yX7_parses cX7_parses 2 (some .boolean) 21 0 0 [.ref 0] (mh S) (.inl (some (.int (zb (g_m_parses tl S).1)))) (mh (g_m_parses tl S).2) := by
  refine zM.at (ls := [some (.ref 0), none]) zy_X7_parses.2.2.2.2.2 (Nat.le_of_ble_eq_true rfl) rfl ?_
  refine z_iconst (v := 0) dX7_parses_0 rfl ?_
  refine z_istore_1 dX7_parses_1 rfl (by decide) ?_
  rw [g_m_parses]
  exact l_g_m_parses_L tl 300 0 S (by first | omega | assumption) ht (by first | omega | assumption) hF (fun h => absurd h (Nat.lt_irrefl 0))
