variable {sc : SC}

/-- the geometry is that of the count it was grown for -/
def mFg (S : ZS) : Prop := ∀ g, 1 ≤ g → g ≤ 40 → S.1 19 = nI g → mFr g S
theorem mFg.gF {S R : ZS} (h : mFg S) (g : gF S R) : mFg R := by
  intro m h1 h40 e
  rcases g with ⟨a, b, c, d⟩ | ⟨n, n1, n40, e2, f⟩
  · have f := h m h1 h40 (a.symm.trans e)
    exact ⟨fun k hk => by rw [b, c]; exact f.1 k hk, fun i hi => by rw [d]; exact f.2 i hi⟩
  · rw [e2, nI_eq (by omega) (by omega)] at e
    exact e ▸ f
theorem mFg.ok {n : Nat} {S : ZS} (h : mFg S) (hc : S.2 0 0 = nI n) (h1 : 1 ≤ n) (h40 : n ≤ 40) : mOK n S := ⟨hc, fun e => h n h1 h40 e⟩
theorem mGr.fg {n : Nat} {S : ZS} (h : mGr n S) (h40 : n ≤ 40) : mFg S := by
  intro m h1 hm e
  rw [h.2.1, nI_eq (by omega) (by omega)] at e
  exact e ▸ h.2.2
/-- the sequence, read -/
theorem seq_okL {tl : Nat} : ∀ fu more n S, n + fu = 41 → n ≤ 40 → (more = false → 1 ≤ n) → S.2 0 0 = nI n → mLx tl S → pF S (g_m_readsSequence_L tl fu more n S).2 ∧ ((g_m_readsSequence_L tl fu more n S).1 = true → mLx tl (g_m_readsSequence_L tl fu more n S).2 ∧ ∃ m, 1 ≤ m ∧ m ≤ 40 ∧ (g_m_readsSequence_L tl fu more n S).2.2 0 0 = nI m) := by
  intro fu
  induction fu with
  | zero => intro more n S hn hn0; omega
  | succ fu ih =>
    intro more n S hn hn0 hm hc hL
    have hs := lx_signed (j := 0) hL
    have hk := kp_signed (j := 0) hL
    have ha : pF S (sA 0 0 (nI (n + 1)) (sA 0 (4 + n) ((g_m_signed tl 0 S).2.2 12 0) (g_m_signed tl 0 S).2)) := hk.pF.trans ⟨fun _ _ => rfl, fun j a b => by rw [sA_x (by omega), sA_x (by omega)], Or.inl ⟨rfl, by rw [sA_x (by decide), sA_x (by decide)], by rw [sA_x (by decide), sA_x (by decide)], by rw [sA_x (by decide), sA_x (by decide)]⟩⟩
    have hn2 : pF S (s_m_readsSequence_1 tl n S) := ha.trans (kp_next hs.sA.sA.tk).pF
    have hc2 : (s_m_readsSequence_1 tl n S).2 0 0 = nI (n + 1) := by rw [s_m_readsSequence_1, next_2 hs.sA.sA.tk, sA_same]
    have hl2 : mLx tl (s_m_readsSequence_1 tl n S) := lx_next hs.sA.sA.tk
    have hr : ∀ b : Bool, ¬ n = 40 → pF S (g_m_readsSequence_L tl fu b (n + 1) (s_m_readsSequence_1 tl n S)).2 ∧ ((g_m_readsSequence_L tl fu b (n + 1) (s_m_readsSequence_1 tl n S)).1 = true → mLx tl (g_m_readsSequence_L tl fu b (n + 1) (s_m_readsSequence_1 tl n S)).2 ∧ ∃ m, 1 ≤ m ∧ m ≤ 40 ∧ (g_m_readsSequence_L tl fu b (n + 1) (s_m_readsSequence_1 tl n S)).2.2 0 0 = nI m) := fun b c => by
      have h9 := ih b (n + 1) _ (by omega) (by omega) (fun _ => by omega) hc2 hl2
      exact ⟨hn2.trans h9.1, h9.2⟩
    rw [g_m_readsSequence_L]
    split
    next q =>
      split
      next q2 =>
        split
        next q3 => exact ⟨hk.pF.trans (kp_fail _ _).pF, fun e => absurd e Bool.false_ne_true⟩
        next q3 =>
          repeat' split
          all_goals exact hr _ q3
      next q2 => exact ⟨hk.pF, fun e => absurd e Bool.false_ne_true⟩
    next q =>
      refine ⟨(kp_is _ _).pF, fun e => ?_⟩
      rw [is_t2 e]
      exact ⟨hL, n, hm (by cases more with | true => exact absurd rfl q | false => rfl), hn0, hc⟩
theorem seq_ok {tl : Nat} {S : ZS} (hL : mLx tl S) (hc : S.2 0 0 = 0) : pF S (g_m_readsSequence tl S).2 ∧ ((g_m_readsSequence tl S).1 = true → mLx tl (g_m_readsSequence tl S).2 ∧ ∃ m, 1 ≤ m ∧ m ≤ 40 ∧ (g_m_readsSequence tl S).2.2 0 0 = nI m) := by
  have hk := kp_next hL.tk
  rw [g_m_readsSequence]
  split
  next q =>
    have h9 := seq_okL (tl := tl) 41 true 0 (g_m_next tl S) (by decide) (by decide) (fun e => absurd e (by decide)) (by rw [next_2 hL.tk]; exact hc) (lx_next hL.tk)
    exact ⟨hk.pF.trans h9.1, h9.2⟩
  next q => exact ⟨(kp_fail _ _).pF, fun e => absurd e Bool.false_ne_true⟩
theorem seq_par {tl : Nat} {S : ZS} (hL : mLx tl S) (hF : mFg S) (hc : S.2 0 0 = 0) (h : (g_m_readsSequence tl S).1 = true) : mPar tl (g_m_readsSequence tl S).2 := by
  have h1 := seq_ok hL hc
  obtain ⟨hl, m, m1, m40, hm⟩ := h1.2 h
  exact .of hl ((hF.gF h1.1.2.2).ok hm m1 m40) m1 m40
noncomputable def g_m_readsAll_L (tl : Nat) : Nat → ZS → Bool × ZS
  | 0, S => (false, S)
  | fu + 1, S => (if S.1 23 = 0 then (true, S) else (if ((g_cmd tl 3 S).1) = true then g_m_readsAll_L tl fu (g_m_next tl ((g_cmd tl 3 S).2)) else (false, (g_cmd tl 3 S).2)))
theorem l_g_m_readsAll_L (tl : Nat) : ∀ (fu : Nat) (S : ZS) , (mPar tl S) → (tl + 1 ≤ me S + fu) → Z sc yX7_readsAll cX7_readsAll 1 (some .boolean) 20 0 0 13 [some (.ref 0)] [] (mh S) (.inl (some (.int (zb (g_m_readsAll_L tl fu S).1)))) (mh (g_m_readsAll_L tl fu S).2) := by
  intro fu
  induction fu with
  | zero =>
    intro S hP hm
    exact absurd hP.1.1.2.2.2 (by omega)
  | succ fu ih =>
    intro S hP hm
    refine z_aload_0 dX7_readsAll_13 ?_
    refine z_get (k := 23) (v := .int (S.1 23)) dX7_readsAll_14 rfl rfl rfl (by decide) zf_X7_165 zw_in7 ?_
    refine z_if_eq (tgt := 37) dX7_readsAll_17 (by decide) (fun c17 => ?_) (fun c17 => ?_)
    · refine z_iconst (v := 1) dX7_readsAll_37 rfl ?_
      rw [g_m_readsAll_L, if_pos c17]
      exact z_iret dX7_readsAll_38 rfl rfl rfl rfl
    · refine z_aload_0 dX7_readsAll_20 ?_
      refine z_iconst (v := 0) dX7_readsAll_21 rfl ?_
      refine Z.call0s (zRun.V (ρ := fun i => i) ((k_cmd tl 3 (Nat.le_refl 3)) S hP) dX7_readsAll_22 zy_X7_readsCommand zm_X7_222 rfl rfl rfl rfl (Nat.le_of_ble_eq_true rfl) (by decide) (by decide)) (zlen2 14 rfl rfl) ?_
      refine z_ifB_ne (tgt := 30) dX7_readsAll_25 (by decide) (fun c25 => ?_) (fun c25 => ?_)
      · refine z_aload_0 dX7_readsAll_30 ?_
        refine Z.call0n (zRun.V (ρ := fun i => i) (k_m_next tl ((g_cmd tl 3 S).2) ((g_cmd_ok tl 3 S hP).2 c25).1.tk) dX7_readsAll_31 zy_X7_next zm_X7_182 rfl rfl rfl rfl (Nat.le_of_ble_eq_true rfl) (by decide) (by decide)) (zlen2 14 rfl rfl) ?_
        refine z_goto (tgt := 13) dX7_readsAll_34 (by decide) ?_
        rw [g_m_readsAll_L, if_neg c17, if_pos c25]
        exact ih (g_m_next tl ((g_cmd tl 3 S).2)) (par_next ((g_cmd_ok tl 3 S hP).2 c25).1) (by have := ((g_cmd_ok tl 3 S hP).2 c25).2; have := me_next ((g_cmd_ok tl 3 S hP).2 c25).1.tk; omega)
      · refine z_iconst (v := 0) dX7_readsAll_28 rfl ?_
        rw [g_m_readsAll_L, if_neg c17, if_neg c25]
        exact z_iret dX7_readsAll_29 rfl rfl rfl rfl
noncomputable def g_m_readsAll (tl : Nat) (S : ZS) : Bool × ZS := (if ((g_m_readsSequence tl S).1) = true then g_m_readsAll_L tl 601 (g_m_next tl ((g_m_readsSequence tl S).2)) else (false, (g_m_readsSequence tl S).2))
theorem k_m_readsAll (tl : Nat) (S : ZS) (hL : mLx tl S) (hF : mFg S) (hc : S.2 0 0 = 0) : zM sc yX7_readsAll cX7_readsAll 1 (some .boolean) 20 0 0 [.ref 0] (mh S) (.inl (some (.int (zb (g_m_readsAll tl S).1)))) (mh (g_m_readsAll tl S).2) := by
  refine zM.at (ls := [some (.ref 0)]) zy_X7_readsAll.2.2.2.2.2 (Nat.le_of_ble_eq_true rfl) rfl ?_
  refine z_aload_0 dX7_readsAll_0 ?_
  refine Z.call0s (zRun.V (ρ := fun i => i) (k_m_readsSequence tl S hL hc) dX7_readsAll_1 zy_X7_readsSequence zm_X7_271 rfl rfl rfl rfl (Nat.le_of_ble_eq_true rfl) (by decide) (by decide)) (zlen2 14 rfl rfl) ?_
  refine z_ifB_ne (tgt := 9) dX7_readsAll_4 (by decide) (fun c4 => ?_) (fun c4 => ?_)
  · refine z_aload_0 dX7_readsAll_9 ?_
    refine Z.call0n (zRun.V (ρ := fun i => i) (k_m_next tl ((g_m_readsSequence tl S).2) ((seq_ok hL hc).2 c4).1.tk) dX7_readsAll_10 zy_X7_next zm_X7_182 rfl rfl rfl rfl (Nat.le_of_ble_eq_true rfl) (by decide) (by decide)) (zlen2 14 rfl rfl) ?_
    rw [g_m_readsAll, if_pos c4]
    exact l_g_m_readsAll_L tl 601 (g_m_next tl ((g_m_readsSequence tl S).2)) (par_next (seq_par hL hF hc c4)) (by have := hL.1.2.1; omega)
  · refine z_iconst (v := 0) dX7_readsAll_7 rfl ?_
    rw [g_m_readsAll, if_neg c4]
    exact z_iret dX7_readsAll_8 rfl rfl rfl rfl
