variable {sc : SC}

/-- the states differ in the geometry alone -/
def mEq (S R : ZS) : Prop := (∀ k, ¬ k = 19 → R.1 k = S.1 k) ∧ (∀ j, ¬ j = 8 → ¬ j = 9 → ¬ j = 10 → R.2 j = S.2 j)
theorem mEq.rfl' (S : ZS) : mEq S S := ⟨fun _ _ => rfl, fun _ _ _ _ => rfl⟩
theorem mEq.trans {S R Q : ZS} (h : mEq S R) (g : mEq R Q) : mEq S Q := ⟨fun k hk => (g.1 k hk).trans (h.1 k hk), fun j a b c => (g.2 j a b c).trans (h.2 j a b c)⟩
theorem grL2 {n : Nat} (h40 : n ≤ 40) : ∀ (fu k : Nat) (S : ZS), k + fu = 128 → 1 ≤ k → gr2 n k S → gr2 n 128 (g_m_grows_L2 n fu k S) ∧ (g_m_grows_L2 n fu k S).1 = S.1 ∧ ∀ j, ¬ j = 8 → ¬ j = 9 → ¬ j = 10 → (g_m_grows_L2 n fu k S).2 j = S.2 j := by
  intro fu
  induction fu with
  | zero => intro k S hk h1 h; exact ⟨(by omega : k = 128) ▸ h, rfl, fun _ _ _ _ => rfl⟩
  | succ fu ih =>
    intro k S hk h1 h
    have ha40 := gp_40 n k h40
    rw [g_m_grows_L2]
    by_cases c : nI (gp n k).1 = nI (gp n k).2 - 1
    · rw [if_pos c]
      have h2 := ih (k + 1) _ (by omega) (by omega) (gr2_leaf h h40 h1 (by omega) ((zgp_eq ha40.1 ha40.2).mp c))
      exact ⟨h2.1, h2.2.1, fun j a b d => (h2.2.2 j a b d).trans (by rw [sA_x d])⟩
    · rw [if_neg c]
      have hnl := fun e => c ((zgp_eq ha40.1 ha40.2).mpr e)
      by_cases c2 : nI (gp n k).2 - 1 ≤ nI (gp n k).1
      · rw [if_pos c2]
        exact ih (k + 1) _ (by omega) (by omega) (gr2_none h h40 h1 (by omega) hnl (zgp_ge ha40.1 ha40.2 c2))
      · rw [if_neg c2]
        have hw := zgp_lt ha40.1 ha40.2 c2
        have h64 := gp_near n k h40 (by omega) hw
        have h2 := ih (k + 1) _ (by omega) (by omega) (gr2_in h h40 h1 hw h64)
        exact ⟨h2.1, h2.2.1, fun j a b d => (h2.2.2 j a b d).trans (by rw [sA_x b, sA_x a, sA_x b, sA_x a])⟩
theorem grL1 {n : Nat} (hn : 1 ≤ n) (h40 : n ≤ 40) : ∀ (fu k : Nat) (S : ZS), k + fu = 128 → gr1 k S → gr2 n 128 (g_m_grows_L1 n fu k S) ∧ (g_m_grows_L1 n fu k S).1 = S.1 ∧ ∀ j, ¬ j = 8 → ¬ j = 9 → ¬ j = 10 → (g_m_grows_L1 n fu k S).2 j = S.2 j := by
  intro fu
  induction fu with
  | zero =>
    intro k S hk h
    have h2 := grL2 h40 127 1 _ (by omega) (by omega) (gr2_0 ((by omega : k = 128) ▸ h) hn h40)
    exact ⟨h2.1, h2.2.1, fun j a b d => (h2.2.2 j a b d).trans (by rw [sA_x b])⟩
  | succ fu ih =>
    intro k S hk h
    have h2 := ih (k + 1) _ (by omega) (gr1_step h)
    exact ⟨h2.1, h2.2.1, fun j a b d => (h2.2.2 j a b d).trans (by rw [sA_x b, sA_x a])⟩
theorem mGr_of {n : Nat} {S : ZS} (hn : 1 ≤ n) (h40 : n ≤ 40) (h : mOK n S) : mGr n (g_m_grows n S) := by
  rw [g_m_grows]
  by_cases c : S.1 19 = nI n
  · rw [if_pos c]
    exact ⟨h.1, c, h.2 c⟩
  · rw [if_neg c]
    have h2 := grL1 hn h40 128 0 (sI 19 (nI n) S) (by omega) (fun j hj => absurd hj (Nat.not_lt_zero j))
    refine ⟨?_, ?_, fun k hk => (h2.1.1 k hk).1 (by omega), fun i hi => h2.1.2 i hi (lf_gp h40 hi).2.2⟩
    · rw [h2.2.2 0 (by decide) (by decide) (by decide)]; exact h.1
    · rw [h2.2.1]; simp [sI, upd]
theorem mEq_grows {n : Nat} (S : ZS) (hn : 1 ≤ n) (h40 : n ≤ 40) : mEq S (g_m_grows n S) := by
  rw [g_m_grows]
  by_cases c : S.1 19 = nI n
  · rw [if_pos c]; exact mEq.rfl' S
  · rw [if_neg c]
    have h2 := grL1 hn h40 128 0 (sI 19 (nI n) S) (by omega) (fun j hj => absurd hj (Nat.not_lt_zero j))
    refine ⟨fun k hk => ?_, fun j a b d => ?_⟩
    · rw [h2.2.1]; simp [sI, upd, hk]
    · rw [h2.2.2 j a b d]; rfl
theorem mGr.ok {n : Nat} {S : ZS} (h : mGr n S) : mOK n S := ⟨h.1, fun _ => h.2.2⟩
theorem mGr.grows {n : Nat} {S : ZS} (h : mGr n S) : g_m_grows n S = S := by rw [g_m_grows, if_pos h.2.1]
theorem mGr.lo {n : Nat} {S : ZS} (h : mGr n S) {k : Nat} (hk : k < 128) : S.2 8 k = nI (gp n k).1 := (h.2.2.1 k hk).1
theorem mGr.hi {n : Nat} {S : ZS} (h : mGr n S) {k : Nat} (hk : k < 128) : S.2 9 k = nI (gp n k).2 - 1 := (h.2.2.1 k hk).2
theorem mGr.hi1 {n : Nat} {S : ZS} (h : mGr n S) {k : Nat} (hk : k < 128) (h1 : (gp n k).1 < (gp n k).2) : S.2 9 k = nI ((gp n k).2 - 1) := (h.hi hk).trans (pk_sub (a := (gp n k).2) (b := 1) (by omega))
theorem mGr.lf {n : Nat} {S : ZS} (h : mGr n S) {i : Nat} (hi : i < n) : S.2 10 i = nI (lf n i) := h.2.2.2 i hi
theorem m_in (x a b : Int32) : g_m_in x a b = decide (a ≤ x ∧ x ≤ b) := by
  rw [g_m_in]
  by_cases c : x < a
  · rw [if_pos c, decide_eq_false (fun h => absurd h.1 (Int32.not_le.mpr c))]
  · rw [if_neg c]
    by_cases c2 : b < x
    · rw [if_pos c2, decide_eq_false (fun h => absurd h.2 (Int32.not_le.mpr c2))]
    · rw [if_neg c2, decide_eq_true ⟨Int32.not_lt.mp c, Int32.not_lt.mp c2⟩]
theorem m_in_t {x a b : Nat} (h1 : a ≤ x) (h2 : x ≤ b) (hb : b < 2 ^ 31) : g_m_in (nI x) (nI a) (nI b) = true := by
  rw [m_in, decide_eq_true]
  exact ⟨(nI_leI (by omega) (by omega)).mpr h1, (nI_leI (by omega) (by omega)).mpr h2⟩
noncomputable def g_m_isNode (n : Nat) (k : Nat) (S : ZS) : Bool × ZS := (if nI (gp n k).2 - 1 < nI ((gp n k).1) then (false, (g_m_grows n S)) else (true, (g_m_grows n S)))
theorem k_m_isNode (n : Nat) (k : Nat) (S : ZS) (h1 : 1 ≤ n) (h40 : n ≤ 40) (k1 : 1 ≤ k) (k2 : k < 128) (hO : mOK n S) : zM sc yX7_isNode cX7_isNode 2 (some .boolean) 1 0 0 [.ref 0, .int (nI (k))] (mh S) (.inl (some (.int (zb (g_m_isNode n k S).1)))) (mh (g_m_isNode n k S).2) := by
  refine zM.at (ls := [some (.ref 0), some (.int (nI (k)))]) zy_X7_isNode.2.2.2.2.2 (Nat.le_of_ble_eq_true rfl) rfl ?_
  refine z_aload_0 dX7_isNode_0 ?_
  refine Z.call0n (zRun.V (ρ := fun i => i) (k_m_grows n S h1 h40 hO.1) dX7_isNode_1 zy_X7_grows zm_X7_86 rfl rfl rfl rfl (Nat.le_of_ble_eq_true rfl) (by decide) (by decide)) (zlen2 14 rfl rfl) ?_
  refine z_iload_1 dX7_isNode_4 ?_
  refine z_iconst (v := 1) dX7_isNode_5 rfl ?_
  refine z_bipush (v := 127) dX7_isNode_6 rfl ?_
  refine Z.callE (zRun.S (ρ := fun i => i) (k_m_in (nI (k)) (1) (127) ) dX7_isNode_8 zy_X7_in zm_X7_67 rfl rfl (Nat.le_of_ble_eq_true rfl) (by decide) (by decide)) ?_
  refine z_ifB_eq_f (tgt := 33) dX7_isNode_11 (by decide) (m_in_t (x := k) (a := 1) (b := 127) k1 (by omega) (by decide)) ?_
  refine z_aload_0 dX7_isNode_14 ?_
  refine z_get (k := 16) (v := .ref 9) dX7_isNode_15 rfl rfl rfl (by decide) zf_X7_39 zw_in7 ?_
  refine z_iload_1 dX7_isNode_18 ?_
  refine z_ialdN (k := k) dX7_isNode_19 rfl (by first | omega | assumption) (by decide) ?_
  refine z_topi (w := ((g_m_grows n S)).2 8 (k)) rfl ?_
  refine z_topi (w := nI ((gp n k).1)) ((mGr_of h1 h40 hO).lo (by first | omega | assumption)) ?_
  refine z_aload_0 dX7_isNode_20 ?_
  refine z_get (k := 17) (v := .ref 10) dX7_isNode_21 rfl rfl rfl (by decide) zf_X7_42 zw_in7 ?_
  refine z_iload_1 dX7_isNode_24 ?_
  refine z_ialdN (k := k) dX7_isNode_25 rfl (by first | omega | assumption) (by decide) ?_
  refine z_topi (w := ((g_m_grows n S)).2 9 (k)) rfl ?_
  refine z_topi (w := nI (gp n k).2 - 1) ((mGr_of h1 h40 hO).hi (by first | omega | assumption)) ?_
  refine z_icmp_gt (tgt := 33) dX7_isNode_26 (by decide) (fun c26 => ?_) (fun c26 => ?_)
  · refine z_iconst (v := 0) dX7_isNode_33 rfl ?_
    rw [g_m_isNode, if_pos c26]
    exact z_iret dX7_isNode_34 rfl rfl rfl rfl
  · refine z_iconst (v := 1) dX7_isNode_29 rfl ?_
    refine z_goto (tgt := 34) dX7_isNode_30 (by decide) ?_
    rw [g_m_isNode, if_neg c26]
    exact z_iret dX7_isNode_34 rfl rfl rfl rfl
noncomputable def g_m_isNodeX (n : Nat) (_x : Int32) (S : ZS) : Bool × ZS := (false, (g_m_grows n S))
theorem k_m_isNodeX (n : Nat) (x : Int32) (S : ZS) (h1 : 1 ≤ n) (h40 : n ≤ 40) (hx : ¬ (1 ≤ x ∧ x ≤ 127)) (hO : mOK n S) : zM sc yX7_isNode cX7_isNode 2 (some .boolean) 1 0 0 [.ref 0, .int (x)] (mh S) (.inl (some (.int (zb (g_m_isNodeX n x S).1)))) (mh (g_m_isNodeX n x S).2) := by
  refine zM.at (ls := [some (.ref 0), some (.int (x))]) zy_X7_isNode.2.2.2.2.2 (Nat.le_of_ble_eq_true rfl) rfl ?_
  refine z_aload_0 dX7_isNode_0 ?_
  refine Z.call0n (zRun.V (ρ := fun i => i) (k_m_grows n S h1 h40 hO.1) dX7_isNode_1 zy_X7_grows zm_X7_86 rfl rfl rfl rfl (Nat.le_of_ble_eq_true rfl) (by decide) (by decide)) (zlen2 14 rfl rfl) ?_
  refine z_iload_1 dX7_isNode_4 ?_
  refine z_iconst (v := 1) dX7_isNode_5 rfl ?_
  refine z_bipush (v := 127) dX7_isNode_6 rfl ?_
  refine Z.callE (zRun.S (ρ := fun i => i) (k_m_in (x) (1) (127) ) dX7_isNode_8 zy_X7_in zm_X7_67 rfl rfl (Nat.le_of_ble_eq_true rfl) (by decide) (by decide)) ?_
  refine z_ifB_eq_t (tgt := 33) dX7_isNode_11 (by decide) (by rw [m_in, decide_eq_false hx]; decide) ?_
  refine z_iconst (v := 0) dX7_isNode_33 rfl ?_
  rw [g_m_isNodeX]
  exact z_iret dX7_isNode_34 rfl rfl rfl rfl
noncomputable def g_m_ends (n : Nat) (k : Nat) (_S : ZS) : Bool := (if nI ((gp n k).1) = nI (gp n k).2 - 1 then true else false)
theorem k_m_ends (n : Nat) (k : Nat) (S : ZS) (k1 : 1 ≤ k) (k2 : k < 128) (hG : mGr n S) : zM sc yX7_ends cX7_ends 2 (some .boolean) 0 0 0 [.ref 0, .int (nI (k))] (mh S) (.inl (some (.int (zb (g_m_ends n k S))))) (mh S) := by
  refine zM.at (ls := [some (.ref 0), some (.int (nI (k)))]) zy_X7_ends.2.2.2.2.2 (Nat.le_of_ble_eq_true rfl) rfl ?_
  refine z_aload_0 dX7_ends_0 ?_
  refine z_get (k := 16) (v := .ref 9) dX7_ends_1 rfl rfl rfl (by decide) zf_X7_39 zw_in7 ?_
  refine z_iload_1 dX7_ends_4 ?_
  refine z_ialdN (k := k) dX7_ends_5 rfl (by first | omega | assumption) (by decide) ?_
  refine z_topi (w := S.2 8 (k)) rfl ?_
  refine z_topi (w := nI ((gp n k).1)) (hG.lo (by first | omega | assumption)) ?_
  refine z_aload_0 dX7_ends_6 ?_
  refine z_get (k := 17) (v := .ref 10) dX7_ends_7 rfl rfl rfl (by decide) zf_X7_42 zw_in7 ?_
  refine z_iload_1 dX7_ends_10 ?_
  refine z_ialdN (k := k) dX7_ends_11 rfl (by first | omega | assumption) (by decide) ?_
  refine z_topi (w := S.2 9 (k)) rfl ?_
  refine z_topi (w := nI (gp n k).2 - 1) (hG.hi (by first | omega | assumption)) ?_
  refine z_icmp_ne (tgt := 19) dX7_ends_12 (by decide) (fun c12 => ?_) (fun c12 => ?_)
  · refine z_iconst (v := 0) dX7_ends_19 rfl ?_
    rw [g_m_ends, if_neg c12]
    exact z_iret dX7_ends_20 rfl rfl rfl rfl
  · refine z_iconst (v := 1) dX7_ends_15 rfl ?_
    refine z_goto (tgt := 20) dX7_ends_16 (by decide) ?_
    rw [g_m_ends, if_pos c12]
    exact z_iret dX7_ends_20 rfl rfl rfl rfl
noncomputable def g_m_isMarked (k : Nat) (S : ZS) : Bool := (if S.2 0 (44 + k) = 1 then (if S.2 0 (172 + k) = 0 then false else true) else true)
theorem k_m_isMarked (k : Nat) (S : ZS) (k2 : k < 128) : zM sc yX7_isMarked cX7_isMarked 2 (some .boolean) 0 0 0 [.ref 0, .int (nI (k))] (mh S) (.inl (some (.int (zb (g_m_isMarked k S))))) (mh S) := by
  refine zM.at (ls := [some (.ref 0), some (.int (nI (k)))]) zy_X7_isMarked.2.2.2.2.2 (Nat.le_of_ble_eq_true rfl) rfl ?_
  refine z_aload_0 dX7_isMarked_0 ?_
  refine z_get (k := 0) (v := .ref 1) dX7_isMarked_1 rfl rfl rfl (by decide) zf_X7_7 zw_in7 ?_
  refine z_bipush (v := 44) dX7_isMarked_4 rfl ?_
  refine z_iload_1 dX7_isMarked_6 ?_
  refine z_iadd dX7_isMarked_7 ?_
  refine z_topi (w := nI (44 + k)) (nI_add _ _) ?_
  refine z_ialdN (k := (44 + k)) dX7_isMarked_8 rfl (by first | omega | assumption) (by decide) ?_
  refine z_topi (w := S.2 0 (44 + k)) rfl ?_
  refine z_iconst (v := 1) dX7_isMarked_9 rfl ?_
  refine z_icmp_ne (tgt := 26) dX7_isMarked_10 (by decide) (fun c10 => ?_) (fun c10 => ?_)
  · refine z_iconst (v := 1) dX7_isMarked_26 rfl ?_
    refine z_goto (tgt := 31) dX7_isMarked_27 (by decide) ?_
    rw [g_m_isMarked, if_neg c10]
    exact z_iret dX7_isMarked_31 rfl rfl rfl rfl
  · refine z_aload_0 dX7_isMarked_13 ?_
    refine z_get (k := 0) (v := .ref 1) dX7_isMarked_14 rfl rfl rfl (by decide) zf_X7_7 zw_in7 ?_
    refine z_sipush (v := 172) dX7_isMarked_17 rfl ?_
    refine z_iload_1 dX7_isMarked_20 ?_
    refine z_iadd dX7_isMarked_21 ?_
    refine z_topi (w := nI (172 + k)) (nI_add _ _) ?_
    refine z_ialdN (k := (172 + k)) dX7_isMarked_22 rfl (by first | omega | assumption) (by decide) ?_
    refine z_topi (w := S.2 0 (172 + k)) rfl ?_
    refine z_if_eq (tgt := 30) dX7_isMarked_23 (by decide) (fun c23 => ?_) (fun c23 => ?_)
    · refine z_iconst (v := 0) dX7_isMarked_30 rfl ?_
      rw [g_m_isMarked, if_pos c10, if_pos c23]
      exact z_iret dX7_isMarked_31 rfl rfl rfl rfl
    · refine z_iconst (v := 1) dX7_isMarked_26 rfl ?_
      refine z_goto (tgt := 31) dX7_isMarked_27 (by decide) ?_
      rw [g_m_isMarked, if_pos c10, if_neg c23]
      exact z_iret dX7_isMarked_31 rfl rfl rfl rfl
noncomputable def g_m_seenFrom_L (n : Nat) (k : Nat) (i : Nat) : Nat → Int32 → Nat → ZS → Int32
  | 0, x, _, _ => x
  | fu + 1, x, m, S => (if m = k then x else g_m_seenFrom_L n k i fu (((S.2 0 (44 + (m / 2))) * x) + (S.2 0 (172 + (m / 2)))) (m / 2) S)
theorem l_g_m_seenFrom_L (n : Nat) (k : Nat) (i : Nat) : ∀ (fu : Nat) (x : Int32) (m : Nat) (S : ZS) (j5 : Option Value), (zAnc fu m k) → (m < 128) → (k < 128) → Z sc yX7_seenFrom cX7_seenFrom 6 (some .int) 0 0 0 17 [some (.ref 0), some (.int (nI (k))), some (.int (nI (i))), some (.int (x)), some (.int (nI (m))), j5] [] (mh S) (.inl (some (.int (g_m_seenFrom_L n k i fu x m S)))) (mh S) := by
  intro fu
  induction fu with
  | zero =>
    intro x m S j5 hA hm k2
    refine z_iload_4 dX7_seenFrom_17 ?_
    refine z_iload_1 dX7_seenFrom_19 ?_
    refine z_icmpN_eq_t (tgt := 63) dX7_seenFrom_20 (by decide) (x := m) (z := k) (by first | omega | assumption) (by first | omega | assumption) hA.zero ?_
    refine z_iload_3 dX7_seenFrom_63 ?_
    rw [g_m_seenFrom_L]
    exact z_iret dX7_seenFrom_64 rfl rfl rfl rfl
  | succ fu ih =>
    intro x m S j5 hA hm k2
    refine z_iload_4 dX7_seenFrom_17 ?_
    refine z_iload_1 dX7_seenFrom_19 ?_
    refine z_icmpN_eq (tgt := 63) dX7_seenFrom_20 (by decide) (x := m) (z := k) (by first | omega | assumption) (by first | omega | assumption) (fun c20 => ?_) (fun c20 => ?_)
    · refine z_iload_3 dX7_seenFrom_63 ?_
      rw [g_m_seenFrom_L, if_pos c20]
      exact z_iret dX7_seenFrom_64 rfl rfl rfl rfl
    · refine z_iload_4 dX7_seenFrom_23 ?_
      refine z_iconst (v := 2) dX7_seenFrom_25 rfl ?_
      refine z_idiv dX7_seenFrom_26 (by decide) ?_
      refine z_topi (w := nI (m / 2)) (pk_div (by first | omega | assumption) (by decide) (by decide)) ?_
      refine z_istore_5 dX7_seenFrom_27 rfl (by decide) ?_
      refine z_aload_0 dX7_seenFrom_29 ?_
      refine z_get (k := 0) (v := .ref 1) dX7_seenFrom_30 rfl rfl rfl (by decide) zf_X7_7 zw_in7 ?_
      refine z_bipush (v := 44) dX7_seenFrom_33 rfl ?_
      refine z_iload_5 dX7_seenFrom_35 ?_
      refine z_iadd dX7_seenFrom_37 ?_
      refine z_topi (w := nI (44 + (m / 2))) (nI_add _ _) ?_
      refine z_ialdN (k := (44 + (m / 2))) dX7_seenFrom_38 rfl (by first | omega | assumption) (by decide) ?_
      refine z_topi (w := S.2 0 (44 + (m / 2))) rfl ?_
      refine z_iload_3 dX7_seenFrom_39 ?_
      refine z_imul dX7_seenFrom_40 ?_
      refine z_aload_0 dX7_seenFrom_41 ?_
      refine z_get (k := 0) (v := .ref 1) dX7_seenFrom_42 rfl rfl rfl (by decide) zf_X7_7 zw_in7 ?_
      refine z_sipush (v := 172) dX7_seenFrom_45 rfl ?_
      refine z_iload_5 dX7_seenFrom_48 ?_
      refine z_iadd dX7_seenFrom_50 ?_
      refine z_topi (w := nI (172 + (m / 2))) (nI_add _ _) ?_
      refine z_ialdN (k := (172 + (m / 2))) dX7_seenFrom_51 rfl (by first | omega | assumption) (by decide) ?_
      refine z_topi (w := S.2 0 (172 + (m / 2))) rfl ?_
      refine z_iadd dX7_seenFrom_52 ?_
      refine z_istore_3 dX7_seenFrom_53 rfl (by decide) ?_
      refine z_iload_4 dX7_seenFrom_54 ?_
      refine z_iconst (v := 2) dX7_seenFrom_56 rfl ?_
      refine z_idiv dX7_seenFrom_57 (by decide) ?_
      refine z_topi (w := nI (m / 2)) (pk_div (by first | omega | assumption) (by decide) (by decide)) ?_
      refine z_istore_4 dX7_seenFrom_58 rfl (by decide) ?_
      refine z_goto (tgt := 17) dX7_seenFrom_60 (by decide) ?_
      rw [g_m_seenFrom_L, if_neg c20]
      exact ih (((S.2 0 (44 + (m / 2))) * x) + (S.2 0 (172 + (m / 2)))) (m / 2) S _ (hA.step c20) (by first | omega | assumption) (by first | omega | assumption)
noncomputable def g_m_seenFrom (n : Nat) (k : Nat) (i : Nat) (S : ZS) : Int32 := g_m_seenFrom_L n k i 6 (S.2 0 (4 + i)) (lf n i) S
theorem k_m_seenFrom (n : Nat) (k : Nat) (i : Nat) (S : ZS) (k1 : 1 ≤ k) (k2 : k < 128) (h40 : n ≤ 40) (hi : i < n) (hG : mGr n S) (hA : zAnc 6 (lf n i) k) : zM sc yX7_seenFrom cX7_seenFrom 6 (some .int) 0 0 0 [.ref 0, .int (nI (k)), .int (nI (i))] (mh S) (.inl (some (.int (g_m_seenFrom n k i S)))) (mh S) := by
  refine zM.at (ls := [some (.ref 0), some (.int (nI (k))), some (.int (nI (i))), none, none, none]) zy_X7_seenFrom.2.2.2.2.2 (Nat.le_of_ble_eq_true rfl) rfl ?_
  refine z_aload_0 dX7_seenFrom_0 ?_
  refine z_get (k := 0) (v := .ref 1) dX7_seenFrom_1 rfl rfl rfl (by decide) zf_X7_7 zw_in7 ?_
  refine z_iconst (v := 4) dX7_seenFrom_4 rfl ?_
  refine z_iload_2 dX7_seenFrom_5 ?_
  refine z_iadd dX7_seenFrom_6 ?_
  refine z_topi (w := nI (4 + i)) (nI_add _ _) ?_
  refine z_ialdN (k := (4 + i)) dX7_seenFrom_7 rfl (by first | omega | assumption) (by decide) ?_
  refine z_topi (w := S.2 0 (4 + i)) rfl ?_
  refine z_istore_3 dX7_seenFrom_8 rfl (by decide) ?_
  refine z_aload_0 dX7_seenFrom_9 ?_
  refine z_get (k := 18) (v := .ref 11) dX7_seenFrom_10 rfl rfl rfl (by decide) zf_X7_45 zw_in7 ?_
  refine z_iload_2 dX7_seenFrom_13 ?_
  refine z_ialdN (k := i) dX7_seenFrom_14 rfl (by first | omega | assumption) (by decide) ?_
  refine z_topi (w := S.2 10 (i)) rfl ?_
  refine z_topi (w := nI (lf n i)) (hG.lf (by first | omega | assumption)) ?_
  refine z_istore_4 dX7_seenFrom_15 rfl (by decide) ?_
  rw [g_m_seenFrom]
  exact l_g_m_seenFrom_L n k i 6 (S.2 0 (4 + i)) (lf n i) S _ hA (lf_gp h40 hi).2.2 (by first | omega | assumption)
