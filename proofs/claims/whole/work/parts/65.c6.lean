variable {sc : SC}

noncomputable def g_c_6_element (_n : Nat) (f : Nat) (_S : ZS) (_X : ZS) (_R : ZS) (T : TS) : Int32 := tva T f
theorem k_c_6_element (n : Nat) (f : Nat) (S : ZS) (X : ZS) (R : ZS) (T : TS) (hn : tn T = nI n) (h40 : n ≤ 40) (hf : f < n) : zM sc yX6_element cX6_element 2 (some .int) 2 0 0 [.ref 0, .int (nI (f))] (qh S X R T) (.inl (some (.int (g_c_6_element n f S X R T)))) (qh S X R T) := by
  refine zM.at (ls := [some (.ref 0), some (.int (nI (f)))]) zy_X6_element.2.2.2.2.2 (Nat.le_of_ble_eq_true rfl) rfl ?_
  refine z_aload_0 dX6_element_0 ?_
  refine z_iload_1 dX6_element_1 ?_
  refine Z.call0n (zRun.V (ρ := fun i => i) (k_c_6_checkIndex n f S X R T (by first | omega | assumption) (by first | omega | assumption) (by first | omega | assumption)) dX6_element_2 zy_X6_checkIndex zm_X6_164 rfl rfl rfl rfl (Nat.le_of_ble_eq_true rfl) (by decide) (by decide)) (zlen2 14 rfl rfl) ?_
  refine z_aload_0 dX6_element_5 ?_
  refine z_get (k := 0) (v := .ref 1) dX6_element_6 rfl rfl rfl (by decide) zf_X6_10 zw_in6 ?_
  refine z_iload_1 dX6_element_9 ?_
  refine Z.shs (qh S X R T) (zRun.V (ρ := zsh 1) (k_valueAt T f (by first | omega | assumption)) dX6_element_10 zy_X5_valueAt zm_X6_140 rfl rfl rfl rfl (Nat.le_of_ble_eq_true rfl) (by decide) (by decide) (zsh_fix 1)) (zsh_inj (Nat.le_of_ble_eq_true rfl)) ⟨rfl, rfl, rfl, rfl, rfl, rfl, rfl, rfl, rfl, trivial⟩ (zlen2 9 rfl rfl) rfl rfl ?_
  rw [g_c_6_element]
  exact z_iret dX6_element_13 rfl (zint _) rfl rfl
theorem k_c_6_element_x1 (x : Int32) (S : ZS) (X : ZS) (R : ZS) (T : TS) (hx : ¬ tIx T x) : zM sc yX6_element cX6_element 2 (some .int) 9 1 6 [.ref 0, .int (x)] (qh S X R T) (.inr "java/lang/IndexOutOfBoundsException") (qh S X R T) := by
  refine zM.at (ls := [some (.ref 0), some (.int (x))]) zy_X6_element.2.2.2.2.2 (Nat.le_of_ble_eq_true rfl) rfl ?_
  refine z_aload_0 dX6_element_0 ?_
  refine z_iload_1 dX6_element_1 ?_
  exact Z.callX0 (zRun.V (ρ := fun i => i) (k_c_6_checkIndex_x (x) S X R T hx) dX6_element_2 zy_X6_checkIndex zm_X6_164 rfl rfl rfl rfl (Nat.le_of_ble_eq_true rfl) (by decide) (by decide)) (zlen2 14 rfl rfl) rfl rfl
noncomputable def g_c_6_firstAtLeast_L (n : Nat) (f : Nat) (v : Int32) : Nat → Nat → ZS → ZS → ZS → TS → Int32
  | 0, _, _, _, _, _ => (-1)
  | fu + 1, k, S, X, R, T => (if tva T k < v then g_c_6_firstAtLeast_L n f v fu (k + 1) S X R T else nI (k))
theorem l_g_c_6_firstAtLeast_L (n : Nat) (f : Nat) (v : Int32) : ∀ (fu : Nat) (k : Nat) (S : ZS) (X : ZS) (R : ZS) (T : TS) , (tn T = nI n) → (n ≤ 40) → (k + fu = n) → Z sc yX6_firstAtLeast cX6_firstAtLeast 4 (some .int) 2 0 0 7 [some (.ref 0), some (.int (nI (f))), some (.int (v)), some (.int (nI (k)))] [] (qh S X R T) (.inl (some (.int (g_c_6_firstAtLeast_L n f v fu k S X R T)))) (qh S X R T) := by
  intro fu
  induction fu with
  | zero =>
    intro k S X R T hn h40 hk
    refine z_iload_3 dX6_firstAtLeast_7 ?_
    refine z_aload_0 dX6_firstAtLeast_8 ?_
    refine z_get (k := 0) (v := .ref 1) dX6_firstAtLeast_9 rfl rfl rfl (by decide) zf_X6_10 zw_in6 ?_
    refine Z.shs (qh S X R T) (zRun.V (ρ := zsh 1) (k_size T) dX6_firstAtLeast_12 zy_X5_size zm_X6_99 rfl rfl rfl rfl (Nat.le_of_ble_eq_true rfl) (by decide) (by decide) (zsh_fix 1)) (zsh_inj (Nat.le_of_ble_eq_true rfl)) ⟨rfl, rfl, rfl, rfl, rfl, rfl, rfl, rfl, rfl, trivial⟩ (zlen2 9 rfl rfl) rfl rfl ?_
    refine z_topi (w := nI (n)) hn ?_
    refine z_icmpN_ge_t (tgt := 38) dX6_firstAtLeast_15 (by decide) (x := k) (z := n) (by first | omega | assumption) (by first | omega | assumption) (by omega) ?_
    refine z_iconst (v := (-1)) dX6_firstAtLeast_38 rfl ?_
    rw [g_c_6_firstAtLeast_L]
    exact z_iret dX6_firstAtLeast_39 rfl (zint _) rfl rfl
  | succ fu ih =>
    intro k S X R T hn h40 hk
    refine z_iload_3 dX6_firstAtLeast_7 ?_
    refine z_aload_0 dX6_firstAtLeast_8 ?_
    refine z_get (k := 0) (v := .ref 1) dX6_firstAtLeast_9 rfl rfl rfl (by decide) zf_X6_10 zw_in6 ?_
    refine Z.shs (qh S X R T) (zRun.V (ρ := zsh 1) (k_size T) dX6_firstAtLeast_12 zy_X5_size zm_X6_99 rfl rfl rfl rfl (Nat.le_of_ble_eq_true rfl) (by decide) (by decide) (zsh_fix 1)) (zsh_inj (Nat.le_of_ble_eq_true rfl)) ⟨rfl, rfl, rfl, rfl, rfl, rfl, rfl, rfl, rfl, trivial⟩ (zlen2 9 rfl rfl) rfl rfl ?_
    refine z_topi (w := nI (n)) hn ?_
    refine z_icmpN_ge_f (tgt := 38) dX6_firstAtLeast_15 (by decide) (x := k) (z := n) (by first | omega | assumption) (by first | omega | assumption) (by omega) ?_
    refine z_aload_0 dX6_firstAtLeast_18 ?_
    refine z_get (k := 0) (v := .ref 1) dX6_firstAtLeast_19 rfl rfl rfl (by decide) zf_X6_10 zw_in6 ?_
    refine z_iload_3 dX6_firstAtLeast_22 ?_
    refine Z.shs (qh S X R T) (zRun.V (ρ := zsh 1) (k_valueAt T k (by first | omega | assumption)) dX6_firstAtLeast_23 zy_X5_valueAt zm_X6_140 rfl rfl rfl rfl (Nat.le_of_ble_eq_true rfl) (by decide) (by decide) (zsh_fix 1)) (zsh_inj (Nat.le_of_ble_eq_true rfl)) ⟨rfl, rfl, rfl, rfl, rfl, rfl, rfl, rfl, rfl, trivial⟩ (zlen2 9 rfl rfl) rfl rfl ?_
    refine z_iload_2 dX6_firstAtLeast_26 ?_
    refine z_icmp_lt (tgt := 32) dX6_firstAtLeast_27 (by decide) (fun c27 => ?_) (fun c27 => ?_)
    · refine z_iinc_3 (v := nI (k + 1)) dX6_firstAtLeast_32 (nI_add _ 1) rfl (by decide) ?_
      refine z_goto (tgt := 7) dX6_firstAtLeast_35 (by decide) ?_
      rw [g_c_6_firstAtLeast_L, if_pos c27]
      exact ih (k + 1) S X R T (by first | omega | assumption) (by first | omega | assumption) (by first | omega | assumption)
    · refine z_iload_3 dX6_firstAtLeast_30 ?_
      rw [g_c_6_firstAtLeast_L, if_neg c27]
      exact z_iret dX6_firstAtLeast_31 rfl (zint _) rfl rfl
noncomputable def g_c_6_firstAtLeast (n : Nat) (f : Nat) (v : Int32) (S : ZS) (X : ZS) (R : ZS) (T : TS) : Int32 := g_c_6_firstAtLeast_L n f v (n - f) f S X R T
theorem k_c_6_firstAtLeast (n : Nat) (f : Nat) (v : Int32) (S : ZS) (X : ZS) (R : ZS) (T : TS) (hn : tn T = nI n) (h40 : n ≤ 40) (hf : f < n) : zM sc yX6_firstAtLeast cX6_firstAtLeast 4 (some .int) 2 0 0 [.ref 0, .int (nI (f)), .int (v)] (qh S X R T) (.inl (some (.int (g_c_6_firstAtLeast n f v S X R T)))) (qh S X R T) := by
  refine zM.at (ls := [some (.ref 0), some (.int (nI (f))), some (.int (v)), none]) zy_X6_firstAtLeast.2.2.2.2.2 (Nat.le_of_ble_eq_true rfl) rfl ?_
  refine z_aload_0 dX6_firstAtLeast_0 ?_
  refine z_iload_1 dX6_firstAtLeast_1 ?_
  refine Z.call0n (zRun.V (ρ := fun i => i) (k_c_6_checkIndex n f S X R T (by first | omega | assumption) (by first | omega | assumption) (by first | omega | assumption)) dX6_firstAtLeast_2 zy_X6_checkIndex zm_X6_164 rfl rfl rfl rfl (Nat.le_of_ble_eq_true rfl) (by decide) (by decide)) (zlen2 14 rfl rfl) ?_
  refine z_iload_1 dX6_firstAtLeast_5 ?_
  refine z_istore_3 dX6_firstAtLeast_6 rfl (by decide) ?_
  rw [g_c_6_firstAtLeast]
  exact l_g_c_6_firstAtLeast_L n f v (n - f) f S X R T (by first | omega | assumption) (by first | omega | assumption) (by first | omega | assumption)
theorem k_c_6_firstAtLeast_x1 (x : Int32) (v : Int32) (S : ZS) (X : ZS) (R : ZS) (T : TS) (hx : ¬ tIx T x) : zM sc yX6_firstAtLeast cX6_firstAtLeast 4 (some .int) 9 1 6 [.ref 0, .int (x), .int (v)] (qh S X R T) (.inr "java/lang/IndexOutOfBoundsException") (qh S X R T) := by
  refine zM.at (ls := [some (.ref 0), some (.int (x)), some (.int (v)), none]) zy_X6_firstAtLeast.2.2.2.2.2 (Nat.le_of_ble_eq_true rfl) rfl ?_
  refine z_aload_0 dX6_firstAtLeast_0 ?_
  refine z_iload_1 dX6_firstAtLeast_1 ?_
  exact Z.callX0 (zRun.V (ρ := fun i => i) (k_c_6_checkIndex_x (x) S X R T hx) dX6_firstAtLeast_2 zy_X6_checkIndex zm_X6_164 rfl rfl rfl rfl (Nat.le_of_ble_eq_true rfl) (by decide) (by decide)) (zlen2 14 rfl rfl) rfl rfl
noncomputable def g_c_6_firstBelow_L (n : Nat) (f : Nat) (v : Int32) : Nat → Nat → ZS → ZS → ZS → TS → Int32
  | 0, _, _, _, _, _ => (-1)
  | fu + 1, k, S, X, R, T => (if v ≤ tva T k then g_c_6_firstBelow_L n f v fu (k + 1) S X R T else nI (k))
theorem l_g_c_6_firstBelow_L (n : Nat) (f : Nat) (v : Int32) : ∀ (fu : Nat) (k : Nat) (S : ZS) (X : ZS) (R : ZS) (T : TS) , (tn T = nI n) → (n ≤ 40) → (k + fu = n) → Z sc yX6_firstBelow cX6_firstBelow 4 (some .int) 2 0 0 7 [some (.ref 0), some (.int (nI (f))), some (.int (v)), some (.int (nI (k)))] [] (qh S X R T) (.inl (some (.int (g_c_6_firstBelow_L n f v fu k S X R T)))) (qh S X R T) := by
  intro fu
  induction fu with
  | zero =>
    intro k S X R T hn h40 hk
    refine z_iload_3 dX6_firstBelow_7 ?_
    refine z_aload_0 dX6_firstBelow_8 ?_
    refine z_get (k := 0) (v := .ref 1) dX6_firstBelow_9 rfl rfl rfl (by decide) zf_X6_10 zw_in6 ?_
    refine Z.shs (qh S X R T) (zRun.V (ρ := zsh 1) (k_size T) dX6_firstBelow_12 zy_X5_size zm_X6_99 rfl rfl rfl rfl (Nat.le_of_ble_eq_true rfl) (by decide) (by decide) (zsh_fix 1)) (zsh_inj (Nat.le_of_ble_eq_true rfl)) ⟨rfl, rfl, rfl, rfl, rfl, rfl, rfl, rfl, rfl, trivial⟩ (zlen2 9 rfl rfl) rfl rfl ?_
    refine z_topi (w := nI (n)) hn ?_
    refine z_icmpN_ge_t (tgt := 38) dX6_firstBelow_15 (by decide) (x := k) (z := n) (by first | omega | assumption) (by first | omega | assumption) (by omega) ?_
    refine z_iconst (v := (-1)) dX6_firstBelow_38 rfl ?_
    rw [g_c_6_firstBelow_L]
    exact z_iret dX6_firstBelow_39 rfl (zint _) rfl rfl
  | succ fu ih =>
    intro k S X R T hn h40 hk
    refine z_iload_3 dX6_firstBelow_7 ?_
    refine z_aload_0 dX6_firstBelow_8 ?_
    refine z_get (k := 0) (v := .ref 1) dX6_firstBelow_9 rfl rfl rfl (by decide) zf_X6_10 zw_in6 ?_
    refine Z.shs (qh S X R T) (zRun.V (ρ := zsh 1) (k_size T) dX6_firstBelow_12 zy_X5_size zm_X6_99 rfl rfl rfl rfl (Nat.le_of_ble_eq_true rfl) (by decide) (by decide) (zsh_fix 1)) (zsh_inj (Nat.le_of_ble_eq_true rfl)) ⟨rfl, rfl, rfl, rfl, rfl, rfl, rfl, rfl, rfl, trivial⟩ (zlen2 9 rfl rfl) rfl rfl ?_
    refine z_topi (w := nI (n)) hn ?_
    refine z_icmpN_ge_f (tgt := 38) dX6_firstBelow_15 (by decide) (x := k) (z := n) (by first | omega | assumption) (by first | omega | assumption) (by omega) ?_
    refine z_aload_0 dX6_firstBelow_18 ?_
    refine z_get (k := 0) (v := .ref 1) dX6_firstBelow_19 rfl rfl rfl (by decide) zf_X6_10 zw_in6 ?_
    refine z_iload_3 dX6_firstBelow_22 ?_
    refine Z.shs (qh S X R T) (zRun.V (ρ := zsh 1) (k_valueAt T k (by first | omega | assumption)) dX6_firstBelow_23 zy_X5_valueAt zm_X6_140 rfl rfl rfl rfl (Nat.le_of_ble_eq_true rfl) (by decide) (by decide) (zsh_fix 1)) (zsh_inj (Nat.le_of_ble_eq_true rfl)) ⟨rfl, rfl, rfl, rfl, rfl, rfl, rfl, rfl, rfl, trivial⟩ (zlen2 9 rfl rfl) rfl rfl ?_
    refine z_iload_2 dX6_firstBelow_26 ?_
    refine z_icmp_ge (tgt := 32) dX6_firstBelow_27 (by decide) (fun c27 => ?_) (fun c27 => ?_)
    · refine z_iinc_3 (v := nI (k + 1)) dX6_firstBelow_32 (nI_add _ 1) rfl (by decide) ?_
      refine z_goto (tgt := 7) dX6_firstBelow_35 (by decide) ?_
      rw [g_c_6_firstBelow_L, if_pos c27]
      exact ih (k + 1) S X R T (by first | omega | assumption) (by first | omega | assumption) (by first | omega | assumption)
    · refine z_iload_3 dX6_firstBelow_30 ?_
      rw [g_c_6_firstBelow_L, if_neg c27]
      exact z_iret dX6_firstBelow_31 rfl (zint _) rfl rfl
noncomputable def g_c_6_firstBelow (n : Nat) (f : Nat) (v : Int32) (S : ZS) (X : ZS) (R : ZS) (T : TS) : Int32 := g_c_6_firstBelow_L n f v (n - f) f S X R T
theorem k_c_6_firstBelow (n : Nat) (f : Nat) (v : Int32) (S : ZS) (X : ZS) (R : ZS) (T : TS) (hn : tn T = nI n) (h40 : n ≤ 40) (hf : f < n) : zM sc yX6_firstBelow cX6_firstBelow 4 (some .int) 2 0 0 [.ref 0, .int (nI (f)), .int (v)] (qh S X R T) (.inl (some (.int (g_c_6_firstBelow n f v S X R T)))) (qh S X R T) := by
  refine zM.at (ls := [some (.ref 0), some (.int (nI (f))), some (.int (v)), none]) zy_X6_firstBelow.2.2.2.2.2 (Nat.le_of_ble_eq_true rfl) rfl ?_
  refine z_aload_0 dX6_firstBelow_0 ?_
  refine z_iload_1 dX6_firstBelow_1 ?_
  refine Z.call0n (zRun.V (ρ := fun i => i) (k_c_6_checkIndex n f S X R T (by first | omega | assumption) (by first | omega | assumption) (by first | omega | assumption)) dX6_firstBelow_2 zy_X6_checkIndex zm_X6_164 rfl rfl rfl rfl (Nat.le_of_ble_eq_true rfl) (by decide) (by decide)) (zlen2 14 rfl rfl) ?_
  refine z_iload_1 dX6_firstBelow_5 ?_
  refine z_istore_3 dX6_firstBelow_6 rfl (by decide) ?_
  rw [g_c_6_firstBelow]
  exact l_g_c_6_firstBelow_L n f v (n - f) f S X R T (by first | omega | assumption) (by first | omega | assumption) (by first | omega | assumption)
theorem k_c_6_firstBelow_x1 (x : Int32) (v : Int32) (S : ZS) (X : ZS) (R : ZS) (T : TS) (hx : ¬ tIx T x) : zM sc yX6_firstBelow cX6_firstBelow 4 (some .int) 9 1 6 [.ref 0, .int (x), .int (v)] (qh S X R T) (.inr "java/lang/IndexOutOfBoundsException") (qh S X R T) := by
  refine zM.at (ls := [some (.ref 0), some (.int (x)), some (.int (v)), none]) zy_X6_firstBelow.2.2.2.2.2 (Nat.le_of_ble_eq_true rfl) rfl ?_
  refine z_aload_0 dX6_firstBelow_0 ?_
  refine z_iload_1 dX6_firstBelow_1 ?_
  exact Z.callX0 (zRun.V (ρ := fun i => i) (k_c_6_checkIndex_x (x) S X R T hx) dX6_firstBelow_2 zy_X6_checkIndex zm_X6_164 rfl rfl rfl rfl (Nat.le_of_ble_eq_true rfl) (by decide) (by decide)) (zlen2 14 rfl rfl) rfl rfl
noncomputable def g_c_6_lastAtLeast_L (n : Nat) (f : Nat) (v : Int32) : Nat → Int32 → Nat → ZS → ZS → ZS → TS → Int32
  | 0, _, _, _, _, _, _ => (-1)
  | fu + 1, x, _, S, X, R, T => (if tva T fu < v then g_c_6_lastAtLeast_L n f v fu (x + (-1)) fu S X R T else x)
theorem l_g_c_6_lastAtLeast_L (n : Nat) (f : Nat) (v : Int32) : ∀ (fu : Nat) (x : Int32) (q : Nat) (S : ZS) (X : ZS) (R : ZS) (T : TS) , (n ≤ 40) → (q = fu) → (q ≤ n) → (x = nI q - 1) → Z sc yX6_lastAtLeast cX6_lastAtLeast 4 (some .int) 2 0 0 7 [some (.ref 0), some (.int (nI (f))), some (.int (v)), some (.int (x))] [] (qh S X R T) (.inl (some (.int (g_c_6_lastAtLeast_L n f v fu x q S X R T)))) (qh S X R T) := by
  intro fu
  induction fu with
  | zero =>
    intro x q S X R T h40 hq hqn hx
    refine z_iload_3 dX6_lastAtLeast_7 ?_
    refine z_if_lt_t (tgt := 31) dX6_lastAtLeast_8 (by decide) (by rw [hx, hq]; decide) ?_
    refine z_iconst (v := (-1)) dX6_lastAtLeast_31 rfl ?_
    rw [g_c_6_lastAtLeast_L]
    exact z_iret dX6_lastAtLeast_32 rfl (zint _) rfl rfl
  | succ fu ih =>
    intro x q S X R T h40 hq hqn hx
    refine z_iload_3 dX6_lastAtLeast_7 ?_
    refine z_if_lt_f (tgt := 31) dX6_lastAtLeast_8 (by decide) (by rw [show x = nI fu by rw [hx, hq]; exact nI_pred fu]; exact nI_pos (by omega)) ?_
    have hxx : x = nI fu := by rw [hx, hq]; exact nI_pred fu
    refine z_aload_0 dX6_lastAtLeast_11 ?_
    refine z_get (k := 0) (v := .ref 1) dX6_lastAtLeast_12 rfl rfl rfl (by decide) zf_X6_10 zw_in6 ?_
    refine z_iload_3 dX6_lastAtLeast_15 ?_
    refine z_topi (w := nI (fu)) hxx ?_
    refine Z.shs (qh S X R T) (zRun.V (ρ := zsh 1) (k_valueAt T fu (by first | omega | assumption)) dX6_lastAtLeast_16 zy_X5_valueAt zm_X6_140 rfl rfl rfl rfl (Nat.le_of_ble_eq_true rfl) (by decide) (by decide) (zsh_fix 1)) (zsh_inj (Nat.le_of_ble_eq_true rfl)) ⟨rfl, rfl, rfl, rfl, rfl, rfl, rfl, rfl, rfl, trivial⟩ (zlen2 9 rfl rfl) rfl rfl ?_
    refine z_iload_2 dX6_lastAtLeast_19 ?_
    refine z_icmp_lt (tgt := 25) dX6_lastAtLeast_20 (by decide) (fun c20 => ?_) (fun c20 => ?_)
    · refine z_iinc_3 (v := x + (-1)) dX6_lastAtLeast_25 rfl rfl (by decide) ?_
      refine z_goto (tgt := 7) dX6_lastAtLeast_28 (by decide) ?_
      rw [g_c_6_lastAtLeast_L, if_pos c20]
      exact ih (x + (-1)) fu S X R T (by first | omega | assumption) (by first | omega | assumption) (by first | omega | assumption) (by rw [hxx, Int32.sub_eq_add_neg])
    · refine z_iload_3 dX6_lastAtLeast_23 ?_
      rw [g_c_6_lastAtLeast_L, if_neg c20]
      exact z_iret dX6_lastAtLeast_24 rfl (zint _) rfl rfl
noncomputable def g_c_6_lastAtLeast (n : Nat) (f : Nat) (v : Int32) (S : ZS) (X : ZS) (R : ZS) (T : TS) : Int32 := g_c_6_lastAtLeast_L n f v (f + 1) (nI (f)) (f + 1) S X R T
theorem k_c_6_lastAtLeast (n : Nat) (f : Nat) (v : Int32) (S : ZS) (X : ZS) (R : ZS) (T : TS) (hn : tn T = nI n) (h40 : n ≤ 40) (hf : f < n) : zM sc yX6_lastAtLeast cX6_lastAtLeast 4 (some .int) 2 0 0 [.ref 0, .int (nI (f)), .int (v)] (qh S X R T) (.inl (some (.int (g_c_6_lastAtLeast n f v S X R T)))) (qh S X R T) := by
  refine zM.at (ls := [some (.ref 0), some (.int (nI (f))), some (.int (v)), none]) zy_X6_lastAtLeast.2.2.2.2.2 (Nat.le_of_ble_eq_true rfl) rfl ?_
  refine z_aload_0 dX6_lastAtLeast_0 ?_
  refine z_iload_1 dX6_lastAtLeast_1 ?_
  refine Z.call0n (zRun.V (ρ := fun i => i) (k_c_6_checkIndex n f S X R T (by first | omega | assumption) (by first | omega | assumption) (by first | omega | assumption)) dX6_lastAtLeast_2 zy_X6_checkIndex zm_X6_164 rfl rfl rfl rfl (Nat.le_of_ble_eq_true rfl) (by decide) (by decide)) (zlen2 14 rfl rfl) ?_
  refine z_iload_1 dX6_lastAtLeast_5 ?_
  refine z_istore_3 dX6_lastAtLeast_6 rfl (by decide) ?_
  rw [g_c_6_lastAtLeast]
  exact l_g_c_6_lastAtLeast_L n f v (f + 1) (nI (f)) (f + 1) S X R T (by first | omega | assumption) (by first | omega | assumption) (by first | omega | assumption) (nI_pred f).symm
theorem k_c_6_lastAtLeast_x1 (x : Int32) (v : Int32) (S : ZS) (X : ZS) (R : ZS) (T : TS) (hx : ¬ tIx T x) : zM sc yX6_lastAtLeast cX6_lastAtLeast 4 (some .int) 9 1 6 [.ref 0, .int (x), .int (v)] (qh S X R T) (.inr "java/lang/IndexOutOfBoundsException") (qh S X R T) := by
  refine zM.at (ls := [some (.ref 0), some (.int (x)), some (.int (v)), none]) zy_X6_lastAtLeast.2.2.2.2.2 (Nat.le_of_ble_eq_true rfl) rfl ?_
  refine z_aload_0 dX6_lastAtLeast_0 ?_
  refine z_iload_1 dX6_lastAtLeast_1 ?_
  exact Z.callX0 (zRun.V (ρ := fun i => i) (k_c_6_checkIndex_x (x) S X R T hx) dX6_lastAtLeast_2 zy_X6_checkIndex zm_X6_164 rfl rfl rfl rfl (Nat.le_of_ble_eq_true rfl) (by decide) (by decide)) (zlen2 14 rfl rfl) rfl rfl
noncomputable def g_c_6_leafOf (_n : Nat) (f : Nat) (_S : ZS) (_X : ZS) (_R : ZS) (T : TS) : Nat := tLeaf T (nI (f))
theorem k_c_6_leafOf (n : Nat) (f : Nat) (S : ZS) (X : ZS) (R : ZS) (T : TS) (hn : tn T = nI n) (h40 : n ≤ 40) (hf : f < n) : zM sc yX6_leafOf cX6_leafOf 2 (some .int) 2 0 0 [.ref 0, .int (nI (f))] (qh S X R T) (.inl (some (.int (nI (g_c_6_leafOf n f S X R T))))) (qh S X R T) := by
  refine zM.at (ls := [some (.ref 0), some (.int (nI (f)))]) zy_X6_leafOf.2.2.2.2.2 (Nat.le_of_ble_eq_true rfl) rfl ?_
  refine z_aload_0 dX6_leafOf_0 ?_
  refine z_iload_1 dX6_leafOf_1 ?_
  refine Z.call0n (zRun.V (ρ := fun i => i) (k_c_6_checkIndex n f S X R T (by first | omega | assumption) (by first | omega | assumption) (by first | omega | assumption)) dX6_leafOf_2 zy_X6_checkIndex zm_X6_164 rfl rfl rfl rfl (Nat.le_of_ble_eq_true rfl) (by decide) (by decide)) (zlen2 14 rfl rfl) ?_
  refine z_aload_0 dX6_leafOf_5 ?_
  refine z_get (k := 0) (v := .ref 1) dX6_leafOf_6 rfl rfl rfl (by decide) zf_X6_10 zw_in6 ?_
  refine z_iload_1 dX6_leafOf_9 ?_
  refine Z.shs (qh S X R T) (zRun.V (ρ := zsh 1) (k_leafAt T (nI (f))) dX6_leafOf_10 zy_X5_leafAt zm_X6_196 rfl rfl rfl rfl (Nat.le_of_ble_eq_true rfl) (by decide) (by decide) (zsh_fix 1)) (zsh_inj (Nat.le_of_ble_eq_true rfl)) ⟨rfl, rfl, rfl, rfl, rfl, rfl, rfl, rfl, rfl, trivial⟩ (zlen2 9 rfl rfl) rfl rfl ?_
  rw [g_c_6_leafOf]
  exact z_iret dX6_leafOf_13 rfl (zint _) rfl rfl
theorem k_c_6_leafOf_x1 (x : Int32) (S : ZS) (X : ZS) (R : ZS) (T : TS) (hx : ¬ tIx T x) : zM sc yX6_leafOf cX6_leafOf 2 (some .int) 9 1 6 [.ref 0, .int (x)] (qh S X R T) (.inr "java/lang/IndexOutOfBoundsException") (qh S X R T) := by
  refine zM.at (ls := [some (.ref 0), some (.int (x))]) zy_X6_leafOf.2.2.2.2.2 (Nat.le_of_ble_eq_true rfl) rfl ?_
  refine z_aload_0 dX6_leafOf_0 ?_
  refine z_iload_1 dX6_leafOf_1 ?_
  exact Z.callX0 (zRun.V (ρ := fun i => i) (k_c_6_checkIndex_x (x) S X R T hx) dX6_leafOf_2 zy_X6_checkIndex zm_X6_164 rfl rfl rfl rfl (Nat.le_of_ble_eq_true rfl) (by decide) (by decide)) (zlen2 14 rfl rfl) rfl rfl
noncomputable def g_c_6_marksAbove_L (n : Nat) (f : Nat) : Nat → Nat → Int32 → ZS → ZS → ZS → TS → Int32
  | 0, _, c, _, _, _, _ => c
  | fu + 1, m, c, S, X, R, T => (if m < 1 then c else (if (decide (¬ tfa T m = 1 ∨ ¬ tog T m = 0)) = true then g_c_6_marksAbove_L n f fu (m / 2) (c + 1) S X R T else g_c_6_marksAbove_L n f fu (m / 2) c S X R T))
theorem l_g_c_6_marksAbove_L (n : Nat) (f : Nat) : ∀ (fu : Nat) (m : Nat) (c : Int32) (S : ZS) (X : ZS) (R : ZS) (T : TS) , (m < 2 ^ fu) → (m < 128) → Z sc yX6_marksAbove cX6_marksAbove 4 (some .int) 2 0 0 18 [some (.ref 0), some (.int (nI (f))), some (.int (c)), some (.int (nI (m)))] [] (qh S X R T) (.inl (some (.int (g_c_6_marksAbove_L n f fu m c S X R T)))) (qh S X R T) := by
  intro fu
  induction fu with
  | zero =>
    intro m c S X R T hm hm8
    refine z_iload_3 dX6_marksAbove_18 ?_
    refine z_iconst (v := 1) dX6_marksAbove_19 rfl ?_
    refine z_icmpN_lt_t (tgt := 44) dX6_marksAbove_20 (by decide) (x := m) (z := 1) (by first | omega | assumption) (by first | omega | assumption) (show m < 1 from hm) ?_
    refine z_iload_2 dX6_marksAbove_44 ?_
    rw [g_c_6_marksAbove_L]
    exact z_iret dX6_marksAbove_45 rfl (zint _) rfl rfl
  | succ fu ih =>
    intro m c S X R T hm hm8
    refine z_iload_3 dX6_marksAbove_18 ?_
    refine z_iconst (v := 1) dX6_marksAbove_19 rfl ?_
    refine z_icmpN_lt (tgt := 44) dX6_marksAbove_20 (by decide) (x := m) (z := 1) (by first | omega | assumption) (by first | omega | assumption) (fun c20 => ?_) (fun c20 => ?_)
    · refine z_iload_2 dX6_marksAbove_44 ?_
      rw [g_c_6_marksAbove_L, if_pos c20]
      exact z_iret dX6_marksAbove_45 rfl (zint _) rfl rfl
    · refine z_aload_0 dX6_marksAbove_23 ?_
      refine z_get (k := 0) (v := .ref 1) dX6_marksAbove_24 rfl rfl rfl (by decide) zf_X6_10 zw_in6 ?_
      refine z_iload_3 dX6_marksAbove_27 ?_
      refine Z.shs (qh S X R T) (zRun.V (ρ := zsh 1) (k_isMarked T m (by first | omega | assumption) (by first | omega | assumption)) dX6_marksAbove_28 zy_X5_isMarked zm_X6_224 rfl rfl rfl rfl (Nat.le_of_ble_eq_true rfl) (by decide) (by decide) (zsh_fix 1)) (zsh_inj (Nat.le_of_ble_eq_true rfl)) ⟨rfl, rfl, rfl, rfl, rfl, rfl, rfl, rfl, rfl, trivial⟩ (zlen2 9 rfl rfl) rfl rfl ?_
      refine z_ifB_eq (tgt := 37) dX6_marksAbove_31 (by decide) (fun c31 => ?_) (fun c31 => ?_)
      · refine z_iload_3 dX6_marksAbove_37 ?_
        refine z_iconst (v := 2) dX6_marksAbove_38 rfl ?_
        refine z_idiv dX6_marksAbove_39 (by decide) ?_
        refine z_topi (w := nI (m / 2)) (pk_div (by first | omega | assumption) (by decide) (by decide)) ?_
        refine z_istore_3 dX6_marksAbove_40 rfl (by decide) ?_
        refine z_goto (tgt := 18) dX6_marksAbove_41 (by decide) ?_
        rw [g_c_6_marksAbove_L, if_neg c20, if_neg c31]
        exact ih (m / 2) c S X R T (by rw [Nat.pow_succ] at hm; omega) (by first | omega | assumption)
      · refine z_iinc_2 (v := c + 1) dX6_marksAbove_34 rfl rfl (by decide) ?_
        refine z_iload_3 dX6_marksAbove_37 ?_
        refine z_iconst (v := 2) dX6_marksAbove_38 rfl ?_
        refine z_idiv dX6_marksAbove_39 (by decide) ?_
        refine z_topi (w := nI (m / 2)) (pk_div (by first | omega | assumption) (by decide) (by decide)) ?_
        refine z_istore_3 dX6_marksAbove_40 rfl (by decide) ?_
        refine z_goto (tgt := 18) dX6_marksAbove_41 (by decide) ?_
        rw [g_c_6_marksAbove_L, if_neg c20, if_pos c31]
        exact ih (m / 2) (c + 1) S X R T (by rw [Nat.pow_succ] at hm; omega) (by first | omega | assumption)
noncomputable def g_c_6_marksAbove (n : Nat) (f : Nat) (S : ZS) (X : ZS) (R : ZS) (T : TS) : Int32 := g_c_6_marksAbove_L n f 7 ((tLeaf T (nI (f))) / 2) 0 S X R T
theorem k_c_6_marksAbove (n : Nat) (f : Nat) (S : ZS) (X : ZS) (R : ZS) (T : TS) (hn : tn T = nI n) (h40 : n ≤ 40) (hf : f < n) : zM sc yX6_marksAbove cX6_marksAbove 4 (some .int) 2 0 0 [.ref 0, .int (nI (f))] (qh S X R T) (.inl (some (.int (g_c_6_marksAbove n f S X R T)))) (qh S X R T) := by
  refine zM.at (ls := [some (.ref 0), some (.int (nI (f))), none, none]) zy_X6_marksAbove.2.2.2.2.2 (Nat.le_of_ble_eq_true rfl) rfl ?_
  have h9 := (tLeaf_in T (nI f)).2
  refine z_aload_0 dX6_marksAbove_0 ?_
  refine z_iload_1 dX6_marksAbove_1 ?_
  refine Z.call0n (zRun.V (ρ := fun i => i) (k_c_6_checkIndex n f S X R T (by first | omega | assumption) (by first | omega | assumption) (by first | omega | assumption)) dX6_marksAbove_2 zy_X6_checkIndex zm_X6_164 rfl rfl rfl rfl (Nat.le_of_ble_eq_true rfl) (by decide) (by decide)) (zlen2 14 rfl rfl) ?_
  refine z_iconst (v := 0) dX6_marksAbove_5 rfl ?_
  refine z_istore_2 dX6_marksAbove_6 rfl (by decide) ?_
  refine z_aload_0 dX6_marksAbove_7 ?_
  refine z_get (k := 0) (v := .ref 1) dX6_marksAbove_8 rfl rfl rfl (by decide) zf_X6_10 zw_in6 ?_
  refine z_iload_1 dX6_marksAbove_11 ?_
  refine Z.shs (qh S X R T) (zRun.V (ρ := zsh 1) (k_leafAt T (nI (f))) dX6_marksAbove_12 zy_X5_leafAt zm_X6_196 rfl rfl rfl rfl (Nat.le_of_ble_eq_true rfl) (by decide) (by decide) (zsh_fix 1)) (zsh_inj (Nat.le_of_ble_eq_true rfl)) ⟨rfl, rfl, rfl, rfl, rfl, rfl, rfl, rfl, rfl, trivial⟩ (zlen2 9 rfl rfl) rfl rfl ?_
  refine z_iconst (v := 2) dX6_marksAbove_15 rfl ?_
  refine z_idiv dX6_marksAbove_16 (by decide) ?_
  refine z_topi (w := nI ((tLeaf T (nI (f))) / 2)) (pk_div (by first | omega | assumption) (by decide) (by decide)) ?_
  refine z_istore_3 dX6_marksAbove_17 rfl (by decide) ?_
  rw [g_c_6_marksAbove]
  exact l_g_c_6_marksAbove_L n f 7 ((tLeaf T (nI (f))) / 2) 0 S X R T (by have := (tLeaf_in T (nI f)).2; omega) (by have := (tLeaf_in T (nI f)).2; omega)
theorem k_c_6_marksAbove_x1 (x : Int32) (S : ZS) (X : ZS) (R : ZS) (T : TS) (hx : ¬ tIx T x) : zM sc yX6_marksAbove cX6_marksAbove 4 (some .int) 9 1 6 [.ref 0, .int (x)] (qh S X R T) (.inr "java/lang/IndexOutOfBoundsException") (qh S X R T) := by
  refine zM.at (ls := [some (.ref 0), some (.int (x)), none, none]) zy_X6_marksAbove.2.2.2.2.2 (Nat.le_of_ble_eq_true rfl) rfl ?_
  refine z_aload_0 dX6_marksAbove_0 ?_
  refine z_iload_1 dX6_marksAbove_1 ?_
  exact Z.callX0 (zRun.V (ρ := fun i => i) (k_c_6_checkIndex_x (x) S X R T hx) dX6_marksAbove_2 zy_X6_checkIndex zm_X6_164 rfl rfl rfl rfl (Nat.le_of_ble_eq_true rfl) (by decide) (by decide)) (zlen2 14 rfl rfl) rfl rfl
noncomputable def g_c_6_elementCount (n : Nat) (_S : ZS) (_X : ZS) (_R : ZS) (_T : TS) : Int32 := nI (n)
theorem k_c_6_elementCount (n : Nat) (S : ZS) (X : ZS) (R : ZS) (T : TS) (hn : tn T = nI n) (h40 : n ≤ 40) : zM sc yX6_elementCount cX6_elementCount 1 (some .int) 1 0 0 [.ref 0] (qh S X R T) (.inl (some (.int (g_c_6_elementCount n S X R T)))) (qh S X R T) := by
  refine zM.at (ls := [some (.ref 0)]) zy_X6_elementCount.2.2.2.2.2 (Nat.le_of_ble_eq_true rfl) rfl ?_
  refine z_aload_0 dX6_elementCount_0 ?_
  refine z_get (k := 0) (v := .ref 1) dX6_elementCount_1 rfl rfl rfl (by decide) zf_X6_10 zw_in6 ?_
  refine Z.shs (qh S X R T) (zRun.V (ρ := zsh 1) (k_size T) dX6_elementCount_4 zy_X5_size zm_X6_99 rfl rfl rfl rfl (Nat.le_of_ble_eq_true rfl) (by decide) (by decide) (zsh_fix 1)) (zsh_inj (Nat.le_of_ble_eq_true rfl)) ⟨rfl, rfl, rfl, rfl, rfl, rfl, rfl, rfl, rfl, trivial⟩ (zlen2 9 rfl rfl) rfl rfl ?_
  refine z_topi (w := nI (n)) hn ?_
  rw [g_c_6_elementCount]
  exact z_iret dX6_elementCount_7 rfl (zint _) rfl rfl
noncomputable def g_c_6_longestRun_L (n : Nat) (v : Int32) : Nat → Int32 → Int32 → Nat → ZS → ZS → ZS → TS → Int32
  | 0, b, _, _, _, _, _, _ => b
  | fu + 1, b, c, k, S, X, R, T => (if tva T k = v then g_c_6_longestRun_L n v fu (zmax (b) (c + 1)) (c + 1) (k + 1) S X R T else g_c_6_longestRun_L n v fu (zmax (b) (0)) 0 (k + 1) S X R T)
theorem l_g_c_6_longestRun_L (n : Nat) (v : Int32) : ∀ (fu : Nat) (b : Int32) (c : Int32) (k : Nat) (S : ZS) (X : ZS) (R : ZS) (T : TS) , (tn T = nI n) → (n ≤ 40) → (k + fu = n) → Z sc yX6_longestRun cX6_longestRun 5 (some .int) 1 0 0 7 [some (.ref 0), some (.int (v)), some (.int (b)), some (.int (c)), some (.int (nI (k)))] [] (qh S X R T) (.inl (some (.int (g_c_6_longestRun_L n v fu b c k S X R T)))) (qh S X R T) := by
  intro fu
  induction fu with
  | zero =>
    intro b c k S X R T hn h40 hk
    refine z_iload_4 dX6_longestRun_7 ?_
    refine z_aload_0 dX6_longestRun_9 ?_
    refine z_get (k := 0) (v := .ref 1) dX6_longestRun_10 rfl rfl rfl (by decide) zf_X6_10 zw_in6 ?_
    refine Z.shs (qh S X R T) (zRun.V (ρ := zsh 1) (k_size T) dX6_longestRun_13 zy_X5_size zm_X6_99 rfl rfl rfl rfl (Nat.le_of_ble_eq_true rfl) (by decide) (by decide) (zsh_fix 1)) (zsh_inj (Nat.le_of_ble_eq_true rfl)) ⟨rfl, rfl, rfl, rfl, rfl, rfl, rfl, rfl, rfl, trivial⟩ (zlen2 9 rfl rfl) rfl rfl ?_
    refine z_topi (w := nI (n)) hn ?_
    refine z_icmpN_ge_t (tgt := 52) dX6_longestRun_16 (by decide) (x := k) (z := n) (by first | omega | assumption) (by first | omega | assumption) (by omega) ?_
    refine z_iload_2 dX6_longestRun_52 ?_
    rw [g_c_6_longestRun_L]
    exact z_iret dX6_longestRun_53 rfl (zint _) rfl rfl
  | succ fu ih =>
    intro b c k S X R T hn h40 hk
    refine z_iload_4 dX6_longestRun_7 ?_
    refine z_aload_0 dX6_longestRun_9 ?_
    refine z_get (k := 0) (v := .ref 1) dX6_longestRun_10 rfl rfl rfl (by decide) zf_X6_10 zw_in6 ?_
    refine Z.shs (qh S X R T) (zRun.V (ρ := zsh 1) (k_size T) dX6_longestRun_13 zy_X5_size zm_X6_99 rfl rfl rfl rfl (Nat.le_of_ble_eq_true rfl) (by decide) (by decide) (zsh_fix 1)) (zsh_inj (Nat.le_of_ble_eq_true rfl)) ⟨rfl, rfl, rfl, rfl, rfl, rfl, rfl, rfl, rfl, trivial⟩ (zlen2 9 rfl rfl) rfl rfl ?_
    refine z_topi (w := nI (n)) hn ?_
    refine z_icmpN_ge_f (tgt := 52) dX6_longestRun_16 (by decide) (x := k) (z := n) (by first | omega | assumption) (by first | omega | assumption) (by omega) ?_
    refine z_aload_0 dX6_longestRun_19 ?_
    refine z_get (k := 0) (v := .ref 1) dX6_longestRun_20 rfl rfl rfl (by decide) zf_X6_10 zw_in6 ?_
    refine z_iload_4 dX6_longestRun_23 ?_
    refine Z.shs (qh S X R T) (zRun.V (ρ := zsh 1) (k_valueAt T k (by first | omega | assumption)) dX6_longestRun_25 zy_X5_valueAt zm_X6_140 rfl rfl rfl rfl (Nat.le_of_ble_eq_true rfl) (by decide) (by decide) (zsh_fix 1)) (zsh_inj (Nat.le_of_ble_eq_true rfl)) ⟨rfl, rfl, rfl, rfl, rfl, rfl, rfl, rfl, rfl, trivial⟩ (zlen2 9 rfl rfl) rfl rfl ?_
    refine z_iload_1 dX6_longestRun_28 ?_
    refine z_icmp_ne (tgt := 38) dX6_longestRun_29 (by decide) (fun c29 => ?_) (fun c29 => ?_)
    · refine z_iconst (v := 0) dX6_longestRun_38 rfl ?_
      refine z_istore_3 dX6_longestRun_39 rfl (by decide) ?_
      refine z_iload_2 dX6_longestRun_40 ?_
      refine z_iload_3 dX6_longestRun_41 ?_
      refine z_mx dX6_longestRun_42 zm_X6_193 (by decide) (Nat.le_of_ble_eq_true rfl) ?_
      refine z_topi (w := zmax (b) (0)) rfl ?_
      refine z_istore_2 dX6_longestRun_45 rfl (by decide) ?_
      refine z_iinc_4 (v := nI (k + 1)) dX6_longestRun_46 (nI_add _ 1) rfl (by decide) ?_
      refine z_goto (tgt := 7) dX6_longestRun_49 (by decide) ?_
      rw [g_c_6_longestRun_L, if_neg c29]
      exact ih (zmax (b) (0)) 0 (k + 1) S X R T (by first | omega | assumption) (by first | omega | assumption) (by first | omega | assumption)
    · refine z_iload_3 dX6_longestRun_32 ?_
      refine z_iconst (v := 1) dX6_longestRun_33 rfl ?_
      refine z_iadd dX6_longestRun_34 ?_
      refine z_goto (tgt := 39) dX6_longestRun_35 (by decide) ?_
      refine z_istore_3 dX6_longestRun_39 rfl (by decide) ?_
      refine z_iload_2 dX6_longestRun_40 ?_
      refine z_iload_3 dX6_longestRun_41 ?_
      refine z_mx dX6_longestRun_42 zm_X6_193 (by decide) (Nat.le_of_ble_eq_true rfl) ?_
      refine z_topi (w := zmax (b) (c + 1)) rfl ?_
      refine z_istore_2 dX6_longestRun_45 rfl (by decide) ?_
      refine z_iinc_4 (v := nI (k + 1)) dX6_longestRun_46 (nI_add _ 1) rfl (by decide) ?_
      refine z_goto (tgt := 7) dX6_longestRun_49 (by decide) ?_
      rw [g_c_6_longestRun_L, if_pos c29]
      exact ih (zmax (b) (c + 1)) (c + 1) (k + 1) S X R T (by first | omega | assumption) (by first | omega | assumption) (by first | omega | assumption)
noncomputable def g_c_6_longestRun (n : Nat) (v : Int32) (S : ZS) (X : ZS) (R : ZS) (T : TS) : Int32 := g_c_6_longestRun_L n v n 0 0 0 S X R T
theorem k_c_6_longestRun (n : Nat) (v : Int32) (S : ZS) (X : ZS) (R : ZS) (T : TS) (hn : tn T = nI n) (h40 : n ≤ 40) : zM sc yX6_longestRun cX6_longestRun 5 (some .int) 1 0 0 [.ref 0, .int (v)] (qh S X R T) (.inl (some (.int (g_c_6_longestRun n v S X R T)))) (qh S X R T) := by
  refine zM.at (ls := [some (.ref 0), some (.int (v)), none, none, none]) zy_X6_longestRun.2.2.2.2.2 (Nat.le_of_ble_eq_true rfl) rfl ?_
  refine z_iconst (v := 0) dX6_longestRun_0 rfl ?_
  refine z_istore_2 dX6_longestRun_1 rfl (by decide) ?_
  refine z_iconst (v := 0) dX6_longestRun_2 rfl ?_
  refine z_istore_3 dX6_longestRun_3 rfl (by decide) ?_
  refine z_iconst (v := 0) dX6_longestRun_4 rfl ?_
  refine z_istore_4 dX6_longestRun_5 rfl (by decide) ?_
  rw [g_c_6_longestRun]
  exact l_g_c_6_longestRun_L n v n 0 0 0 S X R T (by first | omega | assumption) (by first | omega | assumption) (by first | omega | assumption)
noncomputable def g_c_6_occurrence_L (n : Nat) (v : Int32) (p : Int32) : Nat → Int32 → Nat → ZS → ZS → ZS → TS → Int32
  | 0, _, _, _, _, _, _ => (-1)
  | fu + 1, c, k, S, X, R, T => (if tva T k = v then (if c = p then nI (k) else g_c_6_occurrence_L n v p fu (c + 1) (k + 1) S X R T) else g_c_6_occurrence_L n v p fu c (k + 1) S X R T)
theorem l_g_c_6_occurrence_L (n : Nat) (v : Int32) (p : Int32) : ∀ (fu : Nat) (c : Int32) (k : Nat) (S : ZS) (X : ZS) (R : ZS) (T : TS) , (tn T = nI n) → (n ≤ 40) → (k + fu = n) → Z sc yX6_occurrence cX6_occurrence 5 (some .int) 1 0 0 5 [some (.ref 0), some (.int (v)), some (.int (p)), some (.int (c)), some (.int (nI (k)))] [] (qh S X R T) (.inl (some (.int (g_c_6_occurrence_L n v p fu c k S X R T)))) (qh S X R T) := by
  intro fu
  induction fu with
  | zero =>
    intro c k S X R T hn h40 hk
    refine z_iload_4 dX6_occurrence_5 ?_
    refine z_aload_0 dX6_occurrence_7 ?_
    refine z_get (k := 0) (v := .ref 1) dX6_occurrence_8 rfl rfl rfl (by decide) zf_X6_10 zw_in6 ?_
    refine Z.shs (qh S X R T) (zRun.V (ρ := zsh 1) (k_size T) dX6_occurrence_11 zy_X5_size zm_X6_99 rfl rfl rfl rfl (Nat.le_of_ble_eq_true rfl) (by decide) (by decide) (zsh_fix 1)) (zsh_inj (Nat.le_of_ble_eq_true rfl)) ⟨rfl, rfl, rfl, rfl, rfl, rfl, rfl, rfl, rfl, trivial⟩ (zlen2 9 rfl rfl) rfl rfl ?_
    refine z_topi (w := nI (n)) hn ?_
    refine z_icmpN_ge_t (tgt := 47) dX6_occurrence_14 (by decide) (x := k) (z := n) (by first | omega | assumption) (by first | omega | assumption) (by omega) ?_
    refine z_iconst (v := (-1)) dX6_occurrence_47 rfl ?_
    rw [g_c_6_occurrence_L]
    exact z_iret dX6_occurrence_48 rfl (zint _) rfl rfl
  | succ fu ih =>
    intro c k S X R T hn h40 hk
    refine z_iload_4 dX6_occurrence_5 ?_
    refine z_aload_0 dX6_occurrence_7 ?_
    refine z_get (k := 0) (v := .ref 1) dX6_occurrence_8 rfl rfl rfl (by decide) zf_X6_10 zw_in6 ?_
    refine Z.shs (qh S X R T) (zRun.V (ρ := zsh 1) (k_size T) dX6_occurrence_11 zy_X5_size zm_X6_99 rfl rfl rfl rfl (Nat.le_of_ble_eq_true rfl) (by decide) (by decide) (zsh_fix 1)) (zsh_inj (Nat.le_of_ble_eq_true rfl)) ⟨rfl, rfl, rfl, rfl, rfl, rfl, rfl, rfl, rfl, trivial⟩ (zlen2 9 rfl rfl) rfl rfl ?_
    refine z_topi (w := nI (n)) hn ?_
    refine z_icmpN_ge_f (tgt := 47) dX6_occurrence_14 (by decide) (x := k) (z := n) (by first | omega | assumption) (by first | omega | assumption) (by omega) ?_
    refine z_aload_0 dX6_occurrence_17 ?_
    refine z_get (k := 0) (v := .ref 1) dX6_occurrence_18 rfl rfl rfl (by decide) zf_X6_10 zw_in6 ?_
    refine z_iload_4 dX6_occurrence_21 ?_
    refine Z.shs (qh S X R T) (zRun.V (ρ := zsh 1) (k_valueAt T k (by first | omega | assumption)) dX6_occurrence_23 zy_X5_valueAt zm_X6_140 rfl rfl rfl rfl (Nat.le_of_ble_eq_true rfl) (by decide) (by decide) (zsh_fix 1)) (zsh_inj (Nat.le_of_ble_eq_true rfl)) ⟨rfl, rfl, rfl, rfl, rfl, rfl, rfl, rfl, rfl, trivial⟩ (zlen2 9 rfl rfl) rfl rfl ?_
    refine z_iload_1 dX6_occurrence_26 ?_
    refine z_icmp_ne (tgt := 41) dX6_occurrence_27 (by decide) (fun c27 => ?_) (fun c27 => ?_)
    · refine z_iinc_4 (v := nI (k + 1)) dX6_occurrence_41 (nI_add _ 1) rfl (by decide) ?_
      refine z_goto (tgt := 5) dX6_occurrence_44 (by decide) ?_
      rw [g_c_6_occurrence_L, if_neg c27]
      exact ih c (k + 1) S X R T (by first | omega | assumption) (by first | omega | assumption) (by first | omega | assumption)
    · refine z_iload_3 dX6_occurrence_30 ?_
      refine z_iload_2 dX6_occurrence_31 ?_
      refine z_icmp_ne (tgt := 38) dX6_occurrence_32 (by decide) (fun c32 => ?_) (fun c32 => ?_)
      · refine z_iinc_3 (v := c + 1) dX6_occurrence_38 rfl rfl (by decide) ?_
        refine z_iinc_4 (v := nI (k + 1)) dX6_occurrence_41 (nI_add _ 1) rfl (by decide) ?_
        refine z_goto (tgt := 5) dX6_occurrence_44 (by decide) ?_
        rw [g_c_6_occurrence_L, if_pos c27, if_neg c32]
        exact ih (c + 1) (k + 1) S X R T (by first | omega | assumption) (by first | omega | assumption) (by first | omega | assumption)
      · refine z_iload_4 dX6_occurrence_35 ?_
        rw [g_c_6_occurrence_L, if_pos c27, if_pos c32]
        exact z_iret dX6_occurrence_37 rfl (zint _) rfl rfl
noncomputable def g_c_6_occurrence (n : Nat) (v : Int32) (p : Int32) (S : ZS) (X : ZS) (R : ZS) (T : TS) : Int32 := g_c_6_occurrence_L n v p n 0 0 S X R T
theorem k_c_6_occurrence (n : Nat) (v : Int32) (p : Int32) (S : ZS) (X : ZS) (R : ZS) (T : TS) (hn : tn T = nI n) (h40 : n ≤ 40) : zM sc yX6_occurrence cX6_occurrence 5 (some .int) 1 0 0 [.ref 0, .int (v), .int (p)] (qh S X R T) (.inl (some (.int (g_c_6_occurrence n v p S X R T)))) (qh S X R T) := by
  refine zM.at (ls := [some (.ref 0), some (.int (v)), some (.int (p)), none, none]) zy_X6_occurrence.2.2.2.2.2 (Nat.le_of_ble_eq_true rfl) rfl ?_
  refine z_iconst (v := 0) dX6_occurrence_0 rfl ?_
  refine z_istore_3 dX6_occurrence_1 rfl (by decide) ?_
  refine z_iconst (v := 0) dX6_occurrence_2 rfl ?_
  refine z_istore_4 dX6_occurrence_3 rfl (by decide) ?_
  rw [g_c_6_occurrence]
  exact l_g_c_6_occurrence_L n v p n 0 0 S X R T (by first | omega | assumption) (by first | omega | assumption) (by first | omega | assumption)
noncomputable def g_c_6_prefixAtLeast_L (n : Nat) (q : Int64) : Nat → Int64 → Nat → ZS → ZS → ZS → TS → Int32
  | 0, _, _, _, _, _, _ => (-1)
  | fu + 1, x, k, S, X, R, T => (if (x + ((tva T k).toInt64)) < q then g_c_6_prefixAtLeast_L n q fu (x + ((tva T k).toInt64)) (k + 1) S X R T else nI (k))
theorem l_g_c_6_prefixAtLeast_L (n : Nat) (q : Int64) : ∀ (fu : Nat) (x : Int64) (k : Nat) (S : ZS) (X : ZS) (R : ZS) (T : TS) , (tn T = nI n) → (n ≤ 40) → (k + fu = n) → Z sc yX6_prefixAtLeast cX6_prefixAtLeast 6 (some .int) 1 0 0 5 [some (.ref 0), some (.long (q)), none, some (.long (x)), none, some (.int (nI (k)))] [] (qh S X R T) (.inl (some (.int (g_c_6_prefixAtLeast_L n q fu x k S X R T)))) (qh S X R T) := by
  intro fu
  induction fu with
  | zero =>
    intro x k S X R T hn h40 hk
    refine z_iload_5 dX6_prefixAtLeast_5 ?_
    refine z_aload_0 dX6_prefixAtLeast_7 ?_
    refine z_get (k := 0) (v := .ref 1) dX6_prefixAtLeast_8 rfl rfl rfl (by decide) zf_X6_10 zw_in6 ?_
    refine Z.shs (qh S X R T) (zRun.V (ρ := zsh 1) (k_size T) dX6_prefixAtLeast_11 zy_X5_size zm_X6_99 rfl rfl rfl rfl (Nat.le_of_ble_eq_true rfl) (by decide) (by decide) (zsh_fix 1)) (zsh_inj (Nat.le_of_ble_eq_true rfl)) ⟨rfl, rfl, rfl, rfl, rfl, rfl, rfl, rfl, rfl, trivial⟩ (zlen2 9 rfl rfl) rfl rfl ?_
    refine z_topi (w := nI (n)) hn ?_
    refine z_icmpN_ge_t (tgt := 45) dX6_prefixAtLeast_14 (by decide) (x := k) (z := n) (by first | omega | assumption) (by first | omega | assumption) (by omega) ?_
    refine z_iconst (v := (-1)) dX6_prefixAtLeast_45 rfl ?_
    rw [g_c_6_prefixAtLeast_L]
    exact z_iret dX6_prefixAtLeast_46 rfl (zint _) rfl rfl
  | succ fu ih =>
    intro x k S X R T hn h40 hk
    refine z_iload_5 dX6_prefixAtLeast_5 ?_
    refine z_aload_0 dX6_prefixAtLeast_7 ?_
    refine z_get (k := 0) (v := .ref 1) dX6_prefixAtLeast_8 rfl rfl rfl (by decide) zf_X6_10 zw_in6 ?_
    refine Z.shs (qh S X R T) (zRun.V (ρ := zsh 1) (k_size T) dX6_prefixAtLeast_11 zy_X5_size zm_X6_99 rfl rfl rfl rfl (Nat.le_of_ble_eq_true rfl) (by decide) (by decide) (zsh_fix 1)) (zsh_inj (Nat.le_of_ble_eq_true rfl)) ⟨rfl, rfl, rfl, rfl, rfl, rfl, rfl, rfl, rfl, trivial⟩ (zlen2 9 rfl rfl) rfl rfl ?_
    refine z_topi (w := nI (n)) hn ?_
    refine z_icmpN_ge_f (tgt := 45) dX6_prefixAtLeast_14 (by decide) (x := k) (z := n) (by first | omega | assumption) (by first | omega | assumption) (by omega) ?_
    refine z_lload_3 dX6_prefixAtLeast_17 ?_
    refine z_aload_0 dX6_prefixAtLeast_18 ?_
    refine z_get (k := 0) (v := .ref 1) dX6_prefixAtLeast_19 rfl rfl rfl (by decide) zf_X6_10 zw_in6 ?_
    refine z_iload_5 dX6_prefixAtLeast_22 ?_
    refine Z.shs (qh S X R T) (zRun.V (ρ := zsh 1) (k_valueAt T k (by first | omega | assumption)) dX6_prefixAtLeast_24 zy_X5_valueAt zm_X6_140 rfl rfl rfl rfl (Nat.le_of_ble_eq_true rfl) (by decide) (by decide) (zsh_fix 1)) (zsh_inj (Nat.le_of_ble_eq_true rfl)) ⟨rfl, rfl, rfl, rfl, rfl, rfl, rfl, rfl, rfl, trivial⟩ (zlen2 9 rfl rfl) rfl rfl ?_
    refine z_i2l dX6_prefixAtLeast_27 ?_
    refine z_ladd dX6_prefixAtLeast_28 ?_
    refine z_lstore_3 dX6_prefixAtLeast_29 rfl (by decide) ?_
    refine z_lload_3 dX6_prefixAtLeast_30 ?_
    refine z_lload_1 dX6_prefixAtLeast_31 ?_
    refine z_lcmp dX6_prefixAtLeast_32 ?_
    refine z_ifQ_lt (tgt := 39) dX6_prefixAtLeast_33 (by decide) (fun c33 => ?_) (fun c33 => ?_)
    · refine z_iinc_5 (v := nI (k + 1)) dX6_prefixAtLeast_39 (nI_add _ 1) rfl (by decide) ?_
      refine z_goto (tgt := 5) dX6_prefixAtLeast_42 (by decide) ?_
      rw [g_c_6_prefixAtLeast_L, if_pos c33]
      exact ih (x + ((tva T k).toInt64)) (k + 1) S X R T (by first | omega | assumption) (by first | omega | assumption) (by first | omega | assumption)
    · refine z_iload_5 dX6_prefixAtLeast_36 ?_
      rw [g_c_6_prefixAtLeast_L, if_neg c33]
      exact z_iret dX6_prefixAtLeast_38 rfl (zint _) rfl rfl
noncomputable def g_c_6_prefixAtLeast (n : Nat) (q : Int64) (S : ZS) (X : ZS) (R : ZS) (T : TS) : Int32 := g_c_6_prefixAtLeast_L n q n 0 0 S X R T
theorem k_c_6_prefixAtLeast (n : Nat) (q : Int64) (S : ZS) (X : ZS) (R : ZS) (T : TS) (hn : tn T = nI n) (h40 : n ≤ 40) : zM sc yX6_prefixAtLeast cX6_prefixAtLeast 6 (some .int) 1 0 0 [.ref 0, .long (q)] (qh S X R T) (.inl (some (.int (g_c_6_prefixAtLeast n q S X R T)))) (qh S X R T) := by
  refine zM.at (ls := [some (.ref 0), some (.long (q)), none, none, none, none]) zy_X6_prefixAtLeast.2.2.2.2.2 (Nat.le_of_ble_eq_true rfl) rfl ?_
  refine z_lconst (v := 0) dX6_prefixAtLeast_0 rfl ?_
  refine z_lstore_3 dX6_prefixAtLeast_1 rfl (by decide) ?_
  refine z_iconst (v := 0) dX6_prefixAtLeast_2 rfl ?_
  refine z_istore_5 dX6_prefixAtLeast_3 rfl (by decide) ?_
  rw [g_c_6_prefixAtLeast]
  exact l_g_c_6_prefixAtLeast_L n q n 0 0 S X R T (by first | omega | assumption) (by first | omega | assumption) (by first | omega | assumption)
noncomputable def g_c_6_depth_L (n : Nat) : Nat → Int32 → Nat → ZS → ZS → ZS → TS → Int32
  | 0, c, _, _, _, _, _ => c
  | fu + 1, c, k, S, X, R, T => g_c_6_depth_L n fu (zmax (c) (nI (tLvl 7 (tLeaf T (nI (k))) 0))) (k + 1) S X R T
theorem l_g_c_6_depth_L (n : Nat) : ∀ (fu : Nat) (c : Int32) (k : Nat) (S : ZS) (X : ZS) (R : ZS) (T : TS) , (tn T = nI n) → (n ≤ 40) → (k + fu = n) → Z sc yX6_depth cX6_depth 3 (some .int) 2 0 0 4 [some (.ref 0), some (.int (c)), some (.int (nI (k)))] [] (qh S X R T) (.inl (some (.int (g_c_6_depth_L n fu c k S X R T)))) (qh S X R T) := by
  intro fu
  induction fu with
  | zero =>
    intro c k S X R T hn h40 hk
    refine z_iload_2 dX6_depth_4 ?_
    refine z_aload_0 dX6_depth_5 ?_
    refine z_get (k := 0) (v := .ref 1) dX6_depth_6 rfl rfl rfl (by decide) zf_X6_10 zw_in6 ?_
    refine Z.shs (qh S X R T) (zRun.V (ρ := zsh 1) (k_size T) dX6_depth_9 zy_X5_size zm_X6_99 rfl rfl rfl rfl (Nat.le_of_ble_eq_true rfl) (by decide) (by decide) (zsh_fix 1)) (zsh_inj (Nat.le_of_ble_eq_true rfl)) ⟨rfl, rfl, rfl, rfl, rfl, rfl, rfl, rfl, rfl, trivial⟩ (zlen2 9 rfl rfl) rfl rfl ?_
    refine z_topi (w := nI (n)) hn ?_
    refine z_icmpN_ge_t (tgt := 37) dX6_depth_12 (by decide) (x := k) (z := n) (by first | omega | assumption) (by first | omega | assumption) (by omega) ?_
    refine z_iload_1 dX6_depth_37 ?_
    rw [g_c_6_depth_L]
    exact z_iret dX6_depth_38 rfl (zint _) rfl rfl
  | succ fu ih =>
    intro c k S X R T hn h40 hk
    refine z_iload_2 dX6_depth_4 ?_
    refine z_aload_0 dX6_depth_5 ?_
    refine z_get (k := 0) (v := .ref 1) dX6_depth_6 rfl rfl rfl (by decide) zf_X6_10 zw_in6 ?_
    refine Z.shs (qh S X R T) (zRun.V (ρ := zsh 1) (k_size T) dX6_depth_9 zy_X5_size zm_X6_99 rfl rfl rfl rfl (Nat.le_of_ble_eq_true rfl) (by decide) (by decide) (zsh_fix 1)) (zsh_inj (Nat.le_of_ble_eq_true rfl)) ⟨rfl, rfl, rfl, rfl, rfl, rfl, rfl, rfl, rfl, trivial⟩ (zlen2 9 rfl rfl) rfl rfl ?_
    refine z_topi (w := nI (n)) hn ?_
    refine z_icmpN_ge_f (tgt := 37) dX6_depth_12 (by decide) (x := k) (z := n) (by first | omega | assumption) (by first | omega | assumption) (by omega) ?_
    refine z_iload_1 dX6_depth_15 ?_
    refine z_aload_0 dX6_depth_16 ?_
    refine z_get (k := 0) (v := .ref 1) dX6_depth_17 rfl rfl rfl (by decide) zf_X6_10 zw_in6 ?_
    refine z_iload_2 dX6_depth_20 ?_
    refine Z.shs (qh S X R T) (zRun.V (ρ := zsh 1) (k_leafAt T (nI (k))) dX6_depth_21 zy_X5_leafAt zm_X6_196 rfl rfl rfl rfl (Nat.le_of_ble_eq_true rfl) (by decide) (by decide) (zsh_fix 1)) (zsh_inj (Nat.le_of_ble_eq_true rfl)) ⟨rfl, rfl, rfl, rfl, rfl, rfl, rfl, rfl, rfl, trivial⟩ (zlen2 9 rfl rfl) rfl rfl ?_
    refine Z.call0s (zRun.S (ρ := fun i => i) (k_levelOf _ (tLeaf T (nI (k))) (tLeaf_in T (nI k)).2) dX6_depth_24 zy_X5_levelOf zm_X6_199 rfl rfl (Nat.le_of_ble_eq_true rfl) (by decide) (by decide)) (zlen2 14 rfl rfl) ?_
    refine z_mx dX6_depth_27 zm_X6_193 (by decide) (Nat.le_of_ble_eq_true rfl) ?_
    refine z_topi (w := zmax (c) (nI (tLvl 7 (tLeaf T (nI (k))) 0))) rfl ?_
    refine z_istore_1 dX6_depth_30 rfl (by decide) ?_
    refine z_iinc_2 (v := nI (k + 1)) dX6_depth_31 (nI_add _ 1) rfl (by decide) ?_
    refine z_goto (tgt := 4) dX6_depth_34 (by decide) ?_
    rw [g_c_6_depth_L]
    exact ih (zmax (c) (nI (tLvl 7 (tLeaf T (nI (k))) 0))) (k + 1) S X R T (by first | omega | assumption) (by first | omega | assumption) (by first | omega | assumption)
noncomputable def g_c_6_depth (n : Nat) (S : ZS) (X : ZS) (R : ZS) (T : TS) : Int32 := g_c_6_depth_L n n 0 0 S X R T
theorem k_c_6_depth (n : Nat) (S : ZS) (X : ZS) (R : ZS) (T : TS) (hn : tn T = nI n) (h40 : n ≤ 40) : zM sc yX6_depth cX6_depth 3 (some .int) 2 0 0 [.ref 0] (qh S X R T) (.inl (some (.int (g_c_6_depth n S X R T)))) (qh S X R T) := by
  refine zM.at (ls := [some (.ref 0), none, none]) zy_X6_depth.2.2.2.2.2 (Nat.le_of_ble_eq_true rfl) rfl ?_
  refine z_iconst (v := 0) dX6_depth_0 rfl ?_
  refine z_istore_1 dX6_depth_1 rfl (by decide) ?_
  refine z_iconst (v := 0) dX6_depth_2 rfl ?_
  refine z_istore_2 dX6_depth_3 rfl (by decide) ?_
  rw [g_c_6_depth]
  exact l_g_c_6_depth_L n n 0 0 S X R T (by first | omega | assumption) (by first | omega | assumption) (by first | omega | assumption)
noncomputable def g_c_6_markedNodes_L (n : Nat) : Nat → Int32 → Nat → ZS → ZS → ZS → TS → Int32
  | 0, c, _, _, _, _, _ => c
  | fu + 1, c, k, S, X, R, T => (if (decide (¬ tfa T k = 1 ∨ ¬ tog T k = 0)) = true then g_c_6_markedNodes_L n fu (c + 1) (k + 1) S X R T else g_c_6_markedNodes_L n fu c (k + 1) S X R T)
theorem l_g_c_6_markedNodes_L (n : Nat) : ∀ (fu : Nat) (c : Int32) (k : Nat) (S : ZS) (X : ZS) (R : ZS) (T : TS) , (k + fu = 128) → (1 ≤ k) → Z sc yX6_markedNodes cX6_markedNodes 3 (some .int) 1 0 0 4 [some (.ref 0), some (.int (c)), some (.int (nI (k)))] [] (qh S X R T) (.inl (some (.int (g_c_6_markedNodes_L n fu c k S X R T)))) (qh S X R T) := by
  intro fu
  induction fu with
  | zero =>
    intro c k S X R T hk hk1
    refine z_iload_2 dX6_markedNodes_4 ?_
    refine z_sipush (v := 128) dX6_markedNodes_5 rfl ?_
    refine z_icmpN_ge_t (tgt := 31) dX6_markedNodes_8 (by decide) (x := k) (z := 128) (by first | omega | assumption) (by first | omega | assumption) (by omega) ?_
    refine z_iload_1 dX6_markedNodes_31 ?_
    rw [g_c_6_markedNodes_L]
    exact z_iret dX6_markedNodes_32 rfl (zint _) rfl rfl
  | succ fu ih =>
    intro c k S X R T hk hk1
    refine z_iload_2 dX6_markedNodes_4 ?_
    refine z_sipush (v := 128) dX6_markedNodes_5 rfl ?_
    refine z_icmpN_ge_f (tgt := 31) dX6_markedNodes_8 (by decide) (x := k) (z := 128) (by first | omega | assumption) (by first | omega | assumption) (by omega) ?_
    refine z_aload_0 dX6_markedNodes_11 ?_
    refine z_get (k := 0) (v := .ref 1) dX6_markedNodes_12 rfl rfl rfl (by decide) zf_X6_10 zw_in6 ?_
    refine z_iload_2 dX6_markedNodes_15 ?_
    refine Z.shs (qh S X R T) (zRun.V (ρ := zsh 1) (k_isMarked T k (by first | omega | assumption) (by first | omega | assumption)) dX6_markedNodes_16 zy_X5_isMarked zm_X6_224 rfl rfl rfl rfl (Nat.le_of_ble_eq_true rfl) (by decide) (by decide) (zsh_fix 1)) (zsh_inj (Nat.le_of_ble_eq_true rfl)) ⟨rfl, rfl, rfl, rfl, rfl, rfl, rfl, rfl, rfl, trivial⟩ (zlen2 9 rfl rfl) rfl rfl ?_
    refine z_ifB_eq (tgt := 25) dX6_markedNodes_19 (by decide) (fun c19 => ?_) (fun c19 => ?_)
    · refine z_iinc_2 (v := nI (k + 1)) dX6_markedNodes_25 (nI_add _ 1) rfl (by decide) ?_
      refine z_goto (tgt := 4) dX6_markedNodes_28 (by decide) ?_
      rw [g_c_6_markedNodes_L, if_neg c19]
      exact ih c (k + 1) S X R T (by first | omega | assumption) (by first | omega | assumption)
    · refine z_iinc_1 (v := c + 1) dX6_markedNodes_22 rfl rfl (by decide) ?_
      refine z_iinc_2 (v := nI (k + 1)) dX6_markedNodes_25 (nI_add _ 1) rfl (by decide) ?_
      refine z_goto (tgt := 4) dX6_markedNodes_28 (by decide) ?_
      rw [g_c_6_markedNodes_L, if_pos c19]
      exact ih (c + 1) (k + 1) S X R T (by first | omega | assumption) (by first | omega | assumption)
noncomputable def g_c_6_markedNodes (n : Nat) (S : ZS) (X : ZS) (R : ZS) (T : TS) : Int32 := g_c_6_markedNodes_L n 127 0 1 S X R T
theorem k_c_6_markedNodes (n : Nat) (S : ZS) (X : ZS) (R : ZS) (T : TS) (hn : tn T = nI n) (h40 : n ≤ 40) : zM sc yX6_markedNodes cX6_markedNodes 3 (some .int) 1 0 0 [.ref 0] (qh S X R T) (.inl (some (.int (g_c_6_markedNodes n S X R T)))) (qh S X R T) := by
  refine zM.at (ls := [some (.ref 0), none, none]) zy_X6_markedNodes.2.2.2.2.2 (Nat.le_of_ble_eq_true rfl) rfl ?_
  refine z_iconst (v := 0) dX6_markedNodes_0 rfl ?_
  refine z_istore_1 dX6_markedNodes_1 rfl (by decide) ?_
  refine z_iconst (v := 1) dX6_markedNodes_2 rfl ?_
  refine z_istore_2 dX6_markedNodes_3 rfl (by decide) ?_
  rw [g_c_6_markedNodes]
  exact l_g_c_6_markedNodes_L n 127 0 1 S X R T (by first | omega | assumption) (by first | omega | assumption)
noncomputable def g_c_6_nodeCount (n : Nat) (_S : ZS) (_X : ZS) (_R : ZS) (_T : TS) : Nat := (2 * n) - 1
theorem k_c_6_nodeCount (n : Nat) (S : ZS) (X : ZS) (R : ZS) (T : TS) (hn : tn T = nI n) (h40 : n ≤ 40) (h1 : 1 ≤ n) : zM sc yX6_nodeCount cX6_nodeCount 1 (some .int) 1 0 0 [.ref 0] (qh S X R T) (.inl (some (.int (nI (g_c_6_nodeCount n S X R T))))) (qh S X R T) := by
  refine zM.at (ls := [some (.ref 0)]) zy_X6_nodeCount.2.2.2.2.2 (Nat.le_of_ble_eq_true rfl) rfl ?_
  refine z_iconst (v := 2) dX6_nodeCount_0 rfl ?_
  refine z_aload_0 dX6_nodeCount_1 ?_
  refine z_get (k := 0) (v := .ref 1) dX6_nodeCount_2 rfl rfl rfl (by decide) zf_X6_10 zw_in6 ?_
  refine Z.shs (qh S X R T) (zRun.V (ρ := zsh 1) (k_size T) dX6_nodeCount_5 zy_X5_size zm_X6_99 rfl rfl rfl rfl (Nat.le_of_ble_eq_true rfl) (by decide) (by decide) (zsh_fix 1)) (zsh_inj (Nat.le_of_ble_eq_true rfl)) ⟨rfl, rfl, rfl, rfl, rfl, rfl, rfl, rfl, rfl, trivial⟩ (zlen2 9 rfl rfl) rfl rfl ?_
  refine z_topi (w := nI (n)) hn ?_
  refine z_imul dX6_nodeCount_8 ?_
  refine z_topi (w := nI (2 * n)) (pk_mul _ _) ?_
  refine z_iconst (v := 1) dX6_nodeCount_9 rfl ?_
  refine z_isub dX6_nodeCount_10 ?_
  refine z_topi (w := nI ((2 * n) - 1)) (pk_sub (a := 2 * n) (b := 1) (by first | omega | assumption)) ?_
  rw [g_c_6_nodeCount]
  exact z_iret dX6_nodeCount_11 rfl (zint _) rfl rfl
noncomputable def g_c_6_updateCount (_n : Nat) (_S : ZS) (_X : ZS) (_R : ZS) (T : TS) : Int32 := tu T
theorem k_c_6_updateCount (n : Nat) (S : ZS) (X : ZS) (R : ZS) (T : TS) (hn : tn T = nI n) (h40 : n ≤ 40) : zM sc yX6_updateCount cX6_updateCount 1 (some .int) 1 0 0 [.ref 0] (qh S X R T) (.inl (some (.int (g_c_6_updateCount n S X R T)))) (qh S X R T) := by
  refine zM.at (ls := [some (.ref 0)]) zy_X6_updateCount.2.2.2.2.2 (Nat.le_of_ble_eq_true rfl) rfl ?_
  refine z_aload_0 dX6_updateCount_0 ?_
  refine z_get (k := 0) (v := .ref 1) dX6_updateCount_1 rfl rfl rfl (by decide) zf_X6_10 zw_in6 ?_
  refine Z.shs (qh S X R T) (zRun.V (ρ := zsh 1) (k_updates T) dX6_updateCount_4 zy_X5_updates zm_X6_243 rfl rfl rfl rfl (Nat.le_of_ble_eq_true rfl) (by decide) (by decide) (zsh_fix 1)) (zsh_inj (Nat.le_of_ble_eq_true rfl)) ⟨rfl, rfl, rfl, rfl, rfl, rfl, rfl, rfl, rfl, trivial⟩ (zlen2 9 rfl rfl) rfl rfl ?_
  rw [g_c_6_updateCount]
  exact z_iret dX6_updateCount_7 rfl (zint _) rfl rfl
noncomputable def g_c_6_pushCount (_n : Nat) (_S : ZS) (_X : ZS) (_R : ZS) (T : TS) : Int32 := tp T
theorem k_c_6_pushCount (n : Nat) (S : ZS) (X : ZS) (R : ZS) (T : TS) (hn : tn T = nI n) (h40 : n ≤ 40) : zM sc yX6_pushCount cX6_pushCount 1 (some .int) 1 0 0 [.ref 0] (qh S X R T) (.inl (some (.int (g_c_6_pushCount n S X R T)))) (qh S X R T) := by
  refine zM.at (ls := [some (.ref 0)]) zy_X6_pushCount.2.2.2.2.2 (Nat.le_of_ble_eq_true rfl) rfl ?_
  refine z_aload_0 dX6_pushCount_0 ?_
  refine z_get (k := 0) (v := .ref 1) dX6_pushCount_1 rfl rfl rfl (by decide) zf_X6_10 zw_in6 ?_
  refine Z.shs (qh S X R T) (zRun.V (ρ := zsh 1) (k_pushes T) dX6_pushCount_4 zy_X5_pushes zm_X6_246 rfl rfl rfl rfl (Nat.le_of_ble_eq_true rfl) (by decide) (by decide) (zsh_fix 1)) (zsh_inj (Nat.le_of_ble_eq_true rfl)) ⟨rfl, rfl, rfl, rfl, rfl, rfl, rfl, rfl, rfl, trivial⟩ (zlen2 9 rfl rfl) rfl rfl ?_
  rw [g_c_6_pushCount]
  exact z_iret dX6_pushCount_7 rfl (zint _) rfl rfl
noncomputable def g_c_6_appliedCount (_n : Nat) (_S : ZS) (_X : ZS) (_R : ZS) (T : TS) : Int32 := ta T
theorem k_c_6_appliedCount (n : Nat) (S : ZS) (X : ZS) (R : ZS) (T : TS) (hn : tn T = nI n) (h40 : n ≤ 40) : zM sc yX6_appliedCount cX6_appliedCount 1 (some .int) 1 0 0 [.ref 0] (qh S X R T) (.inl (some (.int (g_c_6_appliedCount n S X R T)))) (qh S X R T) := by
  refine zM.at (ls := [some (.ref 0)]) zy_X6_appliedCount.2.2.2.2.2 (Nat.le_of_ble_eq_true rfl) rfl ?_
  refine z_aload_0 dX6_appliedCount_0 ?_
  refine z_get (k := 0) (v := .ref 1) dX6_appliedCount_1 rfl rfl rfl (by decide) zf_X6_10 zw_in6 ?_
  refine Z.shs (qh S X R T) (zRun.V (ρ := zsh 1) (k_applications T) dX6_appliedCount_4 zy_X5_applications zm_X6_249 rfl rfl rfl rfl (Nat.le_of_ble_eq_true rfl) (by decide) (by decide) (zsh_fix 1)) (zsh_inj (Nat.le_of_ble_eq_true rfl)) ⟨rfl, rfl, rfl, rfl, rfl, rfl, rfl, rfl, rfl, trivial⟩ (zlen2 9 rfl rfl) rfl rfl ?_
  rw [g_c_6_appliedCount]
  exact z_iret dX6_appliedCount_7 rfl (zint _) rfl rfl
