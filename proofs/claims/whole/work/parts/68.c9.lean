variable {sc : SC}

theorem clear_rr (S : ZS) : (g_c_1_clear S).1 3 = nI (rr (g_c_1_clear S)) ∧ rr (g_c_1_clear S) = 0 := by
  have e : (g_c_1_clear S).1 3 = nI 0 := rfl
  have e2 := rr_nI e (by decide)
  exact ⟨by rw [e2]; exact e, e2⟩
noncomputable def g_c_6_writeRange_L (n : Nat) (a : Nat) (b : Nat) : Nat → Nat → ZS → ZS → ZS → TS → Int32 × ZS
  | 0, _, _, _, R, _ => ((g_c_1_length R), R)
  | fu + 1, k, S, X, R, T => (if k ≤ a then g_c_6_writeRange_L n a b fu (k + 1) S X (g_c_1_putNumber ((tva T (k)).toInt.natAbs) (tva T k) R) T else g_c_6_writeRange_L n a b fu (k + 1) S X (g_c_1_putNumber ((tva T (k)).toInt.natAbs) (tva T k) (g_c_1_put (rr R) (44) R)) T)
theorem l_g_c_6_writeRange_L (n : Nat) (a : Nat) (b : Nat) : ∀ (fu : Nat) (k : Nat) (S : ZS) (X : ZS) (R : ZS) (T : TS) , (n ≤ 40) → (b < n) → (a ≤ b) → (∀ i, i < n → tEl (tva T i)) → (R.1 3 = nI (rr R)) → (k + fu = b + 1) → (rr R + 9 * fu ≤ 360) → Z sc yX6_writeRange cX6_writeRange 4 (some .int) 3 0 0 15 [some (.ref 0), some (.int (nI (a))), some (.int (nI (b))), some (.int (nI (k)))] [] (qh S X R T) (.inl (some (.int (g_c_6_writeRange_L n a b fu k S X R T).1))) (qh S X (g_c_6_writeRange_L n a b fu k S X R T).2 T) := by
  intro fu
  induction fu with
  | zero =>
    intro k S X R T h40 hbn hab he hr hk h9
    refine z_iload_3 dX6_writeRange_15 ?_
    refine z_iload_2 dX6_writeRange_16 ?_
    refine z_icmpN_gt_t (tgt := 55) dX6_writeRange_17 (by decide) (x := k) (z := b) (by first | omega | assumption) (by first | omega | assumption) (by omega) ?_
    refine z_aload_0 dX6_writeRange_55 ?_
    refine z_get (k := 6) (v := .ref 12) dX6_writeRange_56 rfl rfl rfl (by decide) zf_X6_47 zw_in6 ?_
    refine Z.shs (qh S X R T) (zRun.V (ρ := zsh 12) (k_c_1_length R ) dX6_writeRange_59 zy_X1_length zm_X6_267 rfl rfl rfl rfl (Nat.le_of_ble_eq_true rfl) (by decide) (by decide) (zsh_fix 12)) (zsh_inj (Nat.le_of_ble_eq_true rfl)) ⟨rfl, rfl, trivial⟩ (zlen2 2 rfl rfl) rfl rfl ?_
    rw [g_c_6_writeRange_L]
    exact z_iret dX6_writeRange_62 rfl (zint _) rfl rfl
  | succ fu ih =>
    intro k S X R T h40 hbn hab he hr hk h9
    refine z_iload_3 dX6_writeRange_15 ?_
    refine z_iload_2 dX6_writeRange_16 ?_
    refine z_icmpN_gt_f (tgt := 55) dX6_writeRange_17 (by decide) (x := k) (z := b) (by first | omega | assumption) (by first | omega | assumption) (by omega) ?_
    refine z_iload_3 dX6_writeRange_20 ?_
    refine z_iload_1 dX6_writeRange_21 ?_
    refine z_icmpN_le (tgt := 34) dX6_writeRange_22 (by decide) (x := k) (z := a) (by first | omega | assumption) (by first | omega | assumption) (fun c22 => ?_) (fun c22 => ?_)
    · refine z_aload_0 dX6_writeRange_34 ?_
      refine z_get (k := 6) (v := .ref 12) dX6_writeRange_35 rfl rfl rfl (by decide) zf_X6_47 zw_in6 ?_
      refine z_aload_0 dX6_writeRange_38 ?_
      refine z_get (k := 0) (v := .ref 1) dX6_writeRange_39 rfl rfl rfl (by decide) zf_X6_10 zw_in6 ?_
      refine z_iload_3 dX6_writeRange_42 ?_
      refine Z.shs (qh S X R T) (zRun.V (ρ := zsh 1) (k_valueAt T k (by first | omega | assumption)) dX6_writeRange_43 zy_X5_valueAt zm_X6_140 rfl rfl rfl rfl (Nat.le_of_ble_eq_true rfl) (by decide) (by decide) (zsh_fix 1)) (zsh_inj (Nat.le_of_ble_eq_true rfl)) ⟨rfl, rfl, rfl, rfl, rfl, rfl, rfl, rfl, rfl, trivial⟩ (zlen2 9 rfl rfl) rfl rfl ?_
      refine Z.shn (qh S X (g_c_1_putNumber ((tva T (k)).toInt.natAbs) (tva T k) R) T) (zRun.V (ρ := zsh 12) (k_c_1_putNumber ((tva T (k)).toInt.natAbs) (tva T k) R (by first | exact f1 | exact hr) (by first | omega) (zabs_el (he k (by omega))).1 (zabs_el (he k (by omega))).2) dX6_writeRange_46 zy_X1_putNumber zm_X6_264 rfl rfl rfl rfl (Nat.le_of_ble_eq_true rfl) (by decide) (by decide) (zsh_fix 12)) (zsh_inj (Nat.le_of_ble_eq_true rfl)) ⟨rfl, rfl, trivial⟩ (zlen2 2 rfl rfl) rfl ?_
      obtain ⟨Rn1, en1⟩ : ∃ z, z = (g_c_1_putNumber ((tva T (k)).toInt.natAbs) (tva T k) R) := ⟨_, rfl⟩
      rw [← en1]
      have g1 : Rn1.1 3 = nI (rr Rn1) := by rw [en1]; exact (by first | exact (pn_rr f1 (by omega)).1 | exact (pn_rr hr (by omega)).1)
      have g2 : rr Rn1 ≤ rr R + 9 := by rw [en1]; exact (by first | (have h7 := (pn_rr (m := (tva T k).toInt.natAbs) (v := tva T k) f1 (by omega)).2.2; omega) | (have h7 := (pn_rr (m := (tva T k).toInt.natAbs) (v := tva T k) hr (by omega)).2.2; omega))
      refine z_iinc_3 (v := nI (k + 1)) dX6_writeRange_49 (nI_add _ 1) rfl (by decide) ?_
      refine z_goto (tgt := 15) dX6_writeRange_52 (by decide) ?_
      subst en1
      rw [g_c_6_writeRange_L, if_pos c22]
      exact ih (k + 1) S X (g_c_1_putNumber ((tva T (k)).toInt.natAbs) (tva T k) R) T (by first | omega | assumption) (by first | omega | assumption) (by first | omega | assumption) he g1 (by first | omega | assumption) (by omega)
    · refine z_aload_0 dX6_writeRange_25 ?_
      refine z_get (k := 6) (v := .ref 12) dX6_writeRange_26 rfl rfl rfl (by decide) zf_X6_47 zw_in6 ?_
      refine z_bipush (v := 44) dX6_writeRange_29 rfl ?_
      refine Z.shn (qh S X (g_c_1_put (rr R) (44) R) T) (zRun.V (ρ := zsh 12) (k_c_1_put (rr R) (44) R hr (by omega)) dX6_writeRange_31 zy_X1_put zm_X6_261 rfl rfl rfl rfl (Nat.le_of_ble_eq_true rfl) (by decide) (by decide) (zsh_fix 12)) (zsh_inj (Nat.le_of_ble_eq_true rfl)) ⟨rfl, rfl, trivial⟩ (zlen2 2 rfl rfl) rfl ?_
      obtain ⟨Rn2, en2⟩ : ∃ z, z = (g_c_1_put (rr R) (44) R) := ⟨_, rfl⟩
      rw [← en2]
      have f1 : Rn2.1 3 = nI (rr Rn2) := by rw [en2]; exact (put_rr (by omega)).1
      have f2 : rr Rn2 = rr R + 1 := by rw [en2]; exact (put_rr (by omega)).2
      refine z_aload_0 dX6_writeRange_34 ?_
      refine z_get (k := 6) (v := .ref 12) dX6_writeRange_35 rfl rfl rfl (by decide) zf_X6_47 zw_in6 ?_
      refine z_aload_0 dX6_writeRange_38 ?_
      refine z_get (k := 0) (v := .ref 1) dX6_writeRange_39 rfl rfl rfl (by decide) zf_X6_10 zw_in6 ?_
      refine z_iload_3 dX6_writeRange_42 ?_
      refine Z.shs (qh S X Rn2 T) (zRun.V (ρ := zsh 1) (k_valueAt T k (by first | omega | assumption)) dX6_writeRange_43 zy_X5_valueAt zm_X6_140 rfl rfl rfl rfl (Nat.le_of_ble_eq_true rfl) (by decide) (by decide) (zsh_fix 1)) (zsh_inj (Nat.le_of_ble_eq_true rfl)) ⟨rfl, rfl, rfl, rfl, rfl, rfl, rfl, rfl, rfl, trivial⟩ (zlen2 9 rfl rfl) rfl rfl ?_
      refine Z.shn (qh S X (g_c_1_putNumber ((tva T (k)).toInt.natAbs) (tva T k) Rn2) T) (zRun.V (ρ := zsh 12) (k_c_1_putNumber ((tva T (k)).toInt.natAbs) (tva T k) Rn2 (by first | exact f1 | exact hr) (by first | omega) (zabs_el (he k (by omega))).1 (zabs_el (he k (by omega))).2) dX6_writeRange_46 zy_X1_putNumber zm_X6_264 rfl rfl rfl rfl (Nat.le_of_ble_eq_true rfl) (by decide) (by decide) (zsh_fix 12)) (zsh_inj (Nat.le_of_ble_eq_true rfl)) ⟨rfl, rfl, trivial⟩ (zlen2 2 rfl rfl) rfl ?_
      obtain ⟨Rn3, en3⟩ : ∃ z, z = (g_c_1_putNumber ((tva T (k)).toInt.natAbs) (tva T k) Rn2) := ⟨_, rfl⟩
      rw [← en3]
      have g1 : Rn3.1 3 = nI (rr Rn3) := by rw [en3]; exact (by first | exact (pn_rr f1 (by omega)).1 | exact (pn_rr hr (by omega)).1)
      have g2 : rr Rn3 ≤ rr R + 9 := by rw [en3]; exact (by first | (have h7 := (pn_rr (m := (tva T k).toInt.natAbs) (v := tva T k) f1 (by omega)).2.2; omega) | (have h7 := (pn_rr (m := (tva T k).toInt.natAbs) (v := tva T k) hr (by omega)).2.2; omega))
      refine z_iinc_3 (v := nI (k + 1)) dX6_writeRange_49 (nI_add _ 1) rfl (by decide) ?_
      refine z_goto (tgt := 15) dX6_writeRange_52 (by decide) ?_
      subst en3
      subst en2
      rw [g_c_6_writeRange_L, if_neg c22]
      exact ih (k + 1) S X (g_c_1_putNumber ((tva T (k)).toInt.natAbs) (tva T k) (g_c_1_put (rr R) (44) R)) T (by first | omega | assumption) (by first | omega | assumption) (by first | omega | assumption) he g1 (by first | omega | assumption) (by omega)
noncomputable def g_c_6_writeRange (n : Nat) (a : Nat) (b : Nat) (S : ZS) (X : ZS) (R : ZS) (T : TS) : Int32 × ZS := g_c_6_writeRange_L n a b (b + 1 - a) a S X (g_c_1_clear R) T
theorem k_c_6_writeRange (n : Nat) (a : Nat) (b : Nat) (S : ZS) (X : ZS) (R : ZS) (T : TS) (hn : tn T = nI n) (h40 : n ≤ 40) (hab : a ≤ b) (hbn : b < n) (he : ∀ i, i < n → tEl (tva T i)) : zM sc yX6_writeRange cX6_writeRange 4 (some .int) 3 0 0 [.ref 0, .int (nI (a)), .int (nI (b))] (qh S X R T) (.inl (some (.int (g_c_6_writeRange n a b S X R T).1))) (qh S X (g_c_6_writeRange n a b S X R T).2 T) := by
  refine zM.at (ls := [some (.ref 0), some (.int (nI (a))), some (.int (nI (b))), none]) zy_X6_writeRange.2.2.2.2.2 (Nat.le_of_ble_eq_true rfl) rfl ?_
  refine z_aload_0 dX6_writeRange_0 ?_
  refine z_iload_1 dX6_writeRange_1 ?_
  refine z_iload_2 dX6_writeRange_2 ?_
  refine Z.call0n (zRun.V (ρ := fun i => i) (k_c_6_checkRange n a b S X R T (by first | omega | assumption) (by first | omega | assumption) (by first | omega | assumption) (by first | omega | assumption)) dX6_writeRange_3 zy_X6_checkRange zm_X6_102 rfl rfl rfl rfl (Nat.le_of_ble_eq_true rfl) (by decide) (by decide)) (zlen2 14 rfl rfl) ?_
  refine z_aload_0 dX6_writeRange_6 ?_
  refine z_get (k := 6) (v := .ref 12) dX6_writeRange_7 rfl rfl rfl (by decide) zf_X6_47 zw_in6 ?_
  refine Z.shn (qh S X (g_c_1_clear R) T) (zRun.V (ρ := zsh 12) (k_c_1_clear R ) dX6_writeRange_10 zy_X1_clear zm_X6_258 rfl rfl rfl rfl (Nat.le_of_ble_eq_true rfl) (by decide) (by decide) (zsh_fix 12)) (zsh_inj (Nat.le_of_ble_eq_true rfl)) ⟨rfl, rfl, trivial⟩ (zlen2 2 rfl rfl) rfl ?_
  refine z_iload_1 dX6_writeRange_13 ?_
  refine z_istore_3 dX6_writeRange_14 rfl (by decide) ?_
  rw [g_c_6_writeRange]
  exact l_g_c_6_writeRange_L n a b (b + 1 - a) a S X (g_c_1_clear R) T (by first | omega | assumption) (by first | omega | assumption) (by first | omega | assumption) he (clear_rr R).1 (by first | omega | assumption) (by have := (clear_rr R).2; omega)
theorem k_c_6_writeRange_x1 (n : Nat) (x : Int32) (z : Int32) (S : ZS) (X : ZS) (R : ZS) (T : TS) (hn : tn T = nI n) (h40 : n ≤ 40) (hx : ¬ (tIx T x ∧ tIx T z)) : zM sc yX6_writeRange cX6_writeRange 4 (some .int) 10 1 6 [.ref 0, .int (x), .int (z)] (qh S X R T) (.inr "java/lang/IndexOutOfBoundsException") (qh S X R T) := by
  refine zM.at (ls := [some (.ref 0), some (.int (x)), some (.int (z)), none]) zy_X6_writeRange.2.2.2.2.2 (Nat.le_of_ble_eq_true rfl) rfl ?_
  refine z_aload_0 dX6_writeRange_0 ?_
  refine z_iload_1 dX6_writeRange_1 ?_
  refine z_iload_2 dX6_writeRange_2 ?_
  exact Z.callX0 (zRun.V (ρ := fun i => i) (k_c_6_checkRange_x1 n (x) (z) S X R T hn h40 hx) dX6_writeRange_3 zy_X6_checkRange zm_X6_102 rfl rfl rfl rfl (Nat.le_of_ble_eq_true rfl) (by decide) (by decide)) (zlen2 14 rfl rfl) rfl rfl
theorem k_c_6_writeRange_x2 (n : Nat) (x : Int32) (z : Int32) (S : ZS) (X : ZS) (R : ZS) (T : TS) (hn : tn T = nI n) (h40 : n ≤ 40) (hx : tIx T x) (hz : tIx T z) (hzx : z < x) : zM sc yX6_writeRange cX6_writeRange 4 (some .int) 10 1 6 [.ref 0, .int (x), .int (z)] (qh S X R T) (.inr "java/lang/IllegalArgumentException") (qh S X R T) := by
  refine zM.at (ls := [some (.ref 0), some (.int (x)), some (.int (z)), none]) zy_X6_writeRange.2.2.2.2.2 (Nat.le_of_ble_eq_true rfl) rfl ?_
  refine z_aload_0 dX6_writeRange_0 ?_
  refine z_iload_1 dX6_writeRange_1 ?_
  refine z_iload_2 dX6_writeRange_2 ?_
  exact Z.callX0 (zRun.V (ρ := fun i => i) (k_c_6_checkRange_x2 n (x) (z) S X R T hn h40 hx hz hzx) dX6_writeRange_3 zy_X6_checkRange zm_X6_102 rfl rfl rfl rfl (Nat.le_of_ble_eq_true rfl) (by decide) (by decide)) (zlen2 14 rfl rfl) rfl rfl
noncomputable def g_c_6_truncateInput (t : Nat) (k : Nat) (_S : ZS) (X : ZS) (_R : ZS) (_T : TS) : Int32 × ZS := (nI (k), (g_c_3_shorten t k X))
theorem k_c_6_truncateInput (t : Nat) (k : Nat) (S : ZS) (X : ZS) (R : ZS) (T : TS) (ht : X.1 2 = nI t) (h6 : t ≤ 600) (hk : k ≤ t) : zM sc yX6_truncateInput cX6_truncateInput 2 (some .int) 1 0 0 [.ref 0, .int (nI (k))] (qh S X R T) (.inl (some (.int (g_c_6_truncateInput t k S X R T).1))) (qh S (g_c_6_truncateInput t k S X R T).2 R T) := by
  refine zM.at (ls := [some (.ref 0), some (.int (nI (k)))]) zy_X6_truncateInput.2.2.2.2.2 (Nat.le_of_ble_eq_true rfl) rfl ?_
  refine z_iload_1 dX6_truncateInput_0 ?_
  refine z_ifN_lt_f (tgt := 15) dX6_truncateInput_1 (by decide) (x := k) (by first | omega | assumption) (by omega) ?_
  refine z_iload_1 dX6_truncateInput_4 ?_
  refine z_aload_0 dX6_truncateInput_5 ?_
  refine z_get (k := 4) (v := .ref 10) dX6_truncateInput_6 rfl rfl rfl (by decide) zf_X6_33 zw_in6 ?_
  refine Z.shs (qh S X R T) (zRun.V (ρ := zsh 10) (k_c_3_length X ) dX6_truncateInput_9 zy_X3_length zm_X6_63 rfl rfl rfl rfl (Nat.le_of_ble_eq_true rfl) (by decide) (by decide) (zsh_fix 10)) (zsh_inj (Nat.le_of_ble_eq_true rfl)) ⟨rfl, rfl, trivial⟩ (zlen2 2 rfl rfl) rfl rfl ?_
  refine z_topi (w := nI (t)) ht ?_
  refine z_icmpN_le_t (tgt := 25) dX6_truncateInput_12 (by decide) (x := k) (z := t) (by first | omega | assumption) (by first | omega | assumption) (by omega) ?_
  refine z_aload_0 dX6_truncateInput_25 ?_
  refine z_get (k := 4) (v := .ref 10) dX6_truncateInput_26 rfl rfl rfl (by decide) zf_X6_33 zw_in6 ?_
  refine z_iload_1 dX6_truncateInput_29 ?_
  refine Z.shn (qh S (g_c_3_shorten t k X) R T) (zRun.V (ρ := zsh 10) (k_c_3_shorten t k X (by first | omega | assumption) (by first | omega | assumption) (by first | omega | assumption)) dX6_truncateInput_30 zy_X3_shorten zm_X6_78 rfl rfl rfl rfl (Nat.le_of_ble_eq_true rfl) (by decide) (by decide) (zsh_fix 10)) (zsh_inj (Nat.le_of_ble_eq_true rfl)) ⟨rfl, rfl, trivial⟩ (zlen2 2 rfl rfl) rfl ?_
  refine z_iload_1 dX6_truncateInput_33 ?_
  rw [g_c_6_truncateInput]
  exact z_iret dX6_truncateInput_34 rfl (zint _) rfl rfl
theorem k_c_6_truncateInput_x1 (x : Int32) (S : ZS) (X : ZS) (R : ZS) (T : TS) (hx : ¬ (0 ≤ x ∧ x ≤ X.1 2)) : zM sc yX6_truncateInput cX6_truncateInput 2 (some .int) 8 1 6 [.ref 0, .int (x)] (qh S X R T) (.inr "java/lang/IllegalArgumentException") (qh S X R T) := by
  refine zM.at (ls := [some (.ref 0), some (.int (x))]) zy_X6_truncateInput.2.2.2.2.2 (Nat.le_of_ble_eq_true rfl) rfl ?_
  refine z_iload_1 dX6_truncateInput_0 ?_
  refine z_if_lt (tgt := 15) dX6_truncateInput_1 (by decide) (fun c1 => ?_) (fun c1 => ?_)
  · exact z_throwS (names := zNm) (i := 9) (by decide +kernel) zNm_fit (by decide) zcl_X6_71 zin_A rfl zat_A dX6_truncateInput_15 dX6_truncateInput_18 dX6_truncateInput_19 dX6_truncateInput_21 dX6_truncateInput_24 (by decide) (Nat.le_of_ble_eq_true rfl) (by decide) (by decide) rfl rfl
  · refine z_iload_1 dX6_truncateInput_4 ?_
    refine z_aload_0 dX6_truncateInput_5 ?_
    refine z_get (k := 4) (v := .ref 10) dX6_truncateInput_6 rfl rfl rfl (by decide) zf_X6_33 zw_in6 ?_
    refine Z.shs (qh S X R T) (zRun.V (ρ := zsh 10) (k_c_3_length X ) dX6_truncateInput_9 zy_X3_length zm_X6_63 rfl rfl rfl rfl (Nat.le_of_ble_eq_true rfl) (by decide) (by decide) (zsh_fix 10)) (zsh_inj (Nat.le_of_ble_eq_true rfl)) ⟨rfl, rfl, trivial⟩ (zlen2 2 rfl rfl) rfl rfl ?_
    refine z_icmp_le_f (tgt := 25) dX6_truncateInput_12 (by decide) (fun c => hx ⟨Int32.not_lt.mp c1, c⟩) ?_
    exact z_throwS (names := zNm) (i := 9) (by decide +kernel) zNm_fit (by decide) zcl_X6_71 zin_A rfl zat_A dX6_truncateInput_15 dX6_truncateInput_18 dX6_truncateInput_19 dX6_truncateInput_21 dX6_truncateInput_24 (by decide) (Nat.le_of_ble_eq_true rfl) (by decide) (by decide) rfl rfl
noncomputable def g_c_1_byteAt (k : Nat) (S : ZS) : Int32 := (if rr S ≤ k then (-1) else S.2 1 (k))
theorem k_c_1_byteAt (k : Nat) (S : ZS) (hr : S.1 3 = nI (rr S)) (h3 : rr S ≤ 360) (hk : k < 2 ^ 31) : zM sc yX1_byteAt cX1_byteAt 2 (some .int) 0 0 0 [.ref 0, .int (nI (k))] (rho 0 S) (.inl (some (.int (g_c_1_byteAt k S)))) (rho 0 S) := by
  refine zM.at (ls := [some (.ref 0), some (.int (nI (k)))]) zy_X1_byteAt.2.2.2.2.2 (Nat.le_of_ble_eq_true rfl) rfl ?_
  refine z_iload_1 dX1_byteAt_0 ?_
  refine z_ifN_lt_f (tgt := 28) dX1_byteAt_1 (by decide) (x := k) (by first | omega | assumption) (by omega) ?_
  refine z_iload_1 dX1_byteAt_4 ?_
  refine z_aload_0 dX1_byteAt_5 ?_
  refine z_get (k := 1) (v := .int (S.1 3)) dX1_byteAt_6 rfl rfl rfl (by decide) zf_X1_15 zw_in1 ?_
  refine z_topi (w := nI (rr S)) hr ?_
  refine z_icmpN_ge (tgt := 28) dX1_byteAt_9 (by decide) (x := k) (z := rr S) (by first | omega | assumption) (by first | omega | assumption) (fun c9 => ?_) (fun c9 => ?_)
  · refine z_iconst (v := (-1)) dX1_byteAt_28 rfl ?_
    rw [g_c_1_byteAt, if_pos c9]
    exact z_iret dX1_byteAt_29 rfl (zint _) rfl rfl
  · refine z_iload_1 dX1_byteAt_12 ?_
    refine z_sipush (v := 360) dX1_byteAt_13 rfl ?_
    refine z_icmpN_ge_f (tgt := 28) dX1_byteAt_16 (by decide) (x := k) (z := 360) (by first | omega | assumption) (by first | omega | assumption) (by omega) ?_
    refine z_aload_0 dX1_byteAt_19 ?_
    refine z_get (k := 0) (v := .ref 1) dX1_byteAt_20 rfl rfl rfl (by decide) zf_X1_11 zw_in1 ?_
    refine z_iload_1 dX1_byteAt_23 ?_
    refine z_baldN (k := k) dX1_byteAt_24 rfl (by first | omega | assumption) (by decide) ?_
    refine z_topi (w := S.2 1 (k)) rfl ?_
    refine z_goto (tgt := 29) dX1_byteAt_25 (by decide) ?_
    rw [g_c_1_byteAt, if_neg c9]
    exact z_iret dX1_byteAt_29 rfl (zint _) rfl rfl
noncomputable def g_c_1_byteAt_neg (_x : Int32) (_S : ZS) : Int32 := (-1)
theorem k_c_1_byteAt_neg (x : Int32) (S : ZS) (hx : x < 0) : zM sc yX1_byteAt cX1_byteAt 2 (some .int) 0 0 0 [.ref 0, .int (x)] (rho 0 S) (.inl (some (.int (g_c_1_byteAt_neg x S)))) (rho 0 S) := by
  refine zM.at (ls := [some (.ref 0), some (.int (x))]) zy_X1_byteAt.2.2.2.2.2 (Nat.le_of_ble_eq_true rfl) rfl ?_
  refine z_iload_1 dX1_byteAt_0 ?_
  refine z_if_lt_t (tgt := 28) dX1_byteAt_1 (by decide) hx ?_
  refine z_iconst (v := (-1)) dX1_byteAt_28 rfl ?_
  rw [g_c_1_byteAt_neg]
  exact z_iret dX1_byteAt_29 rfl (zint _) rfl rfl
noncomputable def g_c_6_reportByte (k : Nat) (_S : ZS) (_X : ZS) (R : ZS) (_T : TS) : Int32 := (g_c_1_byteAt k R)
theorem k_c_6_reportByte (k : Nat) (S : ZS) (X : ZS) (R : ZS) (T : TS) (hr : R.1 3 = nI (rr R)) (h3 : rr R ≤ 360) (hk : k < 2 ^ 31) : zM sc yX6_reportByte cX6_reportByte 2 (some .int) 1 0 0 [.ref 0, .int (nI (k))] (qh S X R T) (.inl (some (.int (g_c_6_reportByte k S X R T)))) (qh S X R T) := by
  refine zM.at (ls := [some (.ref 0), some (.int (nI (k)))]) zy_X6_reportByte.2.2.2.2.2 (Nat.le_of_ble_eq_true rfl) rfl ?_
  refine z_aload_0 dX6_reportByte_0 ?_
  refine z_get (k := 6) (v := .ref 12) dX6_reportByte_1 rfl rfl rfl (by decide) zf_X6_47 zw_in6 ?_
  refine z_iload_1 dX6_reportByte_4 ?_
  refine Z.shs (qh S X R T) (zRun.V (ρ := zsh 12) (k_c_1_byteAt k R (by first | omega | assumption) (by first | omega | assumption) (by first | omega | assumption)) dX6_reportByte_5 zy_X1_byteAt zm_X6_268 rfl rfl rfl rfl (Nat.le_of_ble_eq_true rfl) (by decide) (by decide) (zsh_fix 12)) (zsh_inj (Nat.le_of_ble_eq_true rfl)) ⟨rfl, rfl, trivial⟩ (zlen2 2 rfl rfl) rfl rfl ?_
  rw [g_c_6_reportByte]
  exact z_iret dX6_reportByte_8 rfl (zint _) rfl rfl
noncomputable def g_c_6_reportByte_neg (x : Int32) (_S : ZS) (_X : ZS) (R : ZS) (_T : TS) : Int32 := (g_c_1_byteAt_neg (x) R)
theorem k_c_6_reportByte_neg (x : Int32) (S : ZS) (X : ZS) (R : ZS) (T : TS) (hx : x < 0) : zM sc yX6_reportByte cX6_reportByte 2 (some .int) 1 0 0 [.ref 0, .int (x)] (qh S X R T) (.inl (some (.int (g_c_6_reportByte_neg x S X R T)))) (qh S X R T) := by
  refine zM.at (ls := [some (.ref 0), some (.int (x))]) zy_X6_reportByte.2.2.2.2.2 (Nat.le_of_ble_eq_true rfl) rfl ?_
  refine z_aload_0 dX6_reportByte_0 ?_
  refine z_get (k := 6) (v := .ref 12) dX6_reportByte_1 rfl rfl rfl (by decide) zf_X6_47 zw_in6 ?_
  refine z_iload_1 dX6_reportByte_4 ?_
  refine Z.shs (qh S X R T) (zRun.V (ρ := zsh 12) (k_c_1_byteAt_neg (x) R (by first | omega | assumption)) dX6_reportByte_5 zy_X1_byteAt zm_X6_268 rfl rfl rfl rfl (Nat.le_of_ble_eq_true rfl) (by decide) (by decide) (zsh_fix 12)) (zsh_inj (Nat.le_of_ble_eq_true rfl)) ⟨rfl, rfl, trivial⟩ (zlen2 2 rfl rfl) rfl rfl ?_
  rw [g_c_6_reportByte_neg]
  exact z_iret dX6_reportByte_8 rfl (zint _) rfl rfl
