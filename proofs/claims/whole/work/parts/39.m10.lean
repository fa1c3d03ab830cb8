variable {sc : SC}

noncomputable def g_m_is (x : Int32) (S : ZS) : Bool × ZS := (if S.1 23 = x then (true, S) else (false, (g_m_fail (1) S).2))
theorem k_m_is (x : Int32) (S : ZS)  : zM sc yX7_is cX7_is 2 (some .boolean) 1 0 0 [.ref 0, .int (x)] (mh S) (.inl (some (.int (zb (g_m_is x S).1)))) (mh (g_m_is x S).2) := by
  refine zM.at (ls := [some (.ref 0), some (.int (x))]) zy_X7_is.2.2.2.2.2 (Nat.le_of_ble_eq_true rfl) rfl ?_
  refine z_aload_0 dX7_is_0 ?_
  refine z_get (k := 23) (v := .int (S.1 23)) dX7_is_1 rfl rfl rfl (by decide) zf_X7_165 zw_in7 ?_
  refine z_iload_1 dX7_is_4 ?_
  refine z_icmp_eq (tgt := 16) dX7_is_5 (by decide) (fun c5 => ?_) (fun c5 => ?_)
  · refine z_iconst (v := 1) dX7_is_16 rfl ?_
    refine z_goto (tgt := 21) dX7_is_17 (by decide) ?_
    rw [g_m_is, if_pos c5]
    exact z_iret dX7_is_21 rfl rfl rfl rfl
  · refine z_aload_0 dX7_is_8 ?_
    refine z_iconst (v := 1) dX7_is_9 rfl ?_
    refine Z.call0s (zRun.V (ρ := fun i => i) (k_m_fail (1) S ) dX7_is_10 zy_X7_fail zm_X7_176 rfl rfl rfl rfl (Nat.le_of_ble_eq_true rfl) (by decide) (by decide)) (zlen2 14 rfl rfl) ?_
    refine z_topi (w := 0) (by rw [fail_1]; rfl) ?_
    refine z_if_eq_t (tgt := 20) dX7_is_13 (by decide) (by decide) ?_
    refine z_iconst (v := 0) dX7_is_20 rfl ?_
    rw [g_m_is, if_neg c5]
    exact z_iret dX7_is_21 rfl rfl rfl rfl
theorem is_t {x : Int32} {S : ZS} (h : (g_m_is x S).1 = true) : S.1 23 = x ∧ g_m_is x S = (true, S) := by
  rw [g_m_is] at h ⊢
  split at h
  next c => exact ⟨c, if_pos c⟩
  next c => exact absurd h Bool.false_ne_true
theorem is_t2 {x : Int32} {S : ZS} (h : (g_m_is x S).1 = true) : (g_m_is x S).2 = S := by rw [(is_t h).2]
theorem is_f2 {x : Int32} {S : ZS} (h : ¬ (g_m_is x S).1 = true) : ¬ S.1 23 = x ∧ g_m_is x S = (false, (g_m_fail 1 S).2) := by
  rw [g_m_is] at h ⊢
  split at h
  next c => exact absurd rfl h
  next c => exact ⟨c, if_neg c⟩
noncomputable def g_m_number (tl : Nat) (j : Nat) (a : Int32) (b : Int32) (S : ZS) : Bool × ZS := (if ((g_m_is (3) S).1) = true then (if ((g_m_in (S.1 26) (a) (b))) = true then (true, (g_m_next tl (sA 12 (j) (S.1 26) S))) else (false, (g_m_fail (2) S).2)) else (false, (g_m_is (3) S).2))
theorem k_m_number (tl : Nat) (j : Nat) (a : Int32) (b : Int32) (S : ZS) (hL : mLx tl S) (hj : j < 3) : zM sc yX7_number cX7_number 4 (some .boolean) 2 0 0 [.ref 0, .int (nI (j)), .int (a), .int (b)] (mh S) (.inl (some (.int (zb (g_m_number tl j a b S).1)))) (mh (g_m_number tl j a b S).2) := by
  refine zM.at (ls := [some (.ref 0), some (.int (nI (j))), some (.int (a)), some (.int (b))]) zy_X7_number.2.2.2.2.2 (Nat.le_of_ble_eq_true rfl) rfl ?_
  refine z_aload_0 dX7_number_0 ?_
  refine z_iconst (v := 3) dX7_number_1 rfl ?_
  refine Z.call0s (zRun.V (ρ := fun i => i) (k_m_is (3) S ) dX7_number_2 zy_X7_is zm_X7_179 rfl rfl rfl rfl (Nat.le_of_ble_eq_true rfl) (by decide) (by decide)) (zlen2 14 rfl rfl) ?_
  refine z_ifB_ne (tgt := 10) dX7_number_5 (by decide) (fun c5 => ?_) (fun c5 => ?_)
  · refine Z.heap (h2 := mh S) (by rw [is_t2 c5]) ?_
    refine z_aload_0 dX7_number_10 ?_
    refine z_get (k := 26) (v := .int (S.1 26)) dX7_number_11 rfl rfl rfl (by decide) zf_X7_171 zw_in7 ?_
    refine z_iload_2 dX7_number_14 ?_
    refine z_iload_3 dX7_number_15 ?_
    refine Z.callE (zRun.S (ρ := fun i => i) (k_m_in (S.1 26) (a) (b) ) dX7_number_16 zy_X7_in zm_X7_67 rfl rfl (Nat.le_of_ble_eq_true rfl) (by decide) (by decide)) ?_
    refine z_ifB_ne (tgt := 28) dX7_number_19 (by decide) (fun c19 => ?_) (fun c19 => ?_)
    · refine z_aload_0 dX7_number_28 ?_
      refine z_get (k := 28) (v := .ref 13) dX7_number_29 rfl rfl rfl (by decide) zf_X7_51 zw_in7 ?_
      refine z_iload_1 dX7_number_32 ?_
      refine z_aload_0 dX7_number_33 ?_
      refine z_get (k := 26) (v := .int (S.1 26)) dX7_number_34 rfl rfl rfl (by decide) zf_X7_171 zw_in7 ?_
      refine z_iastN (k := j) dX7_number_37 rfl (by first | omega | assumption) (by decide) ?_
      refine Z.heap (h2 := mh (sA 12 (j) (S.1 26) S)) rfl ?_
      refine z_aload_0 dX7_number_38 ?_
      refine Z.call0n (zRun.V (ρ := fun i => i) (k_m_next tl (sA 12 (j) (S.1 26) S) hL.sA.tk) dX7_number_39 zy_X7_next zm_X7_182 rfl rfl rfl rfl (Nat.le_of_ble_eq_true rfl) (by decide) (by decide)) (zlen2 14 rfl rfl) ?_
      refine z_iconst (v := 1) dX7_number_42 rfl ?_
      rw [g_m_number, if_pos c5, if_pos c19]
      exact z_iret dX7_number_43 rfl rfl rfl rfl
    · refine z_aload_0 dX7_number_22 ?_
      refine z_iconst (v := 2) dX7_number_23 rfl ?_
      refine Z.call0s (zRun.V (ρ := fun i => i) (k_m_fail (2) S ) dX7_number_24 zy_X7_fail zm_X7_176 rfl rfl rfl rfl (Nat.le_of_ble_eq_true rfl) (by decide) (by decide)) (zlen2 14 rfl rfl) ?_
      refine z_topi (w := 0) (by rw [fail_1]; rfl) ?_
      rw [g_m_number, if_pos c5, if_neg c19]
      exact z_iret dX7_number_27 rfl rfl rfl rfl
  · refine z_iconst (v := 0) dX7_number_8 rfl ?_
    rw [g_m_number, if_neg c5]
    exact z_iret dX7_number_9 rfl rfl rfl rfl
noncomputable def g_m_signed (tl : Nat) (j : Nat) (S : ZS) : Bool × ZS := (if S.1 23 = 4 then (if ((g_m_is (3) (g_m_next tl S)).1) = true then (true, (sA 12 (j) (-(((g_m_is (3) (g_m_next tl S)).2).1 26)) (g_m_is (3) (g_m_next tl S)).2)) else (false, (g_m_is (3) (g_m_next tl S)).2)) else (if ((g_m_is (3) S).1) = true then (true, (sA 12 (j) (((g_m_is (3) S).2).1 26) (g_m_is (3) S).2)) else (false, (g_m_is (3) S).2)))
theorem k_m_signed (tl : Nat) (j : Nat) (S : ZS) (hL : mLx tl S) (hj : j < 3) : zM sc yX7_signed cX7_signed 3 (some .boolean) 2 0 0 [.ref 0, .int (nI (j))] (mh S) (.inl (some (.int (zb (g_m_signed tl j S).1)))) (mh (g_m_signed tl j S).2) := by
  refine zM.at (ls := [some (.ref 0), some (.int (nI (j))), none]) zy_X7_signed.2.2.2.2.2 (Nat.le_of_ble_eq_true rfl) rfl ?_
  refine z_aload_0 dX7_signed_0 ?_
  refine z_get (k := 23) (v := .int (S.1 23)) dX7_signed_1 rfl rfl rfl (by decide) zf_X7_165 zw_in7 ?_
  refine z_iconst (v := 4) dX7_signed_4 rfl ?_
  refine z_icmp_ne (tgt := 12) dX7_signed_5 (by decide) (fun c5 => ?_) (fun c5 => ?_)
  · refine z_iconst (v := 0) dX7_signed_12 rfl ?_
    refine z_istore_2 dX7_signed_13 rfl (by decide) ?_
    refine z_iload_2 dX7_signed_14 ?_
    refine z_if_eq_t (tgt := 22) dX7_signed_15 (by decide) (by decide) ?_
    refine z_aload_0 dX7_signed_22 ?_
    refine z_iconst (v := 3) dX7_signed_23 rfl ?_
    refine Z.call0s (zRun.V (ρ := fun i => i) (k_m_is (3) S ) dX7_signed_24 zy_X7_is zm_X7_179 rfl rfl rfl rfl (Nat.le_of_ble_eq_true rfl) (by decide) (by decide)) (zlen2 14 rfl rfl) ?_
    refine z_ifB_ne (tgt := 32) dX7_signed_27 (by decide) (fun c27 => ?_) (fun c27 => ?_)
    · refine z_aload_0 dX7_signed_32 ?_
      refine z_get (k := 28) (v := .ref 13) dX7_signed_33 rfl rfl rfl (by decide) zf_X7_51 zw_in7 ?_
      refine z_iload_1 dX7_signed_36 ?_
      refine z_iload_2 dX7_signed_37 ?_
      refine z_if_eq_t (tgt := 49) dX7_signed_38 (by decide) (by decide) ?_
      refine z_aload_0 dX7_signed_49 ?_
      refine z_get (k := 26) (v := .int (((g_m_is (3) S).2).1 26)) dX7_signed_50 rfl rfl rfl (by decide) zf_X7_171 zw_in7 ?_
      refine z_iastN (k := j) dX7_signed_53 rfl (by first | omega | assumption) (by decide) ?_
      refine Z.heap (h2 := mh (sA 12 (j) (((g_m_is (3) S).2).1 26) (g_m_is (3) S).2)) rfl ?_
      refine z_iconst (v := 1) dX7_signed_54 rfl ?_
      rw [g_m_signed, if_neg c5, if_pos c27]
      exact z_iret dX7_signed_55 rfl rfl rfl rfl
    · refine z_iconst (v := 0) dX7_signed_30 rfl ?_
      rw [g_m_signed, if_neg c5, if_neg c27]
      exact z_iret dX7_signed_31 rfl rfl rfl rfl
  · refine z_iconst (v := 1) dX7_signed_8 rfl ?_
    refine z_goto (tgt := 13) dX7_signed_9 (by decide) ?_
    refine z_istore_2 dX7_signed_13 rfl (by decide) ?_
    refine z_iload_2 dX7_signed_14 ?_
    refine z_if_eq_f (tgt := 22) dX7_signed_15 (by decide) (by decide) ?_
    refine z_aload_0 dX7_signed_18 ?_
    refine Z.call0n (zRun.V (ρ := fun i => i) (k_m_next tl S hL.tk) dX7_signed_19 zy_X7_next zm_X7_182 rfl rfl rfl rfl (Nat.le_of_ble_eq_true rfl) (by decide) (by decide)) (zlen2 14 rfl rfl) ?_
    refine z_aload_0 dX7_signed_22 ?_
    refine z_iconst (v := 3) dX7_signed_23 rfl ?_
    refine Z.call0s (zRun.V (ρ := fun i => i) (k_m_is (3) (g_m_next tl S) ) dX7_signed_24 zy_X7_is zm_X7_179 rfl rfl rfl rfl (Nat.le_of_ble_eq_true rfl) (by decide) (by decide)) (zlen2 14 rfl rfl) ?_
    refine z_ifB_ne (tgt := 32) dX7_signed_27 (by decide) (fun c27 => ?_) (fun c27 => ?_)
    · refine z_aload_0 dX7_signed_32 ?_
      refine z_get (k := 28) (v := .ref 13) dX7_signed_33 rfl rfl rfl (by decide) zf_X7_51 zw_in7 ?_
      refine z_iload_1 dX7_signed_36 ?_
      refine z_iload_2 dX7_signed_37 ?_
      refine z_if_eq_f (tgt := 49) dX7_signed_38 (by decide) (by decide) ?_
      refine z_aload_0 dX7_signed_41 ?_
      refine z_get (k := 26) (v := .int (((g_m_is (3) (g_m_next tl S)).2).1 26)) dX7_signed_42 rfl rfl rfl (by decide) zf_X7_171 zw_in7 ?_
      refine z_ineg dX7_signed_45 ?_
      refine z_goto (tgt := 53) dX7_signed_46 (by decide) ?_
      refine z_iastN (k := j) dX7_signed_53 rfl (by first | omega | assumption) (by decide) ?_
      refine Z.heap (h2 := mh (sA 12 (j) (-(((g_m_is (3) (g_m_next tl S)).2).1 26)) (g_m_is (3) (g_m_next tl S)).2)) rfl ?_
      refine z_iconst (v := 1) dX7_signed_54 rfl ?_
      rw [g_m_signed, if_pos c5, if_pos c27]
      exact z_iret dX7_signed_55 rfl rfl rfl rfl
    · refine z_iconst (v := 0) dX7_signed_30 rfl ?_
      rw [g_m_signed, if_pos c5, if_neg c27]
      exact z_iret dX7_signed_31 rfl rfl rfl rfl
theorem lx_is {tl : Nat} {x : Int32} {S : ZS} (h : mLx tl S) : mLx tl (g_m_is x S).2 := by
  by_cases c : (g_m_is x S).1 = true
  · rw [is_t2 c]; exact h
  · rw [(is_f2 c).2]; exact lx_fail h
theorem kp_is (x : Int32) (S : ZS) : kp S (g_m_is x S).2 := by
  by_cases c : (g_m_is x S).1 = true
  · rw [is_t2 c]; exact kp.rfl' S
  · rw [(is_f2 c).2]; exact kp_fail 1 S
theorem kp.sA (i : Nat) (v : Int32) (S : ZS) : kp S (sA 12 i v S) := ⟨fun _ _ _ _ _ _ _ => rfl, fun j h => sA_x h⟩
theorem lx_signed {tl j : Nat} {S : ZS} (h : mLx tl S) : mLx tl (g_m_signed tl j S).2 := by
  rw [g_m_signed]
  repeat' split
  all_goals first
    | exact mLx.sA (lx_is (lx_next h.tk))
    | exact lx_is (lx_next h.tk)
    | exact mLx.sA (lx_is h)
    | exact lx_is h
theorem lx_number {tl j : Nat} {a b : Int32} {S : ZS} (h : mLx tl S) : mLx tl (g_m_number tl j a b S).2 := by
  rw [g_m_number]
  repeat' split
  all_goals first
    | exact lx_next (mLx.sA h).tk
    | exact lx_fail h
    | exact lx_is h
theorem kp_signed {tl j : Nat} {S : ZS} (h : mLx tl S) : kp S (g_m_signed tl j S).2 := by
  rw [g_m_signed]
  repeat' split
  all_goals first
    | exact kp.trans (kp_next h.tk) (kp.trans (kp_is _ _) (kp.sA _ _ _))
    | exact kp.trans (kp_next h.tk) (kp_is _ _)
    | exact kp.trans (kp_is _ _) (kp.sA _ _ _)
    | exact kp_is _ _
theorem kp_number {tl j : Nat} {a b : Int32} {S : ZS} (h : mLx tl S) : kp S (g_m_number tl j a b S).2 := by
  rw [g_m_number]
  repeat' split
  all_goals first
    | exact kp.trans (kp.sA _ _ _) (kp_next (mLx.sA h).tk)
    | exact kp_fail _ _
    | exact kp_is _ _
noncomputable def g_m_valueAt (tl : Nat) (j : Nat) (S : ZS) : Bool × ZS := (if ((g_m_signed tl j S).1) = true then (true, (g_m_next tl ((g_m_signed tl j S).2))) else (false, (g_m_signed tl j S).2))
theorem k_m_valueAt (tl : Nat) (j : Nat) (S : ZS) (hL : mLx tl S) (hj : j < 3) : zM sc yX7_valueAt cX7_valueAt 2 (some .boolean) 3 0 0 [.ref 0, .int (nI (j))] (mh S) (.inl (some (.int (zb (g_m_valueAt tl j S).1)))) (mh (g_m_valueAt tl j S).2) := by
  refine zM.at (ls := [some (.ref 0), some (.int (nI (j)))]) zy_X7_valueAt.2.2.2.2.2 (Nat.le_of_ble_eq_true rfl) rfl ?_
  refine z_aload_0 dX7_valueAt_0 ?_
  refine z_iload_1 dX7_valueAt_1 ?_
  refine Z.call0s (zRun.V (ρ := fun i => i) (k_m_signed tl j S hL hj) dX7_valueAt_2 zy_X7_signed zm_X7_185 rfl rfl rfl rfl (Nat.le_of_ble_eq_true rfl) (by decide) (by decide)) (zlen2 14 rfl rfl) ?_
  refine z_ifB_ne (tgt := 10) dX7_valueAt_5 (by decide) (fun c5 => ?_) (fun c5 => ?_)
  · refine z_aload_0 dX7_valueAt_10 ?_
    refine Z.call0n (zRun.V (ρ := fun i => i) (k_m_next tl ((g_m_signed tl j S).2) (lx_signed hL).tk) dX7_valueAt_11 zy_X7_next zm_X7_182 rfl rfl rfl rfl (Nat.le_of_ble_eq_true rfl) (by decide) (by decide)) (zlen2 14 rfl rfl) ?_
    refine z_iconst (v := 1) dX7_valueAt_14 rfl ?_
    rw [g_m_valueAt, if_pos c5]
    exact z_iret dX7_valueAt_15 rfl rfl rfl rfl
  · refine z_iconst (v := 0) dX7_valueAt_8 rfl ?_
    rw [g_m_valueAt, if_neg c5]
    exact z_iret dX7_valueAt_9 rfl rfl rfl rfl
noncomputable def s_m_range_1 (tl : Nat) (S : ZS) : ZS := (g_m_number tl 1 (((g_m_number tl 0 (0) ((S.2 0 (0)) - 1) S).2).2 12 (0)) ((((g_m_number tl 0 (0) ((S.2 0 (0)) - 1) S).2).2 0 (0)) - 1) ((g_m_number tl 0 (0) ((S.2 0 (0)) - 1) S).2)).2
noncomputable def g_m_range (tl : Nat) (S : ZS) : Bool × ZS := (if ((g_m_number tl 0 (0) ((S.2 0 (0)) - 1) S).1) = true then (if ((g_m_number tl 1 (((g_m_number tl 0 (0) ((S.2 0 (0)) - 1) S).2).2 12 (0)) ((((g_m_number tl 0 (0) ((S.2 0 (0)) - 1) S).2).2 0 (0)) - 1) ((g_m_number tl 0 (0) ((S.2 0 (0)) - 1) S).2)).1) = true then (true, (s_m_range_1 tl S)) else (false, (s_m_range_1 tl S))) else (false, (g_m_number tl 0 (0) ((S.2 0 (0)) - 1) S).2))
theorem k_m_range (tl : Nat) (S : ZS) (hL : mLx tl S) : zM sc yX7_range cX7_range 1 (some .boolean) 3 0 0 [.ref 0] (mh S) (.inl (some (.int (zb (g_m_range tl S).1)))) (mh (g_m_range tl S).2) := by
  refine zM.at (ls := [some (.ref 0)]) zy_X7_range.2.2.2.2.2 (Nat.le_of_ble_eq_true rfl) rfl ?_
  refine z_aload_0 dX7_range_0 ?_
  refine z_iconst (v := 0) dX7_range_1 rfl ?_
  refine z_iconst (v := 0) dX7_range_2 rfl ?_
  refine z_aload_0 dX7_range_3 ?_
  refine z_get (k := 0) (v := .ref 1) dX7_range_4 rfl rfl rfl (by decide) zf_X7_7 zw_in7 ?_
  refine z_iconst (v := 0) dX7_range_7 rfl ?_
  refine z_ialdN (k := 0) dX7_range_8 rfl (by first | omega | assumption) (by decide) ?_
  refine z_topi (w := S.2 0 (0)) rfl ?_
  refine z_iconst (v := 1) dX7_range_9 rfl ?_
  refine z_isub dX7_range_10 ?_
  refine Z.call0s (zRun.V (ρ := fun i => i) (k_m_number tl 0 (0) ((S.2 0 (0)) - 1) S hL (by decide)) dX7_range_11 zy_X7_number zm_X7_188 rfl rfl rfl rfl (Nat.le_of_ble_eq_true rfl) (by decide) (by decide)) (zlen2 14 rfl rfl) ?_
  refine z_ifB_eq (tgt := 43) dX7_range_14 (by decide) (fun c14 => ?_) (fun c14 => ?_)
  · refine z_iconst (v := 0) dX7_range_43 rfl ?_
    rw [g_m_range, if_neg c14]
    exact z_iret dX7_range_44 rfl rfl rfl rfl
  · refine z_aload_0 dX7_range_17 ?_
    refine z_iconst (v := 1) dX7_range_18 rfl ?_
    refine z_aload_0 dX7_range_19 ?_
    refine z_get (k := 28) (v := .ref 13) dX7_range_20 rfl rfl rfl (by decide) zf_X7_51 zw_in7 ?_
    refine z_iconst (v := 0) dX7_range_23 rfl ?_
    refine z_ialdN (k := 0) dX7_range_24 rfl (by first | omega | assumption) (by decide) ?_
    refine z_topi (w := ((g_m_number tl 0 (0) ((S.2 0 (0)) - 1) S).2).2 12 (0)) rfl ?_
    refine z_aload_0 dX7_range_25 ?_
    refine z_get (k := 0) (v := .ref 1) dX7_range_26 rfl rfl rfl (by decide) zf_X7_7 zw_in7 ?_
    refine z_iconst (v := 0) dX7_range_29 rfl ?_
    refine z_ialdN (k := 0) dX7_range_30 rfl (by first | omega | assumption) (by decide) ?_
    refine z_topi (w := ((g_m_number tl 0 (0) ((S.2 0 (0)) - 1) S).2).2 0 (0)) rfl ?_
    refine z_iconst (v := 1) dX7_range_31 rfl ?_
    refine z_isub dX7_range_32 ?_
    refine Z.call0s (zRun.V (ρ := fun i => i) (k_m_number tl 1 (((g_m_number tl 0 (0) ((S.2 0 (0)) - 1) S).2).2 12 (0)) ((((g_m_number tl 0 (0) ((S.2 0 (0)) - 1) S).2).2 0 (0)) - 1) ((g_m_number tl 0 (0) ((S.2 0 (0)) - 1) S).2) (lx_number hL) (by decide)) dX7_range_33 zy_X7_number zm_X7_188 rfl rfl rfl rfl (Nat.le_of_ble_eq_true rfl) (by decide) (by decide)) (zlen2 14 rfl rfl) ?_
    refine z_ifB_eq (tgt := 43) dX7_range_36 (by decide) (fun c36 => ?_) (fun c36 => ?_)
    · refine z_iconst (v := 0) dX7_range_43 rfl ?_
      rw [g_m_range, if_pos c14, if_neg c36]
      exact z_iret dX7_range_44 rfl rfl rfl rfl
    · refine z_iconst (v := 1) dX7_range_39 rfl ?_
      refine z_goto (tgt := 44) dX7_range_40 (by decide) ?_
      rw [g_m_range, if_pos c14, if_pos c36]
      exact z_iret dX7_range_44 rfl rfl rfl rfl
noncomputable def g_m_stops (can : Bool) (S : ZS) : Bool × ZS := (if ((g_m_is (1) S).1) = true then (if can = true then (true, S) else (false, (g_m_fail (4) S).2)) else (false, (g_m_is (1) S).2))
theorem k_m_stops (can : Bool) (S : ZS)  : zM sc yX7_stops cX7_stops 2 (some .boolean) 2 0 0 [.ref 0, .int (zb (can))] (mh S) (.inl (some (.int (zb (g_m_stops can S).1)))) (mh (g_m_stops can S).2) := by
  refine zM.at (ls := [some (.ref 0), some (.int (zb (can)))]) zy_X7_stops.2.2.2.2.2 (Nat.le_of_ble_eq_true rfl) rfl ?_
  refine z_aload_0 dX7_stops_0 ?_
  refine z_iconst (v := 1) dX7_stops_1 rfl ?_
  refine Z.call0s (zRun.V (ρ := fun i => i) (k_m_is (1) S ) dX7_stops_2 zy_X7_is zm_X7_179 rfl rfl rfl rfl (Nat.le_of_ble_eq_true rfl) (by decide) (by decide)) (zlen2 14 rfl rfl) ?_
  refine z_ifB_eq (tgt := 24) dX7_stops_5 (by decide) (fun c5 => ?_) (fun c5 => ?_)
  · refine z_iconst (v := 0) dX7_stops_24 rfl ?_
    rw [g_m_stops, if_neg c5]
    exact z_iret dX7_stops_25 rfl rfl rfl rfl
  · refine Z.heap (h2 := mh S) (by rw [is_t2 c5]) ?_
    refine z_iload_1 dX7_stops_8 ?_
    refine z_ifB_ne (tgt := 20) dX7_stops_9 (by decide) (fun c9 => ?_) (fun c9 => ?_)
    · refine z_iconst (v := 1) dX7_stops_20 rfl ?_
      refine z_goto (tgt := 25) dX7_stops_21 (by decide) ?_
      rw [g_m_stops, if_pos c5, if_pos c9]
      exact z_iret dX7_stops_25 rfl rfl rfl rfl
    · refine z_aload_0 dX7_stops_12 ?_
      refine z_iconst (v := 4) dX7_stops_13 rfl ?_
      refine Z.call0s (zRun.V (ρ := fun i => i) (k_m_fail (4) S ) dX7_stops_14 zy_X7_fail zm_X7_176 rfl rfl rfl rfl (Nat.le_of_ble_eq_true rfl) (by decide) (by decide)) (zlen2 14 rfl rfl) ?_
      refine z_topi (w := 0) (by rw [fail_1]; rfl) ?_
      refine z_if_eq_t (tgt := 24) dX7_stops_17 (by decide) (by decide) ?_
      refine z_iconst (v := 0) dX7_stops_24 rfl ?_
      rw [g_m_stops, if_pos c5, if_neg c9]
      exact z_iret dX7_stops_25 rfl rfl rfl rfl
