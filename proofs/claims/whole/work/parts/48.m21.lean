variable {sc : SC}

theorem zint (x : Int32) : narrow .int (.int x) = .int x := rfl
theorem isNone_ok {n f t : Nat} {S : ZS} (h1 : 1 ≤ n) (h40 : n ≤ 40) (hc : S.2 0 0 = nI n) (hft : f ≤ t) (ht : t < n) : g_m_isNone (nI f) (nI t) S = false := by
  have hn : nI n - 1 = nI (n - 1) := pk_sub (a := n) (b := 1) h1
  have e : ∀ i, i < n → g_m_isIndex (nI i) S = true := fun i hi => by
    rw [g_m_isIndex, hc, hn]
    exact m_in_t (a := 0) (Nat.zero_le _) (by omega) (by omega)
  rw [g_m_isNone, if_pos (e f (by omega)), if_pos (e t ht)]
theorem isIndex_ok {n i : Nat} {S : ZS} (h1 : 1 ≤ n) (h40 : n ≤ 40) (hc : S.2 0 0 = nI n) (hi : i < n) : g_m_isIndex (nI i) S = true := by
  have hn : nI n - 1 = nI (n - 1) := pk_sub (a := n) (b := 1) h1
  rw [g_m_isIndex, hc, hn]
  exact m_in_t (a := 0) (Nat.zero_le _) (by omega) (by omega)
noncomputable def g_m_tr_ok (_n : Nat) (_f : Nat) (_t : Nat) (S : ZS) : Bool × ZS := (false, (sI 15 (0) S))
theorem k_m_tr_ok (n : Nat) (f : Nat) (t : Nat) (S : ZS) (h1 : 1 ≤ n) (h40 : n ≤ 40) (hft : f ≤ t) (ht : t < n) (hO : mOK n S) : zM sc yX7_throwsRange cX7_throwsRange 3 (some .boolean) 3 0 0 [.ref 0, .int (nI (f)), .int (nI (t))] (mh S) (.inl (some (.int (zb (g_m_tr_ok n f t S).1)))) (mh (g_m_tr_ok n f t S).2) := by
  refine zM.at (ls := [some (.ref 0), some (.int (nI (f))), some (.int (nI (t)))]) zy_X7_throwsRange.2.2.2.2.2 (Nat.le_of_ble_eq_true rfl) rfl ?_
  refine z_aload_0 dX7_throwsRange_0 ?_
  refine z_aload_0 dX7_throwsRange_1 ?_
  refine z_iload_1 dX7_throwsRange_2 ?_
  refine z_iload_2 dX7_throwsRange_3 ?_
  refine Z.call0s (zRun.V (ρ := fun i => i) (k_m_isNone (nI (f)) (nI (t)) S ) dX7_throwsRange_4 zy_X7_isNone zm_X7_75 rfl rfl rfl rfl (Nat.le_of_ble_eq_true rfl) (by decide) (by decide)) (zlen2 14 rfl rfl) ?_
  refine z_topi (w := 0) (by rw [isNone_ok h1 h40 hO.1 hft ht]; rfl) ?_
  refine z_iload_2 dX7_throwsRange_7 ?_
  refine z_iload_1 dX7_throwsRange_8 ?_
  refine z_icmpN_ge_t (tgt := 16) dX7_throwsRange_9 (by decide) (x := t) (z := f) (by first | omega | assumption) (by first | omega | assumption) (by omega) ?_
  refine z_iconst (v := 0) dX7_throwsRange_16 rfl ?_
  refine Z.call0s (zRun.V (ρ := fun i => i) (k_m_throwsOne_ (false) (false) S ) dX7_throwsRange_17 zy_X7_throwsOne_ zm_X7_79 rfl rfl rfl rfl (Nat.le_of_ble_eq_true rfl) (by decide) (by decide)) (zlen2 14 rfl rfl) ?_
  refine Z.heap (h2 := mh (sI 15 (0) S)) rfl ?_
  refine z_topi (w := 0) rfl ?_
  rw [g_m_tr_ok]
  exact z_iret dX7_throwsRange_20 rfl rfl rfl rfl
noncomputable def g_m_tr_x1 (x : Int32) (z : Int32) (S : ZS) : Bool × ZS := (if x ≤ z then (true, (sI 15 (1) S)) else (true, (sI 15 (1) S)))
theorem k_m_tr_x1 (x : Int32) (z : Int32) (S : ZS) (hx : g_m_isNone x z S = true) : zM sc yX7_throwsRange cX7_throwsRange 3 (some .boolean) 3 0 0 [.ref 0, .int (x), .int (z)] (mh S) (.inl (some (.int (zb (g_m_tr_x1 x z S).1)))) (mh (g_m_tr_x1 x z S).2) := by
  refine zM.at (ls := [some (.ref 0), some (.int (x)), some (.int (z))]) zy_X7_throwsRange.2.2.2.2.2 (Nat.le_of_ble_eq_true rfl) rfl ?_
  refine z_aload_0 dX7_throwsRange_0 ?_
  refine z_aload_0 dX7_throwsRange_1 ?_
  refine z_iload_1 dX7_throwsRange_2 ?_
  refine z_iload_2 dX7_throwsRange_3 ?_
  refine Z.call0s (zRun.V (ρ := fun i => i) (k_m_isNone (x) (z) S ) dX7_throwsRange_4 zy_X7_isNone zm_X7_75 rfl rfl rfl rfl (Nat.le_of_ble_eq_true rfl) (by decide) (by decide)) (zlen2 14 rfl rfl) ?_
  refine z_topi (w := 1) (by rw [hx]; rfl) ?_
  refine z_iload_2 dX7_throwsRange_7 ?_
  refine z_iload_1 dX7_throwsRange_8 ?_
  refine z_icmp_ge (tgt := 16) dX7_throwsRange_9 (by decide) (fun c9 => ?_) (fun c9 => ?_)
  · refine z_iconst (v := 0) dX7_throwsRange_16 rfl ?_
    refine Z.call0s (zRun.V (ρ := fun i => i) (k_m_throwsOne_ (true) (false) S ) dX7_throwsRange_17 zy_X7_throwsOne_ zm_X7_79 rfl rfl rfl rfl (Nat.le_of_ble_eq_true rfl) (by decide) (by decide)) (zlen2 14 rfl rfl) ?_
    refine Z.heap (h2 := mh (sI 15 (1) S)) rfl ?_
    refine z_topi (w := 1) rfl ?_
    rw [g_m_tr_x1, if_pos c9]
    exact z_iret dX7_throwsRange_20 rfl rfl rfl rfl
  · refine z_iconst (v := 1) dX7_throwsRange_12 rfl ?_
    refine z_goto (tgt := 17) dX7_throwsRange_13 (by decide) ?_
    refine Z.call0s (zRun.V (ρ := fun i => i) (k_m_throwsOne_ (true) (true) S ) dX7_throwsRange_17 zy_X7_throwsOne_ zm_X7_79 rfl rfl rfl rfl (Nat.le_of_ble_eq_true rfl) (by decide) (by decide)) (zlen2 14 rfl rfl) ?_
    refine Z.heap (h2 := mh (sI 15 (1) S)) rfl ?_
    refine z_topi (w := 1) rfl ?_
    rw [g_m_tr_x1, if_neg c9]
    exact z_iret dX7_throwsRange_20 rfl rfl rfl rfl
noncomputable def g_m_tr_x2 (_x : Int32) (_z : Int32) (S : ZS) : Bool × ZS := (true, (sI 15 (2) S))
theorem k_m_tr_x2 (x : Int32) (z : Int32) (S : ZS) (hx : g_m_isNone x z S = false) (hz : z < x) : zM sc yX7_throwsRange cX7_throwsRange 3 (some .boolean) 3 0 0 [.ref 0, .int (x), .int (z)] (mh S) (.inl (some (.int (zb (g_m_tr_x2 x z S).1)))) (mh (g_m_tr_x2 x z S).2) := by
  refine zM.at (ls := [some (.ref 0), some (.int (x)), some (.int (z))]) zy_X7_throwsRange.2.2.2.2.2 (Nat.le_of_ble_eq_true rfl) rfl ?_
  refine z_aload_0 dX7_throwsRange_0 ?_
  refine z_aload_0 dX7_throwsRange_1 ?_
  refine z_iload_1 dX7_throwsRange_2 ?_
  refine z_iload_2 dX7_throwsRange_3 ?_
  refine Z.call0s (zRun.V (ρ := fun i => i) (k_m_isNone (x) (z) S ) dX7_throwsRange_4 zy_X7_isNone zm_X7_75 rfl rfl rfl rfl (Nat.le_of_ble_eq_true rfl) (by decide) (by decide)) (zlen2 14 rfl rfl) ?_
  refine z_topi (w := 0) (by rw [hx]; rfl) ?_
  refine z_iload_2 dX7_throwsRange_7 ?_
  refine z_iload_1 dX7_throwsRange_8 ?_
  refine z_icmp_ge_f (tgt := 16) dX7_throwsRange_9 (by decide) (Int32.not_le.mpr hz) ?_
  refine z_iconst (v := 1) dX7_throwsRange_12 rfl ?_
  refine z_goto (tgt := 17) dX7_throwsRange_13 (by decide) ?_
  refine Z.call0s (zRun.V (ρ := fun i => i) (k_m_throwsOne_ (false) (true) S ) dX7_throwsRange_17 zy_X7_throwsOne_ zm_X7_79 rfl rfl rfl rfl (Nat.le_of_ble_eq_true rfl) (by decide) (by decide)) (zlen2 14 rfl rfl) ?_
  refine Z.heap (h2 := mh (sI 15 (2) S)) rfl ?_
  refine z_topi (w := 1) rfl ?_
  rw [g_m_tr_x2]
  exact z_iret dX7_throwsRange_20 rfl rfl rfl rfl
theorem k_tr_x1 (x z : Int32) (S : ZS) (hx : g_m_isNone x z S = true) : zM sc yX7_throwsRange cX7_throwsRange 3 (some .boolean) 3 0 0 [.ref 0, .int x, .int z] (mh S) (.inl (some (.int 1))) (mh (sI 15 1 S)) := by
  have h := k_m_tr_x1 (sc := sc) x z S hx
  have e : g_m_tr_x1 x z S = (true, sI 15 1 S) := by
    rw [g_m_tr_x1]
    split <;> rfl
  rw [e] at h
  exact h
noncomputable def g_m_sum (n : Nat) (f : Nat) (t : Nat) (S : ZS) : Int64 × ZS := ((g_m_sumOf n f t (sI 15 (0) S)).1, (g_m_grows n (sI 15 (0) S)))
theorem k_m_sum (n : Nat) (f : Nat) (t : Nat) (S : ZS) (h1 : 1 ≤ n) (h40 : n ≤ 40) (hft : f ≤ t) (ht : t < n) (hO : mOK n S) : zM sc yX7_sum cX7_sum 3 (some .long) 4 0 0 [.ref 0, .int (nI (f)), .int (nI (t))] (mh S) (.inl (some (.long (g_m_sum n f t S).1))) (mh (g_m_sum n f t S).2) := by
  refine zM.at (ls := [some (.ref 0), some (.int (nI (f))), some (.int (nI (t)))]) zy_X7_sum.2.2.2.2.2 (Nat.le_of_ble_eq_true rfl) rfl ?_
  refine z_aload_0 dX7_sum_0 ?_
  refine z_iload_1 dX7_sum_1 ?_
  refine z_iload_2 dX7_sum_2 ?_
  refine Z.call0s (zRun.V (ρ := fun i => i) (k_m_tr_ok n f t S h1 h40 hft ht hO) dX7_sum_3 zy_X7_throwsRange zm_X7_301 rfl rfl rfl rfl (Nat.le_of_ble_eq_true rfl) (by decide) (by decide)) (zlen2 14 rfl rfl) ?_
  refine Z.heap (h2 := mh (sI 15 (0) S)) rfl ?_
  refine z_topi (w := 0) rfl ?_
  refine z_if_eq_t (tgt := 13) dX7_sum_6 (by decide) (by decide) ?_
  refine z_aload_0 dX7_sum_13 ?_
  refine z_iload_1 dX7_sum_14 ?_
  refine z_iload_2 dX7_sum_15 ?_
  refine Z.call0s (zRun.V (ρ := fun i => i) (k_m_sumOf n f t (sI 15 (0) S) h1 h40 hft ht (hO.sI (by decide))) dX7_sum_16 zy_X7_sumOf zm_X7_311 rfl rfl rfl rfl (Nat.le_of_ble_eq_true rfl) (by decide) (by decide)) (zlen2 14 rfl rfl) ?_
  refine Z.heap (h2 := mh (g_m_grows n (sI 15 (0) S))) (by rw [sumOf_2]) ?_
  rw [g_m_sum]
  exact z_lret dX7_sum_19 rfl rfl rfl
noncomputable def g_m_sum_x1 (_x : Int32) (_z : Int32) (S : ZS) : Int64 × ZS := (0, (sI 15 (1) S))
theorem k_m_sum_x1 (x : Int32) (z : Int32) (S : ZS) (hx : g_m_isNone x z S = true) : zM sc yX7_sum cX7_sum 3 (some .long) 4 0 0 [.ref 0, .int (x), .int (z)] (mh S) (.inl (some (.long (g_m_sum_x1 x z S).1))) (mh (g_m_sum_x1 x z S).2) := by
  refine zM.at (ls := [some (.ref 0), some (.int (x)), some (.int (z))]) zy_X7_sum.2.2.2.2.2 (Nat.le_of_ble_eq_true rfl) rfl ?_
  refine z_aload_0 dX7_sum_0 ?_
  refine z_iload_1 dX7_sum_1 ?_
  refine z_iload_2 dX7_sum_2 ?_
  refine Z.call0s (zRun.V (ρ := fun i => i) (k_tr_x1 (x) (z) S hx) dX7_sum_3 zy_X7_throwsRange zm_X7_301 rfl rfl rfl rfl (Nat.le_of_ble_eq_true rfl) (by decide) (by decide)) (zlen2 14 rfl rfl) ?_
  refine z_if_eq_f (tgt := 13) dX7_sum_6 (by decide) (by decide) ?_
  refine z_lconst (v := 0) dX7_sum_9 rfl ?_
  refine z_goto (tgt := 19) dX7_sum_10 (by decide) ?_
  rw [g_m_sum_x1]
  exact z_lret dX7_sum_19 rfl rfl rfl
noncomputable def g_m_sum_x2 (_x : Int32) (_z : Int32) (S : ZS) : Int64 × ZS := (0, (sI 15 (2) S))
theorem k_m_sum_x2 (x : Int32) (z : Int32) (S : ZS) (hx : g_m_isNone x z S = false) (hz : z < x) : zM sc yX7_sum cX7_sum 3 (some .long) 4 0 0 [.ref 0, .int (x), .int (z)] (mh S) (.inl (some (.long (g_m_sum_x2 x z S).1))) (mh (g_m_sum_x2 x z S).2) := by
  refine zM.at (ls := [some (.ref 0), some (.int (x)), some (.int (z))]) zy_X7_sum.2.2.2.2.2 (Nat.le_of_ble_eq_true rfl) rfl ?_
  refine z_aload_0 dX7_sum_0 ?_
  refine z_iload_1 dX7_sum_1 ?_
  refine z_iload_2 dX7_sum_2 ?_
  refine Z.call0s (zRun.V (ρ := fun i => i) (k_m_tr_x2 (x) (z) S hx hz) dX7_sum_3 zy_X7_throwsRange zm_X7_301 rfl rfl rfl rfl (Nat.le_of_ble_eq_true rfl) (by decide) (by decide)) (zlen2 14 rfl rfl) ?_
  refine Z.heap (h2 := mh (sI 15 (2) S)) rfl ?_
  refine z_topi (w := 1) rfl ?_
  refine z_if_eq_f (tgt := 13) dX7_sum_6 (by decide) (by decide) ?_
  refine z_lconst (v := 0) dX7_sum_9 rfl ?_
  refine z_goto (tgt := 19) dX7_sum_10 (by decide) ?_
  rw [g_m_sum_x2]
  exact z_lret dX7_sum_19 rfl rfl rfl
noncomputable def g_m_least (n : Nat) (f : Nat) (t : Nat) (S : ZS) : Int32 × ZS := ((g_m_leastOf n f t (sI 15 (0) S)).1, (g_m_grows n (sI 15 (0) S)))
theorem k_m_least (n : Nat) (f : Nat) (t : Nat) (S : ZS) (h1 : 1 ≤ n) (h40 : n ≤ 40) (hft : f ≤ t) (ht : t < n) (hO : mOK n S) : zM sc yX7_least cX7_least 3 (some .int) 4 0 0 [.ref 0, .int (nI (f)), .int (nI (t))] (mh S) (.inl (some (.int (g_m_least n f t S).1))) (mh (g_m_least n f t S).2) := by
  refine zM.at (ls := [some (.ref 0), some (.int (nI (f))), some (.int (nI (t)))]) zy_X7_least.2.2.2.2.2 (Nat.le_of_ble_eq_true rfl) rfl ?_
  refine z_aload_0 dX7_least_0 ?_
  refine z_iload_1 dX7_least_1 ?_
  refine z_iload_2 dX7_least_2 ?_
  refine Z.call0s (zRun.V (ρ := fun i => i) (k_m_tr_ok n f t S h1 h40 hft ht hO) dX7_least_3 zy_X7_throwsRange zm_X7_301 rfl rfl rfl rfl (Nat.le_of_ble_eq_true rfl) (by decide) (by decide)) (zlen2 14 rfl rfl) ?_
  refine Z.heap (h2 := mh (sI 15 (0) S)) rfl ?_
  refine z_topi (w := 0) rfl ?_
  refine z_if_eq_t (tgt := 13) dX7_least_6 (by decide) (by decide) ?_
  refine z_aload_0 dX7_least_13 ?_
  refine z_iload_1 dX7_least_14 ?_
  refine z_iload_2 dX7_least_15 ?_
  refine Z.call0s (zRun.V (ρ := fun i => i) (k_m_leastOf n f t (sI 15 (0) S) h1 h40 hft ht (hO.sI (by decide))) dX7_least_16 zy_X7_leastOf zm_X7_138 rfl rfl rfl rfl (Nat.le_of_ble_eq_true rfl) (by decide) (by decide)) (zlen2 14 rfl rfl) ?_
  refine Z.heap (h2 := mh (g_m_grows n (sI 15 (0) S))) (by rw [leastOf_2]) ?_
  rw [g_m_least]
  exact z_iret dX7_least_19 rfl (zint _) rfl rfl
noncomputable def g_m_least_x1 (_x : Int32) (_z : Int32) (S : ZS) : Int32 × ZS := (0, (sI 15 (1) S))
theorem k_m_least_x1 (x : Int32) (z : Int32) (S : ZS) (hx : g_m_isNone x z S = true) : zM sc yX7_least cX7_least 3 (some .int) 4 0 0 [.ref 0, .int (x), .int (z)] (mh S) (.inl (some (.int (g_m_least_x1 x z S).1))) (mh (g_m_least_x1 x z S).2) := by
  refine zM.at (ls := [some (.ref 0), some (.int (x)), some (.int (z))]) zy_X7_least.2.2.2.2.2 (Nat.le_of_ble_eq_true rfl) rfl ?_
  refine z_aload_0 dX7_least_0 ?_
  refine z_iload_1 dX7_least_1 ?_
  refine z_iload_2 dX7_least_2 ?_
  refine Z.call0s (zRun.V (ρ := fun i => i) (k_tr_x1 (x) (z) S hx) dX7_least_3 zy_X7_throwsRange zm_X7_301 rfl rfl rfl rfl (Nat.le_of_ble_eq_true rfl) (by decide) (by decide)) (zlen2 14 rfl rfl) ?_
  refine z_if_eq_f (tgt := 13) dX7_least_6 (by decide) (by decide) ?_
  refine z_iconst (v := 0) dX7_least_9 rfl ?_
  refine z_goto (tgt := 19) dX7_least_10 (by decide) ?_
  rw [g_m_least_x1]
  exact z_iret dX7_least_19 rfl (zint _) rfl rfl
noncomputable def g_m_least_x2 (_x : Int32) (_z : Int32) (S : ZS) : Int32 × ZS := (0, (sI 15 (2) S))
theorem k_m_least_x2 (x : Int32) (z : Int32) (S : ZS) (hx : g_m_isNone x z S = false) (hz : z < x) : zM sc yX7_least cX7_least 3 (some .int) 4 0 0 [.ref 0, .int (x), .int (z)] (mh S) (.inl (some (.int (g_m_least_x2 x z S).1))) (mh (g_m_least_x2 x z S).2) := by
  refine zM.at (ls := [some (.ref 0), some (.int (x)), some (.int (z))]) zy_X7_least.2.2.2.2.2 (Nat.le_of_ble_eq_true rfl) rfl ?_
  refine z_aload_0 dX7_least_0 ?_
  refine z_iload_1 dX7_least_1 ?_
  refine z_iload_2 dX7_least_2 ?_
  refine Z.call0s (zRun.V (ρ := fun i => i) (k_m_tr_x2 (x) (z) S hx hz) dX7_least_3 zy_X7_throwsRange zm_X7_301 rfl rfl rfl rfl (Nat.le_of_ble_eq_true rfl) (by decide) (by decide)) (zlen2 14 rfl rfl) ?_
  refine Z.heap (h2 := mh (sI 15 (2) S)) rfl ?_
  refine z_topi (w := 1) rfl ?_
  refine z_if_eq_f (tgt := 13) dX7_least_6 (by decide) (by decide) ?_
  refine z_iconst (v := 0) dX7_least_9 rfl ?_
  refine z_goto (tgt := 19) dX7_least_10 (by decide) ?_
  rw [g_m_least_x2]
  exact z_iret dX7_least_19 rfl (zint _) rfl rfl
noncomputable def g_m_greatest (n : Nat) (f : Nat) (t : Nat) (S : ZS) : Int32 × ZS := ((g_m_greatestOf n f t (sI 15 (0) S)).1, (g_m_grows n (sI 15 (0) S)))
theorem k_m_greatest (n : Nat) (f : Nat) (t : Nat) (S : ZS) (h1 : 1 ≤ n) (h40 : n ≤ 40) (hft : f ≤ t) (ht : t < n) (hO : mOK n S) : zM sc yX7_greatest cX7_greatest 3 (some .int) 4 0 0 [.ref 0, .int (nI (f)), .int (nI (t))] (mh S) (.inl (some (.int (g_m_greatest n f t S).1))) (mh (g_m_greatest n f t S).2) := by
  refine zM.at (ls := [some (.ref 0), some (.int (nI (f))), some (.int (nI (t)))]) zy_X7_greatest.2.2.2.2.2 (Nat.le_of_ble_eq_true rfl) rfl ?_
  refine z_aload_0 dX7_greatest_0 ?_
  refine z_iload_1 dX7_greatest_1 ?_
  refine z_iload_2 dX7_greatest_2 ?_
  refine Z.call0s (zRun.V (ρ := fun i => i) (k_m_tr_ok n f t S h1 h40 hft ht hO) dX7_greatest_3 zy_X7_throwsRange zm_X7_301 rfl rfl rfl rfl (Nat.le_of_ble_eq_true rfl) (by decide) (by decide)) (zlen2 14 rfl rfl) ?_
  refine Z.heap (h2 := mh (sI 15 (0) S)) rfl ?_
  refine z_topi (w := 0) rfl ?_
  refine z_if_eq_t (tgt := 13) dX7_greatest_6 (by decide) (by decide) ?_
  refine z_aload_0 dX7_greatest_13 ?_
  refine z_iload_1 dX7_greatest_14 ?_
  refine z_iload_2 dX7_greatest_15 ?_
  refine Z.call0s (zRun.V (ρ := fun i => i) (k_m_greatestOf n f t (sI 15 (0) S) h1 h40 hft ht (hO.sI (by decide))) dX7_greatest_16 zy_X7_greatestOf zm_X7_142 rfl rfl rfl rfl (Nat.le_of_ble_eq_true rfl) (by decide) (by decide)) (zlen2 14 rfl rfl) ?_
  refine Z.heap (h2 := mh (g_m_grows n (sI 15 (0) S))) (by rw [greatestOf_2]) ?_
  rw [g_m_greatest]
  exact z_iret dX7_greatest_19 rfl (zint _) rfl rfl
noncomputable def g_m_greatest_x1 (_x : Int32) (_z : Int32) (S : ZS) : Int32 × ZS := (0, (sI 15 (1) S))
theorem k_m_greatest_x1 (x : Int32) (z : Int32) (S : ZS) (hx : g_m_isNone x z S = true) : zM sc yX7_greatest cX7_greatest 3 (some .int) 4 0 0 [.ref 0, .int (x), .int (z)] (mh S) (.inl (some (.int (g_m_greatest_x1 x z S).1))) (mh (g_m_greatest_x1 x z S).2) := by
  refine zM.at (ls := [some (.ref 0), some (.int (x)), some (.int (z))]) zy_X7_greatest.2.2.2.2.2 (Nat.le_of_ble_eq_true rfl) rfl ?_
  refine z_aload_0 dX7_greatest_0 ?_
  refine z_iload_1 dX7_greatest_1 ?_
  refine z_iload_2 dX7_greatest_2 ?_
  refine Z.call0s (zRun.V (ρ := fun i => i) (k_tr_x1 (x) (z) S hx) dX7_greatest_3 zy_X7_throwsRange zm_X7_301 rfl rfl rfl rfl (Nat.le_of_ble_eq_true rfl) (by decide) (by decide)) (zlen2 14 rfl rfl) ?_
  refine z_if_eq_f (tgt := 13) dX7_greatest_6 (by decide) (by decide) ?_
  refine z_iconst (v := 0) dX7_greatest_9 rfl ?_
  refine z_goto (tgt := 19) dX7_greatest_10 (by decide) ?_
  rw [g_m_greatest_x1]
  exact z_iret dX7_greatest_19 rfl (zint _) rfl rfl
noncomputable def g_m_greatest_x2 (_x : Int32) (_z : Int32) (S : ZS) : Int32 × ZS := (0, (sI 15 (2) S))
theorem k_m_greatest_x2 (x : Int32) (z : Int32) (S : ZS) (hx : g_m_isNone x z S = false) (hz : z < x) : zM sc yX7_greatest cX7_greatest 3 (some .int) 4 0 0 [.ref 0, .int (x), .int (z)] (mh S) (.inl (some (.int (g_m_greatest_x2 x z S).1))) (mh (g_m_greatest_x2 x z S).2) := by
  refine zM.at (ls := [some (.ref 0), some (.int (x)), some (.int (z))]) zy_X7_greatest.2.2.2.2.2 (Nat.le_of_ble_eq_true rfl) rfl ?_
  refine z_aload_0 dX7_greatest_0 ?_
  refine z_iload_1 dX7_greatest_1 ?_
  refine z_iload_2 dX7_greatest_2 ?_
  refine Z.call0s (zRun.V (ρ := fun i => i) (k_m_tr_x2 (x) (z) S hx hz) dX7_greatest_3 zy_X7_throwsRange zm_X7_301 rfl rfl rfl rfl (Nat.le_of_ble_eq_true rfl) (by decide) (by decide)) (zlen2 14 rfl rfl) ?_
  refine Z.heap (h2 := mh (sI 15 (2) S)) rfl ?_
  refine z_topi (w := 1) rfl ?_
  refine z_if_eq_f (tgt := 13) dX7_greatest_6 (by decide) (by decide) ?_
  refine z_iconst (v := 0) dX7_greatest_9 rfl ?_
  refine z_goto (tgt := 19) dX7_greatest_10 (by decide) ?_
  rw [g_m_greatest_x2]
  exact z_iret dX7_greatest_19 rfl (zint _) rfl rfl
noncomputable def g_m_firstLeast (n : Nat) (f : Nat) (t : Nat) (S : ZS) : Int32 × ZS := ((g_m_firstOf n f t ((g_m_leastOf n f t (sI 15 (0) S)).1) (g_m_grows n (sI 15 (0) S))).1, (g_m_grows n (sI 15 (0) S)))
theorem k_m_firstLeast (n : Nat) (f : Nat) (t : Nat) (S : ZS) (h1 : 1 ≤ n) (h40 : n ≤ 40) (hft : f ≤ t) (ht : t < n) (hO : mOK n S) : zM sc yX7_firstLeast cX7_firstLeast 3 (some .int) 4 0 0 [.ref 0, .int (nI (f)), .int (nI (t))] (mh S) (.inl (some (.int (g_m_firstLeast n f t S).1))) (mh (g_m_firstLeast n f t S).2) := by
  refine zM.at (ls := [some (.ref 0), some (.int (nI (f))), some (.int (nI (t)))]) zy_X7_firstLeast.2.2.2.2.2 (Nat.le_of_ble_eq_true rfl) rfl ?_
  refine z_aload_0 dX7_firstLeast_0 ?_
  refine z_iload_1 dX7_firstLeast_1 ?_
  refine z_iload_2 dX7_firstLeast_2 ?_
  refine Z.call0s (zRun.V (ρ := fun i => i) (k_m_tr_ok n f t S h1 h40 hft ht hO) dX7_firstLeast_3 zy_X7_throwsRange zm_X7_301 rfl rfl rfl rfl (Nat.le_of_ble_eq_true rfl) (by decide) (by decide)) (zlen2 14 rfl rfl) ?_
  refine Z.heap (h2 := mh (sI 15 (0) S)) rfl ?_
  refine z_topi (w := 0) rfl ?_
  refine z_if_eq_t (tgt := 13) dX7_firstLeast_6 (by decide) (by decide) ?_
  refine z_aload_0 dX7_firstLeast_13 ?_
  refine z_iload_1 dX7_firstLeast_14 ?_
  refine z_iload_2 dX7_firstLeast_15 ?_
  refine z_aload_0 dX7_firstLeast_16 ?_
  refine z_iload_1 dX7_firstLeast_17 ?_
  refine z_iload_2 dX7_firstLeast_18 ?_
  refine Z.call0s (zRun.V (ρ := fun i => i) (k_m_leastOf n f t (sI 15 (0) S) h1 h40 hft ht (hO.sI (by decide))) dX7_firstLeast_19 zy_X7_leastOf zm_X7_138 rfl rfl rfl rfl (Nat.le_of_ble_eq_true rfl) (by decide) (by decide)) (zlen2 14 rfl rfl) ?_
  refine Z.heap (h2 := mh (g_m_grows n (sI 15 (0) S))) (by rw [leastOf_2]) ?_
  refine Z.call0s (zRun.V (ρ := fun i => i) (k_m_firstOf n f t ((g_m_leastOf n f t (sI 15 (0) S)).1) (g_m_grows n (sI 15 (0) S)) h1 h40 hft ht (mGr_of h1 h40 (hO.sI (by decide))).ok) dX7_firstLeast_22 zy_X7_firstOf zm_X7_315 rfl rfl rfl rfl (Nat.le_of_ble_eq_true rfl) (by decide) (by decide)) (zlen2 14 rfl rfl) ?_
  refine Z.heap (h2 := mh (g_m_grows n (sI 15 (0) S))) (by rw [firstOf_2, (mGr_of h1 h40 (hO.sI (by decide))).grows]) ?_
  rw [g_m_firstLeast]
  exact z_iret dX7_firstLeast_25 rfl (zint _) rfl rfl
noncomputable def g_m_firstLeast_x1 (_x : Int32) (_z : Int32) (S : ZS) : Int32 × ZS := (0, (sI 15 (1) S))
theorem k_m_firstLeast_x1 (x : Int32) (z : Int32) (S : ZS) (hx : g_m_isNone x z S = true) : zM sc yX7_firstLeast cX7_firstLeast 3 (some .int) 4 0 0 [.ref 0, .int (x), .int (z)] (mh S) (.inl (some (.int (g_m_firstLeast_x1 x z S).1))) (mh (g_m_firstLeast_x1 x z S).2) := by
  refine zM.at (ls := [some (.ref 0), some (.int (x)), some (.int (z))]) zy_X7_firstLeast.2.2.2.2.2 (Nat.le_of_ble_eq_true rfl) rfl ?_
  refine z_aload_0 dX7_firstLeast_0 ?_
  refine z_iload_1 dX7_firstLeast_1 ?_
  refine z_iload_2 dX7_firstLeast_2 ?_
  refine Z.call0s (zRun.V (ρ := fun i => i) (k_tr_x1 (x) (z) S hx) dX7_firstLeast_3 zy_X7_throwsRange zm_X7_301 rfl rfl rfl rfl (Nat.le_of_ble_eq_true rfl) (by decide) (by decide)) (zlen2 14 rfl rfl) ?_
  refine z_if_eq_f (tgt := 13) dX7_firstLeast_6 (by decide) (by decide) ?_
  refine z_iconst (v := 0) dX7_firstLeast_9 rfl ?_
  refine z_goto (tgt := 25) dX7_firstLeast_10 (by decide) ?_
  rw [g_m_firstLeast_x1]
  exact z_iret dX7_firstLeast_25 rfl (zint _) rfl rfl
noncomputable def g_m_firstLeast_x2 (_x : Int32) (_z : Int32) (S : ZS) : Int32 × ZS := (0, (sI 15 (2) S))
theorem k_m_firstLeast_x2 (x : Int32) (z : Int32) (S : ZS) (hx : g_m_isNone x z S = false) (hz : z < x) : zM sc yX7_firstLeast cX7_firstLeast 3 (some .int) 4 0 0 [.ref 0, .int (x), .int (z)] (mh S) (.inl (some (.int (g_m_firstLeast_x2 x z S).1))) (mh (g_m_firstLeast_x2 x z S).2) := by
  refine zM.at (ls := [some (.ref 0), some (.int (x)), some (.int (z))]) zy_X7_firstLeast.2.2.2.2.2 (Nat.le_of_ble_eq_true rfl) rfl ?_
  refine z_aload_0 dX7_firstLeast_0 ?_
  refine z_iload_1 dX7_firstLeast_1 ?_
  refine z_iload_2 dX7_firstLeast_2 ?_
  refine Z.call0s (zRun.V (ρ := fun i => i) (k_m_tr_x2 (x) (z) S hx hz) dX7_firstLeast_3 zy_X7_throwsRange zm_X7_301 rfl rfl rfl rfl (Nat.le_of_ble_eq_true rfl) (by decide) (by decide)) (zlen2 14 rfl rfl) ?_
  refine Z.heap (h2 := mh (sI 15 (2) S)) rfl ?_
  refine z_topi (w := 1) rfl ?_
  refine z_if_eq_f (tgt := 13) dX7_firstLeast_6 (by decide) (by decide) ?_
  refine z_iconst (v := 0) dX7_firstLeast_9 rfl ?_
  refine z_goto (tgt := 25) dX7_firstLeast_10 (by decide) ?_
  rw [g_m_firstLeast_x2]
  exact z_iret dX7_firstLeast_25 rfl (zint _) rfl rfl
noncomputable def s_m_firstGreatest_1 (n : Nat) (f : Nat) (t : Nat) (S : ZS) : ZS := (g_m_firstOf n f t ((g_m_greatestOf n f t (sI 15 (0) S)).1) (g_m_grows n (sI 15 (0) S))).2
noncomputable def g_m_firstGreatest (n : Nat) (f : Nat) (t : Nat) (S : ZS) : Int32 × ZS := ((g_m_firstOf n f t ((g_m_greatestOf n f t (sI 15 (0) S)).1) (g_m_grows n (sI 15 (0) S))).1, (g_m_grows n (sI 15 (0) S)))
theorem k_m_firstGreatest (n : Nat) (f : Nat) (t : Nat) (S : ZS) (h1 : 1 ≤ n) (h40 : n ≤ 40) (hft : f ≤ t) (ht : t < n) (hO : mOK n S) : zM sc yX7_firstGreatest cX7_firstGreatest 3 (some .int) 4 0 0 [.ref 0, .int (nI (f)), .int (nI (t))] (mh S) (.inl (some (.int (g_m_firstGreatest n f t S).1))) (mh (g_m_firstGreatest n f t S).2) := by
  refine zM.at (ls := [some (.ref 0), some (.int (nI (f))), some (.int (nI (t)))]) zy_X7_firstGreatest.2.2.2.2.2 (Nat.le_of_ble_eq_true rfl) rfl ?_
  refine z_aload_0 dX7_firstGreatest_0 ?_
  refine z_iload_1 dX7_firstGreatest_1 ?_
  refine z_iload_2 dX7_firstGreatest_2 ?_
  refine Z.call0s (zRun.V (ρ := fun i => i) (k_m_tr_ok n f t S h1 h40 hft ht hO) dX7_firstGreatest_3 zy_X7_throwsRange zm_X7_301 rfl rfl rfl rfl (Nat.le_of_ble_eq_true rfl) (by decide) (by decide)) (zlen2 14 rfl rfl) ?_
  refine Z.heap (h2 := mh (sI 15 (0) S)) rfl ?_
  refine z_topi (w := 0) rfl ?_
  refine z_if_eq_t (tgt := 13) dX7_firstGreatest_6 (by decide) (by decide) ?_
  refine z_aload_0 dX7_firstGreatest_13 ?_
  refine z_iload_1 dX7_firstGreatest_14 ?_
  refine z_iload_2 dX7_firstGreatest_15 ?_
  refine z_aload_0 dX7_firstGreatest_16 ?_
  refine z_iload_1 dX7_firstGreatest_17 ?_
  refine z_iload_2 dX7_firstGreatest_18 ?_
  refine Z.call0s (zRun.V (ρ := fun i => i) (k_m_greatestOf n f t (sI 15 (0) S) h1 h40 hft ht (hO.sI (by decide))) dX7_firstGreatest_19 zy_X7_greatestOf zm_X7_142 rfl rfl rfl rfl (Nat.le_of_ble_eq_true rfl) (by decide) (by decide)) (zlen2 14 rfl rfl) ?_
  refine Z.heap (h2 := mh (g_m_grows n (sI 15 (0) S))) (by rw [greatestOf_2]) ?_
  refine Z.call0s (zRun.V (ρ := fun i => i) (k_m_firstOf n f t ((g_m_greatestOf n f t (sI 15 (0) S)).1) (g_m_grows n (sI 15 (0) S)) h1 h40 hft ht (mGr_of h1 h40 (hO.sI (by decide))).ok) dX7_firstGreatest_22 zy_X7_firstOf zm_X7_315 rfl rfl rfl rfl (Nat.le_of_ble_eq_true rfl) (by decide) (by decide)) (zlen2 14 rfl rfl) ?_
  refine Z.heap (h2 := mh (g_m_grows n (sI 15 (0) S))) (by rw [firstOf_2, (mGr_of h1 h40 (hO.sI (by decide))).grows]) ?_
  rw [g_m_firstGreatest]
  exact z_iret dX7_firstGreatest_25 rfl (zint _) rfl rfl
noncomputable def g_m_firstGreatest_x1 (_x : Int32) (_z : Int32) (S : ZS) : Int32 × ZS := (0, (sI 15 (1) S))
theorem k_m_firstGreatest_x1 (x : Int32) (z : Int32) (S : ZS) (hx : g_m_isNone x z S = true) : zM sc yX7_firstGreatest cX7_firstGreatest 3 (some .int) 4 0 0 [.ref 0, .int (x), .int (z)] (mh S) (.inl (some (.int (g_m_firstGreatest_x1 x z S).1))) (mh (g_m_firstGreatest_x1 x z S).2) := by
  refine zM.at (ls := [some (.ref 0), some (.int (x)), some (.int (z))]) zy_X7_firstGreatest.2.2.2.2.2 (Nat.le_of_ble_eq_true rfl) rfl ?_
  refine z_aload_0 dX7_firstGreatest_0 ?_
  refine z_iload_1 dX7_firstGreatest_1 ?_
  refine z_iload_2 dX7_firstGreatest_2 ?_
  refine Z.call0s (zRun.V (ρ := fun i => i) (k_tr_x1 (x) (z) S hx) dX7_firstGreatest_3 zy_X7_throwsRange zm_X7_301 rfl rfl rfl rfl (Nat.le_of_ble_eq_true rfl) (by decide) (by decide)) (zlen2 14 rfl rfl) ?_
  refine z_if_eq_f (tgt := 13) dX7_firstGreatest_6 (by decide) (by decide) ?_
  refine z_iconst (v := 0) dX7_firstGreatest_9 rfl ?_
  refine z_goto (tgt := 25) dX7_firstGreatest_10 (by decide) ?_
  rw [g_m_firstGreatest_x1]
  exact z_iret dX7_firstGreatest_25 rfl (zint _) rfl rfl
noncomputable def g_m_firstGreatest_x2 (_x : Int32) (_z : Int32) (S : ZS) : Int32 × ZS := (0, (sI 15 (2) S))
theorem k_m_firstGreatest_x2 (x : Int32) (z : Int32) (S : ZS) (hx : g_m_isNone x z S = false) (hz : z < x) : zM sc yX7_firstGreatest cX7_firstGreatest 3 (some .int) 4 0 0 [.ref 0, .int (x), .int (z)] (mh S) (.inl (some (.int (g_m_firstGreatest_x2 x z S).1))) (mh (g_m_firstGreatest_x2 x z S).2) := by
  refine zM.at (ls := [some (.ref 0), some (.int (x)), some (.int (z))]) zy_X7_firstGreatest.2.2.2.2.2 (Nat.le_of_ble_eq_true rfl) rfl ?_
  refine z_aload_0 dX7_firstGreatest_0 ?_
  refine z_iload_1 dX7_firstGreatest_1 ?_
  refine z_iload_2 dX7_firstGreatest_2 ?_
  refine Z.call0s (zRun.V (ρ := fun i => i) (k_m_tr_x2 (x) (z) S hx hz) dX7_firstGreatest_3 zy_X7_throwsRange zm_X7_301 rfl rfl rfl rfl (Nat.le_of_ble_eq_true rfl) (by decide) (by decide)) (zlen2 14 rfl rfl) ?_
  refine Z.heap (h2 := mh (sI 15 (2) S)) rfl ?_
  refine z_topi (w := 1) rfl ?_
  refine z_if_eq_f (tgt := 13) dX7_firstGreatest_6 (by decide) (by decide) ?_
  refine z_iconst (v := 0) dX7_firstGreatest_9 rfl ?_
  refine z_goto (tgt := 25) dX7_firstGreatest_10 (by decide) ?_
  rw [g_m_firstGreatest_x2]
  exact z_iret dX7_firstGreatest_25 rfl (zint _) rfl rfl
noncomputable def g_m_leastCount (n : Nat) (f : Nat) (t : Nat) (S : ZS) : Nat × ZS := ((g_m_many n f t ((g_m_leastOf n f t (sI 15 (0) S)).1) (g_m_grows n (sI 15 (0) S))).1, (g_m_grows n (sI 15 (0) S)))
theorem k_m_leastCount (n : Nat) (f : Nat) (t : Nat) (S : ZS) (h1 : 1 ≤ n) (h40 : n ≤ 40) (hft : f ≤ t) (ht : t < n) (hO : mOK n S) : zM sc yX7_leastCount cX7_leastCount 3 (some .int) 4 0 0 [.ref 0, .int (nI (f)), .int (nI (t))] (mh S) (.inl (some (.int (nI (g_m_leastCount n f t S).1)))) (mh (g_m_leastCount n f t S).2) := by
  refine zM.at (ls := [some (.ref 0), some (.int (nI (f))), some (.int (nI (t)))]) zy_X7_leastCount.2.2.2.2.2 (Nat.le_of_ble_eq_true rfl) rfl ?_
  refine z_aload_0 dX7_leastCount_0 ?_
  refine z_iload_1 dX7_leastCount_1 ?_
  refine z_iload_2 dX7_leastCount_2 ?_
  refine Z.call0s (zRun.V (ρ := fun i => i) (k_m_tr_ok n f t S h1 h40 hft ht hO) dX7_leastCount_3 zy_X7_throwsRange zm_X7_301 rfl rfl rfl rfl (Nat.le_of_ble_eq_true rfl) (by decide) (by decide)) (zlen2 14 rfl rfl) ?_
  refine Z.heap (h2 := mh (sI 15 (0) S)) rfl ?_
  refine z_topi (w := 0) rfl ?_
  refine z_if_eq_t (tgt := 13) dX7_leastCount_6 (by decide) (by decide) ?_
  refine z_aload_0 dX7_leastCount_13 ?_
  refine z_iload_1 dX7_leastCount_14 ?_
  refine z_iload_2 dX7_leastCount_15 ?_
  refine z_aload_0 dX7_leastCount_16 ?_
  refine z_iload_1 dX7_leastCount_17 ?_
  refine z_iload_2 dX7_leastCount_18 ?_
  refine Z.call0s (zRun.V (ρ := fun i => i) (k_m_leastOf n f t (sI 15 (0) S) h1 h40 hft ht (hO.sI (by decide))) dX7_leastCount_19 zy_X7_leastOf zm_X7_138 rfl rfl rfl rfl (Nat.le_of_ble_eq_true rfl) (by decide) (by decide)) (zlen2 14 rfl rfl) ?_
  refine Z.heap (h2 := mh (g_m_grows n (sI 15 (0) S))) (by rw [leastOf_2]) ?_
  refine Z.call0s (zRun.V (ρ := fun i => i) (k_m_many n f t ((g_m_leastOf n f t (sI 15 (0) S)).1) (g_m_grows n (sI 15 (0) S)) h1 h40 hft ht (mGr_of h1 h40 (hO.sI (by decide))).ok) dX7_leastCount_22 zy_X7_many zm_X7_319 rfl rfl rfl rfl (Nat.le_of_ble_eq_true rfl) (by decide) (by decide)) (zlen2 14 rfl rfl) ?_
  refine Z.heap (h2 := mh (g_m_grows n (sI 15 (0) S))) (by rw [many_2, (mGr_of h1 h40 (hO.sI (by decide))).grows]) ?_
  rw [g_m_leastCount]
  exact z_iret dX7_leastCount_25 rfl (zint _) rfl rfl
noncomputable def g_m_leastCount_x1 (_x : Int32) (_z : Int32) (S : ZS) : Int32 × ZS := (0, (sI 15 (1) S))
theorem k_m_leastCount_x1 (x : Int32) (z : Int32) (S : ZS) (hx : g_m_isNone x z S = true) : zM sc yX7_leastCount cX7_leastCount 3 (some .int) 4 0 0 [.ref 0, .int (x), .int (z)] (mh S) (.inl (some (.int (g_m_leastCount_x1 x z S).1))) (mh (g_m_leastCount_x1 x z S).2) := by
  refine zM.at (ls := [some (.ref 0), some (.int (x)), some (.int (z))]) zy_X7_leastCount.2.2.2.2.2 (Nat.le_of_ble_eq_true rfl) rfl ?_
  refine z_aload_0 dX7_leastCount_0 ?_
  refine z_iload_1 dX7_leastCount_1 ?_
  refine z_iload_2 dX7_leastCount_2 ?_
  refine Z.call0s (zRun.V (ρ := fun i => i) (k_tr_x1 (x) (z) S hx) dX7_leastCount_3 zy_X7_throwsRange zm_X7_301 rfl rfl rfl rfl (Nat.le_of_ble_eq_true rfl) (by decide) (by decide)) (zlen2 14 rfl rfl) ?_
  refine z_if_eq_f (tgt := 13) dX7_leastCount_6 (by decide) (by decide) ?_
  refine z_iconst (v := 0) dX7_leastCount_9 rfl ?_
  refine z_goto (tgt := 25) dX7_leastCount_10 (by decide) ?_
  rw [g_m_leastCount_x1]
  exact z_iret dX7_leastCount_25 rfl (zint _) rfl rfl
noncomputable def g_m_leastCount_x2 (_x : Int32) (_z : Int32) (S : ZS) : Int32 × ZS := (0, (sI 15 (2) S))
theorem k_m_leastCount_x2 (x : Int32) (z : Int32) (S : ZS) (hx : g_m_isNone x z S = false) (hz : z < x) : zM sc yX7_leastCount cX7_leastCount 3 (some .int) 4 0 0 [.ref 0, .int (x), .int (z)] (mh S) (.inl (some (.int (g_m_leastCount_x2 x z S).1))) (mh (g_m_leastCount_x2 x z S).2) := by
  refine zM.at (ls := [some (.ref 0), some (.int (x)), some (.int (z))]) zy_X7_leastCount.2.2.2.2.2 (Nat.le_of_ble_eq_true rfl) rfl ?_
  refine z_aload_0 dX7_leastCount_0 ?_
  refine z_iload_1 dX7_leastCount_1 ?_
  refine z_iload_2 dX7_leastCount_2 ?_
  refine Z.call0s (zRun.V (ρ := fun i => i) (k_m_tr_x2 (x) (z) S hx hz) dX7_leastCount_3 zy_X7_throwsRange zm_X7_301 rfl rfl rfl rfl (Nat.le_of_ble_eq_true rfl) (by decide) (by decide)) (zlen2 14 rfl rfl) ?_
  refine Z.heap (h2 := mh (sI 15 (2) S)) rfl ?_
  refine z_topi (w := 1) rfl ?_
  refine z_if_eq_f (tgt := 13) dX7_leastCount_6 (by decide) (by decide) ?_
  refine z_iconst (v := 0) dX7_leastCount_9 rfl ?_
  refine z_goto (tgt := 25) dX7_leastCount_10 (by decide) ?_
  rw [g_m_leastCount_x2]
  exact z_iret dX7_leastCount_25 rfl (zint _) rfl rfl
noncomputable def g_m_greatestCount (n : Nat) (f : Nat) (t : Nat) (S : ZS) : Nat × ZS := ((g_m_many n f t ((g_m_greatestOf n f t (sI 15 (0) S)).1) (g_m_grows n (sI 15 (0) S))).1, (g_m_grows n (sI 15 (0) S)))
theorem k_m_greatestCount (n : Nat) (f : Nat) (t : Nat) (S : ZS) (h1 : 1 ≤ n) (h40 : n ≤ 40) (hft : f ≤ t) (ht : t < n) (hO : mOK n S) : zM sc yX7_greatestCount cX7_greatestCount 3 (some .int) 4 0 0 [.ref 0, .int (nI (f)), .int (nI (t))] (mh S) (.inl (some (.int (nI (g_m_greatestCount n f t S).1)))) (mh (g_m_greatestCount n f t S).2) := by
  refine zM.at (ls := [some (.ref 0), some (.int (nI (f))), some (.int (nI (t)))]) zy_X7_greatestCount.2.2.2.2.2 (Nat.le_of_ble_eq_true rfl) rfl ?_
  refine z_aload_0 dX7_greatestCount_0 ?_
  refine z_iload_1 dX7_greatestCount_1 ?_
  refine z_iload_2 dX7_greatestCount_2 ?_
  refine Z.call0s (zRun.V (ρ := fun i => i) (k_m_tr_ok n f t S h1 h40 hft ht hO) dX7_greatestCount_3 zy_X7_throwsRange zm_X7_301 rfl rfl rfl rfl (Nat.le_of_ble_eq_true rfl) (by decide) (by decide)) (zlen2 14 rfl rfl) ?_
  refine Z.heap (h2 := mh (sI 15 (0) S)) rfl ?_
  refine z_topi (w := 0) rfl ?_
  refine z_if_eq_t (tgt := 13) dX7_greatestCount_6 (by decide) (by decide) ?_
  refine z_aload_0 dX7_greatestCount_13 ?_
  refine z_iload_1 dX7_greatestCount_14 ?_
  refine z_iload_2 dX7_greatestCount_15 ?_
  refine z_aload_0 dX7_greatestCount_16 ?_
  refine z_iload_1 dX7_greatestCount_17 ?_
  refine z_iload_2 dX7_greatestCount_18 ?_
  refine Z.call0s (zRun.V (ρ := fun i => i) (k_m_greatestOf n f t (sI 15 (0) S) h1 h40 hft ht (hO.sI (by decide))) dX7_greatestCount_19 zy_X7_greatestOf zm_X7_142 rfl rfl rfl rfl (Nat.le_of_ble_eq_true rfl) (by decide) (by decide)) (zlen2 14 rfl rfl) ?_
  refine Z.heap (h2 := mh (g_m_grows n (sI 15 (0) S))) (by rw [greatestOf_2]) ?_
  refine Z.call0s (zRun.V (ρ := fun i => i) (k_m_many n f t ((g_m_greatestOf n f t (sI 15 (0) S)).1) (g_m_grows n (sI 15 (0) S)) h1 h40 hft ht (mGr_of h1 h40 (hO.sI (by decide))).ok) dX7_greatestCount_22 zy_X7_many zm_X7_319 rfl rfl rfl rfl (Nat.le_of_ble_eq_true rfl) (by decide) (by decide)) (zlen2 14 rfl rfl) ?_
  refine Z.heap (h2 := mh (g_m_grows n (sI 15 (0) S))) (by rw [many_2, (mGr_of h1 h40 (hO.sI (by decide))).grows]) ?_
  rw [g_m_greatestCount]
  exact z_iret dX7_greatestCount_25 rfl (zint _) rfl rfl
noncomputable def g_m_greatestCount_x1 (_x : Int32) (_z : Int32) (S : ZS) : Int32 × ZS := (0, (sI 15 (1) S))
theorem k_m_greatestCount_x1 (x : Int32) (z : Int32) (S : ZS) (hx : g_m_isNone x z S = true) : zM sc yX7_greatestCount cX7_greatestCount 3 (some .int) 4 0 0 [.ref 0, .int (x), .int (z)] (mh S) (.inl (some (.int (g_m_greatestCount_x1 x z S).1))) (mh (g_m_greatestCount_x1 x z S).2) := by
  refine zM.at (ls := [some (.ref 0), some (.int (x)), some (.int (z))]) zy_X7_greatestCount.2.2.2.2.2 (Nat.le_of_ble_eq_true rfl) rfl ?_
  refine z_aload_0 dX7_greatestCount_0 ?_
  refine z_iload_1 dX7_greatestCount_1 ?_
  refine z_iload_2 dX7_greatestCount_2 ?_
  refine Z.call0s (zRun.V (ρ := fun i => i) (k_tr_x1 (x) (z) S hx) dX7_greatestCount_3 zy_X7_throwsRange zm_X7_301 rfl rfl rfl rfl (Nat.le_of_ble_eq_true rfl) (by decide) (by decide)) (zlen2 14 rfl rfl) ?_
  refine z_if_eq_f (tgt := 13) dX7_greatestCount_6 (by decide) (by decide) ?_
  refine z_iconst (v := 0) dX7_greatestCount_9 rfl ?_
  refine z_goto (tgt := 25) dX7_greatestCount_10 (by decide) ?_
  rw [g_m_greatestCount_x1]
  exact z_iret dX7_greatestCount_25 rfl (zint _) rfl rfl
noncomputable def g_m_greatestCount_x2 (_x : Int32) (_z : Int32) (S : ZS) : Int32 × ZS := (0, (sI 15 (2) S))
theorem k_m_greatestCount_x2 (x : Int32) (z : Int32) (S : ZS) (hx : g_m_isNone x z S = false) (hz : z < x) : zM sc yX7_greatestCount cX7_greatestCount 3 (some .int) 4 0 0 [.ref 0, .int (x), .int (z)] (mh S) (.inl (some (.int (g_m_greatestCount_x2 x z S).1))) (mh (g_m_greatestCount_x2 x z S).2) := by
  refine zM.at (ls := [some (.ref 0), some (.int (x)), some (.int (z))]) zy_X7_greatestCount.2.2.2.2.2 (Nat.le_of_ble_eq_true rfl) rfl ?_
  refine z_aload_0 dX7_greatestCount_0 ?_
  refine z_iload_1 dX7_greatestCount_1 ?_
  refine z_iload_2 dX7_greatestCount_2 ?_
  refine Z.call0s (zRun.V (ρ := fun i => i) (k_m_tr_x2 (x) (z) S hx hz) dX7_greatestCount_3 zy_X7_throwsRange zm_X7_301 rfl rfl rfl rfl (Nat.le_of_ble_eq_true rfl) (by decide) (by decide)) (zlen2 14 rfl rfl) ?_
  refine Z.heap (h2 := mh (sI 15 (2) S)) rfl ?_
  refine z_topi (w := 1) rfl ?_
  refine z_if_eq_f (tgt := 13) dX7_greatestCount_6 (by decide) (by decide) ?_
  refine z_iconst (v := 0) dX7_greatestCount_9 rfl ?_
  refine z_goto (tgt := 25) dX7_greatestCount_10 (by decide) ?_
  rw [g_m_greatestCount_x2]
  exact z_iret dX7_greatestCount_25 rfl (zint _) rfl rfl
noncomputable def g_m_greatestAddition (n : Nat) (f : Nat) (t : Nat) (S : ZS) : Int32 × ZS := (zmin (9999) (1000000 - ((g_m_greatestOf n f t (sI 15 (0) S)).1)), (g_m_grows n (sI 15 (0) S)))
theorem k_m_greatestAddition (n : Nat) (f : Nat) (t : Nat) (S : ZS) (h1 : 1 ≤ n) (h40 : n ≤ 40) (hft : f ≤ t) (ht : t < n) (hO : mOK n S) : zM sc yX7_greatestAddition cX7_greatestAddition 3 (some .int) 4 0 0 [.ref 0, .int (nI (f)), .int (nI (t))] (mh S) (.inl (some (.int (g_m_greatestAddition n f t S).1))) (mh (g_m_greatestAddition n f t S).2) := by
  refine zM.at (ls := [some (.ref 0), some (.int (nI (f))), some (.int (nI (t)))]) zy_X7_greatestAddition.2.2.2.2.2 (Nat.le_of_ble_eq_true rfl) rfl ?_
  refine z_aload_0 dX7_greatestAddition_0 ?_
  refine z_iload_1 dX7_greatestAddition_1 ?_
  refine z_iload_2 dX7_greatestAddition_2 ?_
  refine Z.call0s (zRun.V (ρ := fun i => i) (k_m_tr_ok n f t S h1 h40 hft ht hO) dX7_greatestAddition_3 zy_X7_throwsRange zm_X7_301 rfl rfl rfl rfl (Nat.le_of_ble_eq_true rfl) (by decide) (by decide)) (zlen2 14 rfl rfl) ?_
  refine Z.heap (h2 := mh (sI 15 (0) S)) rfl ?_
  refine z_topi (w := 0) rfl ?_
  refine z_if_eq_t (tgt := 13) dX7_greatestAddition_6 (by decide) (by decide) ?_
  refine z_sipush (v := 9999) dX7_greatestAddition_13 rfl ?_
  refine z_ldc (v := 1000000) dX7_greatestAddition_16 zk_X7_145 ?_
  refine z_aload_0 dX7_greatestAddition_18 ?_
  refine z_iload_1 dX7_greatestAddition_19 ?_
  refine z_iload_2 dX7_greatestAddition_20 ?_
  refine Z.call0s (zRun.V (ρ := fun i => i) (k_m_greatestOf n f t (sI 15 (0) S) h1 h40 hft ht (hO.sI (by decide))) dX7_greatestAddition_21 zy_X7_greatestOf zm_X7_142 rfl rfl rfl rfl (Nat.le_of_ble_eq_true rfl) (by decide) (by decide)) (zlen2 14 rfl rfl) ?_
  refine Z.heap (h2 := mh (g_m_grows n (sI 15 (0) S))) (by rw [greatestOf_2]) ?_
  refine z_isub dX7_greatestAddition_24 ?_
  refine z_mn dX7_greatestAddition_25 zm_X7_130 (by decide) (Nat.le_of_ble_eq_true rfl) ?_
  refine z_topi (w := zmin (9999) (1000000 - ((g_m_greatestOf n f t (sI 15 (0) S)).1))) rfl ?_
  rw [g_m_greatestAddition]
  try dsimp only
  exact z_iret dX7_greatestAddition_28 rfl (zint _) rfl rfl
noncomputable def g_m_greatestAddition_x1 (_x : Int32) (_z : Int32) (S : ZS) : Int32 × ZS := (0, (sI 15 (1) S))
theorem k_m_greatestAddition_x1 (x : Int32) (z : Int32) (S : ZS) (hx : g_m_isNone x z S = true) : zM sc yX7_greatestAddition cX7_greatestAddition 3 (some .int) 4 0 0 [.ref 0, .int (x), .int (z)] (mh S) (.inl (some (.int (g_m_greatestAddition_x1 x z S).1))) (mh (g_m_greatestAddition_x1 x z S).2) := by
  refine zM.at (ls := [some (.ref 0), some (.int (x)), some (.int (z))]) zy_X7_greatestAddition.2.2.2.2.2 (Nat.le_of_ble_eq_true rfl) rfl ?_
  refine z_aload_0 dX7_greatestAddition_0 ?_
  refine z_iload_1 dX7_greatestAddition_1 ?_
  refine z_iload_2 dX7_greatestAddition_2 ?_
  refine Z.call0s (zRun.V (ρ := fun i => i) (k_tr_x1 (x) (z) S hx) dX7_greatestAddition_3 zy_X7_throwsRange zm_X7_301 rfl rfl rfl rfl (Nat.le_of_ble_eq_true rfl) (by decide) (by decide)) (zlen2 14 rfl rfl) ?_
  refine z_if_eq_f (tgt := 13) dX7_greatestAddition_6 (by decide) (by decide) ?_
  refine z_iconst (v := 0) dX7_greatestAddition_9 rfl ?_
  refine z_goto (tgt := 28) dX7_greatestAddition_10 (by decide) ?_
  rw [g_m_greatestAddition_x1]
  exact z_iret dX7_greatestAddition_28 rfl (zint _) rfl rfl
noncomputable def g_m_greatestAddition_x2 (_x : Int32) (_z : Int32) (S : ZS) : Int32 × ZS := (0, (sI 15 (2) S))
theorem k_m_greatestAddition_x2 (x : Int32) (z : Int32) (S : ZS) (hx : g_m_isNone x z S = false) (hz : z < x) : zM sc yX7_greatestAddition cX7_greatestAddition 3 (some .int) 4 0 0 [.ref 0, .int (x), .int (z)] (mh S) (.inl (some (.int (g_m_greatestAddition_x2 x z S).1))) (mh (g_m_greatestAddition_x2 x z S).2) := by
  refine zM.at (ls := [some (.ref 0), some (.int (x)), some (.int (z))]) zy_X7_greatestAddition.2.2.2.2.2 (Nat.le_of_ble_eq_true rfl) rfl ?_
  refine z_aload_0 dX7_greatestAddition_0 ?_
  refine z_iload_1 dX7_greatestAddition_1 ?_
  refine z_iload_2 dX7_greatestAddition_2 ?_
  refine Z.call0s (zRun.V (ρ := fun i => i) (k_m_tr_x2 (x) (z) S hx hz) dX7_greatestAddition_3 zy_X7_throwsRange zm_X7_301 rfl rfl rfl rfl (Nat.le_of_ble_eq_true rfl) (by decide) (by decide)) (zlen2 14 rfl rfl) ?_
  refine Z.heap (h2 := mh (sI 15 (2) S)) rfl ?_
  refine z_topi (w := 1) rfl ?_
  refine z_if_eq_f (tgt := 13) dX7_greatestAddition_6 (by decide) (by decide) ?_
  refine z_iconst (v := 0) dX7_greatestAddition_9 rfl ?_
  refine z_goto (tgt := 28) dX7_greatestAddition_10 (by decide) ?_
  rw [g_m_greatestAddition_x2]
  exact z_iret dX7_greatestAddition_28 rfl (zint _) rfl rfl
noncomputable def g_m_runCount_L (n : Nat) (f : Nat) (t : Nat) : Nat → Nat → Nat → ZS → Nat × ZS
  | 0, c, _, S => (c, S)
  | fu + 1, c, i, S => (if (g_m_valueG n i S) = (g_m_valueG n (i + 1) S) then g_m_runCount_L n f t fu (c + 0) (i + 1) S else g_m_runCount_L n f t fu (c + 1) (i + 1) S)
theorem l_g_m_runCount_L (n : Nat) (f : Nat) (t : Nat) : ∀ (fu : Nat) (c : Nat) (i : Nat) (S : ZS) , (1 ≤ n) → (n ≤ 40) → (t < n) → (i + fu = t) → (mGr n S) → (c + fu < 2 ^ 31) → Z sc yX7_runCount cX7_runCount 5 (some .int) 4 0 0 16 [some (.ref 0), some (.int (nI (f))), some (.int (nI (t))), some (.int (nI (c))), some (.int (nI (i)))] [] (mh S) (.inl (some (.int (nI (g_m_runCount_L n f t fu c i S).1)))) (mh (g_m_runCount_L n f t fu c i S).2) := by
  intro fu
  induction fu with
  | zero =>
    intro c i S h1 h40 ht hi hG hcc
    refine z_iload_4 dX7_runCount_16 ?_
    refine z_iload_2 dX7_runCount_18 ?_
    refine z_icmpN_ge_t (tgt := 53) dX7_runCount_19 (by decide) (x := i) (z := t) (by first | omega | assumption) (by first | omega | assumption) (by omega) ?_
    refine z_iload_3 dX7_runCount_53 ?_
    rw [g_m_runCount_L]
    exact z_iret dX7_runCount_54 rfl (zint _) rfl rfl
  | succ fu ih =>
    intro c i S h1 h40 ht hi hG hcc
    refine z_iload_4 dX7_runCount_16 ?_
    refine z_iload_2 dX7_runCount_18 ?_
    refine z_icmpN_ge_f (tgt := 53) dX7_runCount_19 (by decide) (x := i) (z := t) (by first | omega | assumption) (by first | omega | assumption) (by omega) ?_
    refine z_iload_3 dX7_runCount_22 ?_
    refine z_aload_0 dX7_runCount_23 ?_
    refine z_iload_4 dX7_runCount_24 ?_
    refine Z.call0s (zRun.V (ρ := fun i => i) (k_m_valueG n i S h1 h40 (by first | omega | assumption) hG) dX7_runCount_26 zy_X7_value zm_X7_120 rfl rfl rfl rfl (Nat.le_of_ble_eq_true rfl) (by decide) (by decide)) (zlen2 14 rfl rfl) ?_
    refine z_aload_0 dX7_runCount_29 ?_
    refine z_iload_4 dX7_runCount_30 ?_
    refine z_iconst (v := 1) dX7_runCount_32 rfl ?_
    refine z_iadd dX7_runCount_33 ?_
    refine z_topi (w := nI (i + 1)) (nI_add _ _) ?_
    refine Z.call0s (zRun.V (ρ := fun i => i) (k_m_valueG n (i + 1) S h1 h40 (by first | omega | assumption) hG) dX7_runCount_34 zy_X7_value zm_X7_120 rfl rfl rfl rfl (Nat.le_of_ble_eq_true rfl) (by decide) (by decide)) (zlen2 14 rfl rfl) ?_
    refine z_icmp_ne (tgt := 44) dX7_runCount_37 (by decide) (fun c37 => ?_) (fun c37 => ?_)
    · refine z_iconst (v := 1) dX7_runCount_44 rfl ?_
      refine z_iadd dX7_runCount_45 ?_
      refine z_topi (w := nI (c + 1)) (nI_add _ _) ?_
      refine z_istore_3 dX7_runCount_46 rfl (by decide) ?_
      refine z_iinc_4 (v := nI (i + 1)) dX7_runCount_47 (nI_add _ 1) rfl (by decide) ?_
      refine z_goto (tgt := 16) dX7_runCount_50 (by decide) ?_
      rw [g_m_runCount_L, if_neg c37]
      exact ih (c + 1) (i + 1) S (by first | omega | assumption) (by first | omega | assumption) (by first | omega | assumption) (by first | omega | assumption) hG (by first | omega | assumption)
    · refine z_iconst (v := 0) dX7_runCount_40 rfl ?_
      refine z_goto (tgt := 45) dX7_runCount_41 (by decide) ?_
      refine z_iadd dX7_runCount_45 ?_
      refine z_topi (w := nI (c + 0)) (nI_add _ _) ?_
      refine z_istore_3 dX7_runCount_46 rfl (by decide) ?_
      refine z_iinc_4 (v := nI (i + 1)) dX7_runCount_47 (nI_add _ 1) rfl (by decide) ?_
      refine z_goto (tgt := 16) dX7_runCount_50 (by decide) ?_
      rw [g_m_runCount_L, if_pos c37]
      exact ih (c + 0) (i + 1) S (by first | omega | assumption) (by first | omega | assumption) (by first | omega | assumption) (by first | omega | assumption) hG (by first | omega | assumption)
noncomputable def g_m_runCount (n : Nat) (f : Nat) (t : Nat) (S : ZS) : Nat × ZS := (if t ≤ f then (1, (sI 15 (0) S)) else (if (g_m_value n f (sI 15 (0) S)).1 = (g_m_valueG n (f + 1) (g_m_grows n (sI 15 (0) S))) then g_m_runCount_L n f t (t - (f + 1)) 1 (f + 1) (g_m_grows n (sI 15 (0) S)) else g_m_runCount_L n f t (t - (f + 1)) 2 (f + 1) (g_m_grows n (sI 15 (0) S))))
theorem k_m_runCount (n : Nat) (f : Nat) (t : Nat) (S : ZS) (h1 : 1 ≤ n) (h40 : n ≤ 40) (hft : f ≤ t) (ht : t < n) (hO : mOK n S) : zM sc yX7_runCount cX7_runCount 5 (some .int) 4 0 0 [.ref 0, .int (nI (f)), .int (nI (t))] (mh S) (.inl (some (.int (nI (g_m_runCount n f t S).1)))) (mh (g_m_runCount n f t S).2) := by
  refine zM.at (ls := [some (.ref 0), some (.int (nI (f))), some (.int (nI (t))), none, none]) zy_X7_runCount.2.2.2.2.2 (Nat.le_of_ble_eq_true rfl) rfl ?_
  refine z_aload_0 dX7_runCount_0 ?_
  refine z_iload_1 dX7_runCount_1 ?_
  refine z_iload_2 dX7_runCount_2 ?_
  refine Z.call0s (zRun.V (ρ := fun i => i) (k_m_tr_ok n f t S h1 h40 hft ht hO) dX7_runCount_3 zy_X7_throwsRange zm_X7_301 rfl rfl rfl rfl (Nat.le_of_ble_eq_true rfl) (by decide) (by decide)) (zlen2 14 rfl rfl) ?_
  refine Z.heap (h2 := mh (sI 15 (0) S)) rfl ?_
  refine z_topi (w := 0) rfl ?_
  refine z_if_eq_t (tgt := 11) dX7_runCount_6 (by decide) (by decide) ?_
  refine z_iconst (v := 1) dX7_runCount_11 rfl ?_
  refine z_istore_3 dX7_runCount_12 rfl (by decide) ?_
  refine z_iload_1 dX7_runCount_13 ?_
  refine z_istore_4 dX7_runCount_14 rfl (by decide) ?_
  refine z_iload_4 dX7_runCount_16 ?_
  refine z_iload_2 dX7_runCount_18 ?_
  refine z_icmpN_ge (tgt := 53) dX7_runCount_19 (by decide) (x := f) (z := t) (by first | omega | assumption) (by first | omega | assumption) (fun c19 => ?_) (fun c19 => ?_)
  · refine z_iload_3 dX7_runCount_53 ?_
    rw [g_m_runCount, if_pos c19]
    exact z_iret dX7_runCount_54 rfl (zint _) rfl rfl
  · refine z_iload_3 dX7_runCount_22 ?_
    refine z_aload_0 dX7_runCount_23 ?_
    refine z_iload_4 dX7_runCount_24 ?_
    refine Z.call0s (zRun.V (ρ := fun i => i) (k_m_value n f (sI 15 (0) S) h1 h40 (by first | omega | assumption) (hO.sI (by decide))) dX7_runCount_26 zy_X7_value zm_X7_120 rfl rfl rfl rfl (Nat.le_of_ble_eq_true rfl) (by decide) (by decide)) (zlen2 14 rfl rfl) ?_
    refine Z.heap (h2 := mh (g_m_grows n (sI 15 (0) S))) (by rw [g_m_value_2]) ?_
    refine z_aload_0 dX7_runCount_29 ?_
    refine z_iload_4 dX7_runCount_30 ?_
    refine z_iconst (v := 1) dX7_runCount_32 rfl ?_
    refine z_iadd dX7_runCount_33 ?_
    refine z_topi (w := nI (f + 1)) (nI_add _ _) ?_
    refine Z.call0s (zRun.V (ρ := fun i => i) (k_m_valueG n (f + 1) (g_m_grows n (sI 15 (0) S)) h1 h40 (by first | omega | assumption) (mGr_of h1 h40 (hO.sI (by decide)))) dX7_runCount_34 zy_X7_value zm_X7_120 rfl rfl rfl rfl (Nat.le_of_ble_eq_true rfl) (by decide) (by decide)) (zlen2 14 rfl rfl) ?_
    refine z_icmp_ne (tgt := 44) dX7_runCount_37 (by decide) (fun c37 => ?_) (fun c37 => ?_)
    · refine z_iconst (v := 1) dX7_runCount_44 rfl ?_
      refine z_iadd dX7_runCount_45 ?_
      refine z_topi (w := 2) (by decide) ?_
      refine z_istore_3 dX7_runCount_46 rfl (by decide) ?_
      refine z_iinc_4 (v := nI (f + 1)) dX7_runCount_47 (nI_add _ 1) rfl (by decide) ?_
      refine z_goto (tgt := 16) dX7_runCount_50 (by decide) ?_
      rw [g_m_runCount, if_neg c19, if_neg c37]
      exact l_g_m_runCount_L n f t (t - (f + 1)) 2 (f + 1) (g_m_grows n (sI 15 (0) S)) (by first | omega | assumption) (by first | omega | assumption) (by first | omega | assumption) (by first | omega | assumption) (mGr_of h1 h40 (hO.sI (by decide))) (by first | omega | assumption)
    · refine z_iconst (v := 0) dX7_runCount_40 rfl ?_
      refine z_goto (tgt := 45) dX7_runCount_41 (by decide) ?_
      refine z_iadd dX7_runCount_45 ?_
      refine z_topi (w := 1) (by decide) ?_
      refine z_istore_3 dX7_runCount_46 rfl (by decide) ?_
      refine z_iinc_4 (v := nI (f + 1)) dX7_runCount_47 (nI_add _ 1) rfl (by decide) ?_
      refine z_goto (tgt := 16) dX7_runCount_50 (by decide) ?_
      rw [g_m_runCount, if_neg c19, if_pos c37]
      exact l_g_m_runCount_L n f t (t - (f + 1)) 1 (f + 1) (g_m_grows n (sI 15 (0) S)) (by first | omega | assumption) (by first | omega | assumption) (by first | omega | assumption) (by first | omega | assumption) (mGr_of h1 h40 (hO.sI (by decide))) (by first | omega | assumption)
noncomputable def g_m_runCount_x1 (_x : Int32) (_z : Int32) (S : ZS) : Int32 × ZS := (0, (sI 15 (1) S))
theorem k_m_runCount_x1 (x : Int32) (z : Int32) (S : ZS) (hx : g_m_isNone x z S = true) : zM sc yX7_runCount cX7_runCount 5 (some .int) 4 0 0 [.ref 0, .int (x), .int (z)] (mh S) (.inl (some (.int (g_m_runCount_x1 x z S).1))) (mh (g_m_runCount_x1 x z S).2) := by
  refine zM.at (ls := [some (.ref 0), some (.int (x)), some (.int (z)), none, none]) zy_X7_runCount.2.2.2.2.2 (Nat.le_of_ble_eq_true rfl) rfl ?_
  refine z_aload_0 dX7_runCount_0 ?_
  refine z_iload_1 dX7_runCount_1 ?_
  refine z_iload_2 dX7_runCount_2 ?_
  refine Z.call0s (zRun.V (ρ := fun i => i) (k_tr_x1 (x) (z) S hx) dX7_runCount_3 zy_X7_throwsRange zm_X7_301 rfl rfl rfl rfl (Nat.le_of_ble_eq_true rfl) (by decide) (by decide)) (zlen2 14 rfl rfl) ?_
  refine z_if_eq_f (tgt := 11) dX7_runCount_6 (by decide) (by decide) ?_
  refine z_iconst (v := 0) dX7_runCount_9 rfl ?_
  rw [g_m_runCount_x1]
  exact z_iret dX7_runCount_10 rfl (zint _) rfl rfl
noncomputable def g_m_runCount_x2 (_x : Int32) (_z : Int32) (S : ZS) : Int32 × ZS := (0, (sI 15 (2) S))
theorem k_m_runCount_x2 (x : Int32) (z : Int32) (S : ZS) (hx : g_m_isNone x z S = false) (hz : z < x) : zM sc yX7_runCount cX7_runCount 5 (some .int) 4 0 0 [.ref 0, .int (x), .int (z)] (mh S) (.inl (some (.int (g_m_runCount_x2 x z S).1))) (mh (g_m_runCount_x2 x z S).2) := by
  refine zM.at (ls := [some (.ref 0), some (.int (x)), some (.int (z)), none, none]) zy_X7_runCount.2.2.2.2.2 (Nat.le_of_ble_eq_true rfl) rfl ?_
  refine z_aload_0 dX7_runCount_0 ?_
  refine z_iload_1 dX7_runCount_1 ?_
  refine z_iload_2 dX7_runCount_2 ?_
  refine Z.call0s (zRun.V (ρ := fun i => i) (k_m_tr_x2 (x) (z) S hx hz) dX7_runCount_3 zy_X7_throwsRange zm_X7_301 rfl rfl rfl rfl (Nat.le_of_ble_eq_true rfl) (by decide) (by decide)) (zlen2 14 rfl rfl) ?_
  refine Z.heap (h2 := mh (sI 15 (2) S)) rfl ?_
  refine z_topi (w := 1) rfl ?_
  refine z_if_eq_f (tgt := 11) dX7_runCount_6 (by decide) (by decide) ?_
  refine z_iconst (v := 0) dX7_runCount_9 rfl ?_
  rw [g_m_runCount_x2]
  exact z_iret dX7_runCount_10 rfl (zint _) rfl rfl
noncomputable def g_m_steepestStep_L (n : Nat) (f : Nat) (t : Nat) : Nat → Int32 → Nat → ZS → Int32 × ZS
  | 0, c, _, S => (c, S)
  | fu + 1, c, i, S => (if 0 ≤ (g_m_valueG n (i + 1) S) - (g_m_valueG n i S) then g_m_steepestStep_L n f t fu (zmax (c) ((g_m_valueG n (i + 1) S) - (g_m_valueG n i S))) (i + 1) S else g_m_steepestStep_L n f t fu (zmax (c) (-((g_m_valueG n (i + 1) S) - (g_m_valueG n i S)))) (i + 1) S)
theorem l_g_m_steepestStep_L (n : Nat) (f : Nat) (t : Nat) : ∀ (fu : Nat) (c : Int32) (i : Nat) (S : ZS) (j5 : Option Value), (1 ≤ n) → (n ≤ 40) → (t < n) → (i + fu = t) → (mGr n S) → Z sc yX7_steepestStep cX7_steepestStep 6 (some .int) 4 0 0 16 [some (.ref 0), some (.int (nI (f))), some (.int (nI (t))), some (.int (c)), some (.int (nI (i))), j5] [] (mh S) (.inl (some (.int (g_m_steepestStep_L n f t fu c i S).1))) (mh (g_m_steepestStep_L n f t fu c i S).2) := by
  intro fu
  induction fu with
  | zero =>
    intro c i S j5 h1 h40 ht hi hG
    refine z_iload_4 dX7_steepestStep_16 ?_
    refine z_iload_2 dX7_steepestStep_18 ?_
    refine z_icmpN_ge_t (tgt := 63) dX7_steepestStep_19 (by decide) (x := i) (z := t) (by first | omega | assumption) (by first | omega | assumption) (by omega) ?_
    refine z_iload_3 dX7_steepestStep_63 ?_
    rw [g_m_steepestStep_L]
    exact z_iret dX7_steepestStep_64 rfl (zint _) rfl rfl
  | succ fu ih =>
    intro c i S j5 h1 h40 ht hi hG
    refine z_iload_4 dX7_steepestStep_16 ?_
    refine z_iload_2 dX7_steepestStep_18 ?_
    refine z_icmpN_ge_f (tgt := 63) dX7_steepestStep_19 (by decide) (x := i) (z := t) (by first | omega | assumption) (by first | omega | assumption) (by omega) ?_
    refine z_aload_0 dX7_steepestStep_22 ?_
    refine z_iload_4 dX7_steepestStep_23 ?_
    refine z_iconst (v := 1) dX7_steepestStep_25 rfl ?_
    refine z_iadd dX7_steepestStep_26 ?_
    refine z_topi (w := nI (i + 1)) (nI_add _ _) ?_
    refine Z.call0s (zRun.V (ρ := fun i => i) (k_m_valueG n (i + 1) S h1 h40 (by first | omega | assumption) hG) dX7_steepestStep_27 zy_X7_value zm_X7_120 rfl rfl rfl rfl (Nat.le_of_ble_eq_true rfl) (by decide) (by decide)) (zlen2 14 rfl rfl) ?_
    refine z_aload_0 dX7_steepestStep_30 ?_
    refine z_iload_4 dX7_steepestStep_31 ?_
    refine Z.call0s (zRun.V (ρ := fun i => i) (k_m_valueG n i S h1 h40 (by first | omega | assumption) hG) dX7_steepestStep_33 zy_X7_value zm_X7_120 rfl rfl rfl rfl (Nat.le_of_ble_eq_true rfl) (by decide) (by decide)) (zlen2 14 rfl rfl) ?_
    refine z_isub dX7_steepestStep_36 ?_
    refine z_istore_5 dX7_steepestStep_37 rfl (by decide) ?_
    refine z_iload_3 dX7_steepestStep_39 ?_
    refine z_iload_5 dX7_steepestStep_40 ?_
    refine z_if_ge (tgt := 51) dX7_steepestStep_42 (by decide) (fun c42 => ?_) (fun c42 => ?_)
    · refine z_iload_5 dX7_steepestStep_51 ?_
      refine z_mx dX7_steepestStep_53 zm_X7_135 (by decide) (Nat.le_of_ble_eq_true rfl) ?_
      refine z_topi (w := zmax (c) ((g_m_valueG n (i + 1) S) - (g_m_valueG n i S))) rfl ?_
      refine z_istore_3 dX7_steepestStep_56 rfl (by decide) ?_
      refine z_iinc_4 (v := nI (i + 1)) dX7_steepestStep_57 (nI_add _ 1) rfl (by decide) ?_
      refine z_goto (tgt := 16) dX7_steepestStep_60 (by decide) ?_
      rw [g_m_steepestStep_L, if_pos c42]
      exact ih (zmax (c) ((g_m_valueG n (i + 1) S) - (g_m_valueG n i S))) (i + 1) S _ (by first | omega | assumption) (by first | omega | assumption) (by first | omega | assumption) (by first | omega | assumption) hG
    · refine z_iload_5 dX7_steepestStep_45 ?_
      refine z_ineg dX7_steepestStep_47 ?_
      refine z_goto (tgt := 53) dX7_steepestStep_48 (by decide) ?_
      refine z_mx dX7_steepestStep_53 zm_X7_135 (by decide) (Nat.le_of_ble_eq_true rfl) ?_
      refine z_topi (w := zmax (c) (-((g_m_valueG n (i + 1) S) - (g_m_valueG n i S)))) rfl ?_
      refine z_istore_3 dX7_steepestStep_56 rfl (by decide) ?_
      refine z_iinc_4 (v := nI (i + 1)) dX7_steepestStep_57 (nI_add _ 1) rfl (by decide) ?_
      refine z_goto (tgt := 16) dX7_steepestStep_60 (by decide) ?_
      rw [g_m_steepestStep_L, if_neg c42]
      exact ih (zmax (c) (-((g_m_valueG n (i + 1) S) - (g_m_valueG n i S)))) (i + 1) S _ (by first | omega | assumption) (by first | omega | assumption) (by first | omega | assumption) (by first | omega | assumption) hG
noncomputable def g_m_steepestStep (n : Nat) (f : Nat) (t : Nat) (S : ZS) : Int32 × ZS := (if t ≤ f then (0, (sI 15 (0) S)) else (if 0 ≤ ((g_m_value n (f + 1) (sI 15 (0) S)).1) - (g_m_valueG n f (g_m_grows n (sI 15 (0) S))) then g_m_steepestStep_L n f t (t - (f + 1)) (zmax (0) (((g_m_value n (f + 1) (sI 15 (0) S)).1) - (g_m_valueG n f (g_m_grows n (sI 15 (0) S))))) (f + 1) (g_m_grows n (sI 15 (0) S)) else g_m_steepestStep_L n f t (t - (f + 1)) (zmax (0) (-(((g_m_value n (f + 1) (sI 15 (0) S)).1) - (g_m_valueG n f (g_m_grows n (sI 15 (0) S)))))) (f + 1) (g_m_grows n (sI 15 (0) S))))
theorem k_m_steepestStep (n : Nat) (f : Nat) (t : Nat) (S : ZS) (h1 : 1 ≤ n) (h40 : n ≤ 40) (hft : f ≤ t) (ht : t < n) (hO : mOK n S) : zM sc yX7_steepestStep cX7_steepestStep 6 (some .int) 4 0 0 [.ref 0, .int (nI (f)), .int (nI (t))] (mh S) (.inl (some (.int (g_m_steepestStep n f t S).1))) (mh (g_m_steepestStep n f t S).2) := by
  refine zM.at (ls := [some (.ref 0), some (.int (nI (f))), some (.int (nI (t))), none, none, none]) zy_X7_steepestStep.2.2.2.2.2 (Nat.le_of_ble_eq_true rfl) rfl ?_
  refine z_aload_0 dX7_steepestStep_0 ?_
  refine z_iload_1 dX7_steepestStep_1 ?_
  refine z_iload_2 dX7_steepestStep_2 ?_
  refine Z.call0s (zRun.V (ρ := fun i => i) (k_m_tr_ok n f t S h1 h40 hft ht hO) dX7_steepestStep_3 zy_X7_throwsRange zm_X7_301 rfl rfl rfl rfl (Nat.le_of_ble_eq_true rfl) (by decide) (by decide)) (zlen2 14 rfl rfl) ?_
  refine Z.heap (h2 := mh (sI 15 (0) S)) rfl ?_
  refine z_topi (w := 0) rfl ?_
  refine z_if_eq_t (tgt := 11) dX7_steepestStep_6 (by decide) (by decide) ?_
  refine z_iconst (v := 0) dX7_steepestStep_11 rfl ?_
  refine z_istore_3 dX7_steepestStep_12 rfl (by decide) ?_
  refine z_iload_1 dX7_steepestStep_13 ?_
  refine z_istore_4 dX7_steepestStep_14 rfl (by decide) ?_
  refine z_iload_4 dX7_steepestStep_16 ?_
  refine z_iload_2 dX7_steepestStep_18 ?_
  refine z_icmpN_ge (tgt := 63) dX7_steepestStep_19 (by decide) (x := f) (z := t) (by first | omega | assumption) (by first | omega | assumption) (fun c19 => ?_) (fun c19 => ?_)
  · refine z_iload_3 dX7_steepestStep_63 ?_
    rw [g_m_steepestStep, if_pos c19]
    exact z_iret dX7_steepestStep_64 rfl (zint _) rfl rfl
  · refine z_aload_0 dX7_steepestStep_22 ?_
    refine z_iload_4 dX7_steepestStep_23 ?_
    refine z_iconst (v := 1) dX7_steepestStep_25 rfl ?_
    refine z_iadd dX7_steepestStep_26 ?_
    refine z_topi (w := nI (f + 1)) (nI_add _ _) ?_
    refine Z.call0s (zRun.V (ρ := fun i => i) (k_m_value n (f + 1) (sI 15 (0) S) h1 h40 (by first | omega | assumption) (hO.sI (by decide))) dX7_steepestStep_27 zy_X7_value zm_X7_120 rfl rfl rfl rfl (Nat.le_of_ble_eq_true rfl) (by decide) (by decide)) (zlen2 14 rfl rfl) ?_
    refine Z.heap (h2 := mh (g_m_grows n (sI 15 (0) S))) (by rw [g_m_value_2]) ?_
    refine z_aload_0 dX7_steepestStep_30 ?_
    refine z_iload_4 dX7_steepestStep_31 ?_
    refine Z.call0s (zRun.V (ρ := fun i => i) (k_m_valueG n f (g_m_grows n (sI 15 (0) S)) h1 h40 (by first | omega | assumption) (mGr_of h1 h40 (hO.sI (by decide)))) dX7_steepestStep_33 zy_X7_value zm_X7_120 rfl rfl rfl rfl (Nat.le_of_ble_eq_true rfl) (by decide) (by decide)) (zlen2 14 rfl rfl) ?_
    refine z_isub dX7_steepestStep_36 ?_
    refine z_istore_5 dX7_steepestStep_37 rfl (by decide) ?_
    refine z_iload_3 dX7_steepestStep_39 ?_
    refine z_iload_5 dX7_steepestStep_40 ?_
    refine z_if_ge (tgt := 51) dX7_steepestStep_42 (by decide) (fun c42 => ?_) (fun c42 => ?_)
    · refine z_iload_5 dX7_steepestStep_51 ?_
      refine z_mx dX7_steepestStep_53 zm_X7_135 (by decide) (Nat.le_of_ble_eq_true rfl) ?_
      refine z_topi (w := zmax (0) (((g_m_value n (f + 1) (sI 15 (0) S)).1) - (g_m_valueG n f (g_m_grows n (sI 15 (0) S))))) rfl ?_
      refine z_istore_3 dX7_steepestStep_56 rfl (by decide) ?_
      refine z_iinc_4 (v := nI (f + 1)) dX7_steepestStep_57 (nI_add _ 1) rfl (by decide) ?_
      refine z_goto (tgt := 16) dX7_steepestStep_60 (by decide) ?_
      rw [g_m_steepestStep, if_neg c19, if_pos c42]
      exact l_g_m_steepestStep_L n f t (t - (f + 1)) (zmax (0) (((g_m_value n (f + 1) (sI 15 (0) S)).1) - (g_m_valueG n f (g_m_grows n (sI 15 (0) S))))) (f + 1) (g_m_grows n (sI 15 (0) S)) _ (by first | omega | assumption) (by first | omega | assumption) (by first | omega | assumption) (by first | omega | assumption) (mGr_of h1 h40 (hO.sI (by decide)))
    · refine z_iload_5 dX7_steepestStep_45 ?_
      refine z_ineg dX7_steepestStep_47 ?_
      refine z_goto (tgt := 53) dX7_steepestStep_48 (by decide) ?_
      refine z_mx dX7_steepestStep_53 zm_X7_135 (by decide) (Nat.le_of_ble_eq_true rfl) ?_
      refine z_topi (w := zmax (0) (-(((g_m_value n (f + 1) (sI 15 (0) S)).1) - (g_m_valueG n f (g_m_grows n (sI 15 (0) S)))))) rfl ?_
      refine z_istore_3 dX7_steepestStep_56 rfl (by decide) ?_
      refine z_iinc_4 (v := nI (f + 1)) dX7_steepestStep_57 (nI_add _ 1) rfl (by decide) ?_
      refine z_goto (tgt := 16) dX7_steepestStep_60 (by decide) ?_
      rw [g_m_steepestStep, if_neg c19, if_neg c42]
      exact l_g_m_steepestStep_L n f t (t - (f + 1)) (zmax (0) (-(((g_m_value n (f + 1) (sI 15 (0) S)).1) - (g_m_valueG n f (g_m_grows n (sI 15 (0) S)))))) (f + 1) (g_m_grows n (sI 15 (0) S)) _ (by first | omega | assumption) (by first | omega | assumption) (by first | omega | assumption) (by first | omega | assumption) (mGr_of h1 h40 (hO.sI (by decide)))
noncomputable def g_m_steepestStep_x1 (_x : Int32) (_z : Int32) (S : ZS) : Int32 × ZS := (0, (sI 15 (1) S))
theorem k_m_steepestStep_x1 (x : Int32) (z : Int32) (S : ZS) (hx : g_m_isNone x z S = true) : zM sc yX7_steepestStep cX7_steepestStep 6 (some .int) 4 0 0 [.ref 0, .int (x), .int (z)] (mh S) (.inl (some (.int (g_m_steepestStep_x1 x z S).1))) (mh (g_m_steepestStep_x1 x z S).2) := by
  refine zM.at (ls := [some (.ref 0), some (.int (x)), some (.int (z)), none, none, none]) zy_X7_steepestStep.2.2.2.2.2 (Nat.le_of_ble_eq_true rfl) rfl ?_
  refine z_aload_0 dX7_steepestStep_0 ?_
  refine z_iload_1 dX7_steepestStep_1 ?_
  refine z_iload_2 dX7_steepestStep_2 ?_
  refine Z.call0s (zRun.V (ρ := fun i => i) (k_tr_x1 (x) (z) S hx) dX7_steepestStep_3 zy_X7_throwsRange zm_X7_301 rfl rfl rfl rfl (Nat.le_of_ble_eq_true rfl) (by decide) (by decide)) (zlen2 14 rfl rfl) ?_
  refine z_if_eq_f (tgt := 11) dX7_steepestStep_6 (by decide) (by decide) ?_
  refine z_iconst (v := 0) dX7_steepestStep_9 rfl ?_
  rw [g_m_steepestStep_x1]
  exact z_iret dX7_steepestStep_10 rfl (zint _) rfl rfl
noncomputable def g_m_steepestStep_x2 (_x : Int32) (_z : Int32) (S : ZS) : Int32 × ZS := (0, (sI 15 (2) S))
theorem k_m_steepestStep_x2 (x : Int32) (z : Int32) (S : ZS) (hx : g_m_isNone x z S = false) (hz : z < x) : zM sc yX7_steepestStep cX7_steepestStep 6 (some .int) 4 0 0 [.ref 0, .int (x), .int (z)] (mh S) (.inl (some (.int (g_m_steepestStep_x2 x z S).1))) (mh (g_m_steepestStep_x2 x z S).2) := by
  refine zM.at (ls := [some (.ref 0), some (.int (x)), some (.int (z)), none, none, none]) zy_X7_steepestStep.2.2.2.2.2 (Nat.le_of_ble_eq_true rfl) rfl ?_
  refine z_aload_0 dX7_steepestStep_0 ?_
  refine z_iload_1 dX7_steepestStep_1 ?_
  refine z_iload_2 dX7_steepestStep_2 ?_
  refine Z.call0s (zRun.V (ρ := fun i => i) (k_m_tr_x2 (x) (z) S hx hz) dX7_steepestStep_3 zy_X7_throwsRange zm_X7_301 rfl rfl rfl rfl (Nat.le_of_ble_eq_true rfl) (by decide) (by decide)) (zlen2 14 rfl rfl) ?_
  refine Z.heap (h2 := mh (sI 15 (2) S)) rfl ?_
  refine z_topi (w := 1) rfl ?_
  refine z_if_eq_f (tgt := 11) dX7_steepestStep_6 (by decide) (by decide) ?_
  refine z_iconst (v := 0) dX7_steepestStep_9 rfl ?_
  rw [g_m_steepestStep_x2]
  exact z_iret dX7_steepestStep_10 rfl (zint _) rfl rfl
