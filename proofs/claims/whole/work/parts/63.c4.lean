variable {sc : SC}

noncomputable def g_c_6_sum (_n : Nat) (a : Nat) (b : Nat) (S : ZS) (X : ZS) (R : ZS) (T : TS) : Int64 := (g_c_6_totalOf a b S X R T)
theorem k_c_6_sum (n : Nat) (a : Nat) (b : Nat) (S : ZS) (X : ZS) (R : ZS) (T : TS) (hn : tn T = nI n) (h40 : n ≤ 40) (hab : a ≤ b) (hbn : b < n) : zM sc yX6_sum cX6_sum 3 (some .long) 3 0 0 [.ref 0, .int (nI (a)), .int (nI (b))] (qh S X R T) (.inl (some (.long (g_c_6_sum n a b S X R T)))) (qh S X R T) := by
  refine zM.at (ls := [some (.ref 0), some (.int (nI (a))), some (.int (nI (b)))]) zy_X6_sum.2.2.2.2.2 (Nat.le_of_ble_eq_true rfl) rfl ?_
  refine z_aload_0 dX6_sum_0 ?_
  refine z_iload_1 dX6_sum_1 ?_
  refine z_iload_2 dX6_sum_2 ?_
  refine Z.call0n (zRun.V (ρ := fun i => i) (k_c_6_checkRange n a b S X R T (by first | omega | assumption) (by first | omega | assumption) (by first | omega | assumption) (by first | omega | assumption)) dX6_sum_3 zy_X6_checkRange zm_X6_102 rfl rfl rfl rfl (Nat.le_of_ble_eq_true rfl) (by decide) (by decide)) (zlen2 14 rfl rfl) ?_
  refine z_aload_0 dX6_sum_6 ?_
  refine z_iload_1 dX6_sum_7 ?_
  refine z_iload_2 dX6_sum_8 ?_
  refine Z.call0s (zRun.V (ρ := fun i => i) (k_c_6_totalOf a b S X R T (by omega) (by omega)) dX6_sum_9 zy_X6_totalOf zm_X6_167 rfl rfl rfl rfl (Nat.le_of_ble_eq_true rfl) (by decide) (by decide)) (zlen2 14 rfl rfl) ?_
  rw [g_c_6_sum]
  exact z_lret dX6_sum_12 rfl rfl rfl
theorem k_c_6_sum_x1 (n : Nat) (x : Int32) (z : Int32) (S : ZS) (X : ZS) (R : ZS) (T : TS) (hn : tn T = nI n) (h40 : n ≤ 40) (hx : ¬ (tIx T x ∧ tIx T z)) : zM sc yX6_sum cX6_sum 3 (some .long) 10 1 6 [.ref 0, .int (x), .int (z)] (qh S X R T) (.inr "java/lang/IndexOutOfBoundsException") (qh S X R T) := by
  refine zM.at (ls := [some (.ref 0), some (.int (x)), some (.int (z))]) zy_X6_sum.2.2.2.2.2 (Nat.le_of_ble_eq_true rfl) rfl ?_
  refine z_aload_0 dX6_sum_0 ?_
  refine z_iload_1 dX6_sum_1 ?_
  refine z_iload_2 dX6_sum_2 ?_
  exact Z.callX0 (zRun.V (ρ := fun i => i) (k_c_6_checkRange_x1 n (x) (z) S X R T hn h40 hx) dX6_sum_3 zy_X6_checkRange zm_X6_102 rfl rfl rfl rfl (Nat.le_of_ble_eq_true rfl) (by decide) (by decide)) (zlen2 14 rfl rfl) rfl rfl
theorem k_c_6_sum_x2 (n : Nat) (x : Int32) (z : Int32) (S : ZS) (X : ZS) (R : ZS) (T : TS) (hn : tn T = nI n) (h40 : n ≤ 40) (hx : tIx T x) (hz : tIx T z) (hzx : z < x) : zM sc yX6_sum cX6_sum 3 (some .long) 10 1 6 [.ref 0, .int (x), .int (z)] (qh S X R T) (.inr "java/lang/IllegalArgumentException") (qh S X R T) := by
  refine zM.at (ls := [some (.ref 0), some (.int (x)), some (.int (z))]) zy_X6_sum.2.2.2.2.2 (Nat.le_of_ble_eq_true rfl) rfl ?_
  refine z_aload_0 dX6_sum_0 ?_
  refine z_iload_1 dX6_sum_1 ?_
  refine z_iload_2 dX6_sum_2 ?_
  exact Z.callX0 (zRun.V (ρ := fun i => i) (k_c_6_checkRange_x2 n (x) (z) S X R T hn h40 hx hz hzx) dX6_sum_3 zy_X6_checkRange zm_X6_102 rfl rfl rfl rfl (Nat.le_of_ble_eq_true rfl) (by decide) (by decide)) (zlen2 14 rfl rfl) rfl rfl
noncomputable def g_c_6_least (_n : Nat) (a : Nat) (b : Nat) (_S : ZS) (_X : ZS) (_R : ZS) (T : TS) : Int32 := tMinF (tva T) (b - a) (a + 1) (tva T a)
theorem k_c_6_least (n : Nat) (a : Nat) (b : Nat) (S : ZS) (X : ZS) (R : ZS) (T : TS) (hn : tn T = nI n) (h40 : n ≤ 40) (hab : a ≤ b) (hbn : b < n) : zM sc yX6_least cX6_least 3 (some .int) 3 0 0 [.ref 0, .int (nI (a)), .int (nI (b))] (qh S X R T) (.inl (some (.int (g_c_6_least n a b S X R T)))) (qh S X R T) := by
  refine zM.at (ls := [some (.ref 0), some (.int (nI (a))), some (.int (nI (b)))]) zy_X6_least.2.2.2.2.2 (Nat.le_of_ble_eq_true rfl) rfl ?_
  refine z_aload_0 dX6_least_0 ?_
  refine z_iload_1 dX6_least_1 ?_
  refine z_iload_2 dX6_least_2 ?_
  refine Z.call0n (zRun.V (ρ := fun i => i) (k_c_6_checkRange n a b S X R T (by first | omega | assumption) (by first | omega | assumption) (by first | omega | assumption) (by first | omega | assumption)) dX6_least_3 zy_X6_checkRange zm_X6_102 rfl rfl rfl rfl (Nat.le_of_ble_eq_true rfl) (by decide) (by decide)) (zlen2 14 rfl rfl) ?_
  refine z_aload_0 dX6_least_6 ?_
  refine z_get (k := 0) (v := .ref 1) dX6_least_7 rfl rfl rfl (by decide) zf_X6_10 zw_in6 ?_
  refine z_iload_1 dX6_least_10 ?_
  refine z_iload_2 dX6_least_11 ?_
  refine Z.shs (qh S X R T) (zRun.V (ρ := zsh 1) (k_leastOf T a b (by first | omega | assumption) (by first | omega | assumption)) dX6_least_12 zy_X5_leastOf zm_X6_171 rfl rfl rfl rfl (Nat.le_of_ble_eq_true rfl) (by decide) (by decide) (zsh_fix 1)) (zsh_inj (Nat.le_of_ble_eq_true rfl)) ⟨rfl, rfl, rfl, rfl, rfl, rfl, rfl, rfl, rfl, trivial⟩ (zlen2 9 rfl rfl) rfl rfl ?_
  rw [g_c_6_least]
  exact z_iret dX6_least_15 rfl (zint _) rfl rfl
theorem k_c_6_least_x1 (n : Nat) (x : Int32) (z : Int32) (S : ZS) (X : ZS) (R : ZS) (T : TS) (hn : tn T = nI n) (h40 : n ≤ 40) (hx : ¬ (tIx T x ∧ tIx T z)) : zM sc yX6_least cX6_least 3 (some .int) 10 1 6 [.ref 0, .int (x), .int (z)] (qh S X R T) (.inr "java/lang/IndexOutOfBoundsException") (qh S X R T) := by
  refine zM.at (ls := [some (.ref 0), some (.int (x)), some (.int (z))]) zy_X6_least.2.2.2.2.2 (Nat.le_of_ble_eq_true rfl) rfl ?_
  refine z_aload_0 dX6_least_0 ?_
  refine z_iload_1 dX6_least_1 ?_
  refine z_iload_2 dX6_least_2 ?_
  exact Z.callX0 (zRun.V (ρ := fun i => i) (k_c_6_checkRange_x1 n (x) (z) S X R T hn h40 hx) dX6_least_3 zy_X6_checkRange zm_X6_102 rfl rfl rfl rfl (Nat.le_of_ble_eq_true rfl) (by decide) (by decide)) (zlen2 14 rfl rfl) rfl rfl
theorem k_c_6_least_x2 (n : Nat) (x : Int32) (z : Int32) (S : ZS) (X : ZS) (R : ZS) (T : TS) (hn : tn T = nI n) (h40 : n ≤ 40) (hx : tIx T x) (hz : tIx T z) (hzx : z < x) : zM sc yX6_least cX6_least 3 (some .int) 10 1 6 [.ref 0, .int (x), .int (z)] (qh S X R T) (.inr "java/lang/IllegalArgumentException") (qh S X R T) := by
  refine zM.at (ls := [some (.ref 0), some (.int (x)), some (.int (z))]) zy_X6_least.2.2.2.2.2 (Nat.le_of_ble_eq_true rfl) rfl ?_
  refine z_aload_0 dX6_least_0 ?_
  refine z_iload_1 dX6_least_1 ?_
  refine z_iload_2 dX6_least_2 ?_
  exact Z.callX0 (zRun.V (ρ := fun i => i) (k_c_6_checkRange_x2 n (x) (z) S X R T hn h40 hx hz hzx) dX6_least_3 zy_X6_checkRange zm_X6_102 rfl rfl rfl rfl (Nat.le_of_ble_eq_true rfl) (by decide) (by decide)) (zlen2 14 rfl rfl) rfl rfl
noncomputable def g_c_6_greatest (_n : Nat) (a : Nat) (b : Nat) (_S : ZS) (_X : ZS) (_R : ZS) (T : TS) : Int32 := tMaxF (tva T) (b - a) (a + 1) (tva T a)
theorem k_c_6_greatest (n : Nat) (a : Nat) (b : Nat) (S : ZS) (X : ZS) (R : ZS) (T : TS) (hn : tn T = nI n) (h40 : n ≤ 40) (hab : a ≤ b) (hbn : b < n) : zM sc yX6_greatest cX6_greatest 3 (some .int) 3 0 0 [.ref 0, .int (nI (a)), .int (nI (b))] (qh S X R T) (.inl (some (.int (g_c_6_greatest n a b S X R T)))) (qh S X R T) := by
  refine zM.at (ls := [some (.ref 0), some (.int (nI (a))), some (.int (nI (b)))]) zy_X6_greatest.2.2.2.2.2 (Nat.le_of_ble_eq_true rfl) rfl ?_
  refine z_aload_0 dX6_greatest_0 ?_
  refine z_iload_1 dX6_greatest_1 ?_
  refine z_iload_2 dX6_greatest_2 ?_
  refine Z.call0n (zRun.V (ρ := fun i => i) (k_c_6_checkRange n a b S X R T (by first | omega | assumption) (by first | omega | assumption) (by first | omega | assumption) (by first | omega | assumption)) dX6_greatest_3 zy_X6_checkRange zm_X6_102 rfl rfl rfl rfl (Nat.le_of_ble_eq_true rfl) (by decide) (by decide)) (zlen2 14 rfl rfl) ?_
  refine z_aload_0 dX6_greatest_6 ?_
  refine z_get (k := 0) (v := .ref 1) dX6_greatest_7 rfl rfl rfl (by decide) zf_X6_10 zw_in6 ?_
  refine z_iload_1 dX6_greatest_10 ?_
  refine z_iload_2 dX6_greatest_11 ?_
  refine Z.shs (qh S X R T) (zRun.V (ρ := zsh 1) (k_greatestOf T a b (by first | omega | assumption) (by first | omega | assumption)) dX6_greatest_12 zy_X5_greatestOf zm_X6_175 rfl rfl rfl rfl (Nat.le_of_ble_eq_true rfl) (by decide) (by decide) (zsh_fix 1)) (zsh_inj (Nat.le_of_ble_eq_true rfl)) ⟨rfl, rfl, rfl, rfl, rfl, rfl, rfl, rfl, rfl, trivial⟩ (zlen2 9 rfl rfl) rfl rfl ?_
  rw [g_c_6_greatest]
  exact z_iret dX6_greatest_15 rfl (zint _) rfl rfl
theorem k_c_6_greatest_x1 (n : Nat) (x : Int32) (z : Int32) (S : ZS) (X : ZS) (R : ZS) (T : TS) (hn : tn T = nI n) (h40 : n ≤ 40) (hx : ¬ (tIx T x ∧ tIx T z)) : zM sc yX6_greatest cX6_greatest 3 (some .int) 10 1 6 [.ref 0, .int (x), .int (z)] (qh S X R T) (.inr "java/lang/IndexOutOfBoundsException") (qh S X R T) := by
  refine zM.at (ls := [some (.ref 0), some (.int (x)), some (.int (z))]) zy_X6_greatest.2.2.2.2.2 (Nat.le_of_ble_eq_true rfl) rfl ?_
  refine z_aload_0 dX6_greatest_0 ?_
  refine z_iload_1 dX6_greatest_1 ?_
  refine z_iload_2 dX6_greatest_2 ?_
  exact Z.callX0 (zRun.V (ρ := fun i => i) (k_c_6_checkRange_x1 n (x) (z) S X R T hn h40 hx) dX6_greatest_3 zy_X6_checkRange zm_X6_102 rfl rfl rfl rfl (Nat.le_of_ble_eq_true rfl) (by decide) (by decide)) (zlen2 14 rfl rfl) rfl rfl
theorem k_c_6_greatest_x2 (n : Nat) (x : Int32) (z : Int32) (S : ZS) (X : ZS) (R : ZS) (T : TS) (hn : tn T = nI n) (h40 : n ≤ 40) (hx : tIx T x) (hz : tIx T z) (hzx : z < x) : zM sc yX6_greatest cX6_greatest 3 (some .int) 10 1 6 [.ref 0, .int (x), .int (z)] (qh S X R T) (.inr "java/lang/IllegalArgumentException") (qh S X R T) := by
  refine zM.at (ls := [some (.ref 0), some (.int (x)), some (.int (z))]) zy_X6_greatest.2.2.2.2.2 (Nat.le_of_ble_eq_true rfl) rfl ?_
  refine z_aload_0 dX6_greatest_0 ?_
  refine z_iload_1 dX6_greatest_1 ?_
  refine z_iload_2 dX6_greatest_2 ?_
  exact Z.callX0 (zRun.V (ρ := fun i => i) (k_c_6_checkRange_x2 n (x) (z) S X R T hn h40 hx hz hzx) dX6_greatest_3 zy_X6_checkRange zm_X6_102 rfl rfl rfl rfl (Nat.le_of_ble_eq_true rfl) (by decide) (by decide)) (zlen2 14 rfl rfl) rfl rfl
noncomputable def g_c_6_firstLeast (_n : Nat) (a : Nat) (b : Nat) (S : ZS) (X : ZS) (R : ZS) (T : TS) : Int32 := (g_c_6_firstWith a b (tMinF (tva T) (b - a) (a + 1) (tva T a)) S X R T)
theorem k_c_6_firstLeast (n : Nat) (a : Nat) (b : Nat) (S : ZS) (X : ZS) (R : ZS) (T : TS) (hn : tn T = nI n) (h40 : n ≤ 40) (hab : a ≤ b) (hbn : b < n) : zM sc yX6_firstLeast cX6_firstLeast 3 (some .int) 3 0 0 [.ref 0, .int (nI (a)), .int (nI (b))] (qh S X R T) (.inl (some (.int (g_c_6_firstLeast n a b S X R T)))) (qh S X R T) := by
  refine zM.at (ls := [some (.ref 0), some (.int (nI (a))), some (.int (nI (b)))]) zy_X6_firstLeast.2.2.2.2.2 (Nat.le_of_ble_eq_true rfl) rfl ?_
  refine z_aload_0 dX6_firstLeast_0 ?_
  refine z_iload_1 dX6_firstLeast_1 ?_
  refine z_iload_2 dX6_firstLeast_2 ?_
  refine Z.call0n (zRun.V (ρ := fun i => i) (k_c_6_checkRange n a b S X R T (by first | omega | assumption) (by first | omega | assumption) (by first | omega | assumption) (by first | omega | assumption)) dX6_firstLeast_3 zy_X6_checkRange zm_X6_102 rfl rfl rfl rfl (Nat.le_of_ble_eq_true rfl) (by decide) (by decide)) (zlen2 14 rfl rfl) ?_
  refine z_aload_0 dX6_firstLeast_6 ?_
  refine z_iload_1 dX6_firstLeast_7 ?_
  refine z_iload_2 dX6_firstLeast_8 ?_
  refine z_aload_0 dX6_firstLeast_9 ?_
  refine z_get (k := 0) (v := .ref 1) dX6_firstLeast_10 rfl rfl rfl (by decide) zf_X6_10 zw_in6 ?_
  refine z_iload_1 dX6_firstLeast_13 ?_
  refine z_iload_2 dX6_firstLeast_14 ?_
  refine Z.shs (qh S X R T) (zRun.V (ρ := zsh 1) (k_leastOf T a b (by first | omega | assumption) (by first | omega | assumption)) dX6_firstLeast_15 zy_X5_leastOf zm_X6_171 rfl rfl rfl rfl (Nat.le_of_ble_eq_true rfl) (by decide) (by decide) (zsh_fix 1)) (zsh_inj (Nat.le_of_ble_eq_true rfl)) ⟨rfl, rfl, rfl, rfl, rfl, rfl, rfl, rfl, rfl, trivial⟩ (zlen2 9 rfl rfl) rfl rfl ?_
  refine Z.call0s (zRun.V (ρ := fun i => i) (k_c_6_firstWith a b (tMinF (tva T) (b - a) (a + 1) (tva T a)) S X R T (by omega) (by omega)) dX6_firstLeast_18 zy_X6_firstWith zm_X6_178 rfl rfl rfl rfl (Nat.le_of_ble_eq_true rfl) (by decide) (by decide)) (zlen2 14 rfl rfl) ?_
  rw [g_c_6_firstLeast]
  exact z_iret dX6_firstLeast_21 rfl (zint _) rfl rfl
theorem k_c_6_firstLeast_x1 (n : Nat) (x : Int32) (z : Int32) (S : ZS) (X : ZS) (R : ZS) (T : TS) (hn : tn T = nI n) (h40 : n ≤ 40) (hx : ¬ (tIx T x ∧ tIx T z)) : zM sc yX6_firstLeast cX6_firstLeast 3 (some .int) 10 1 6 [.ref 0, .int (x), .int (z)] (qh S X R T) (.inr "java/lang/IndexOutOfBoundsException") (qh S X R T) := by
  refine zM.at (ls := [some (.ref 0), some (.int (x)), some (.int (z))]) zy_X6_firstLeast.2.2.2.2.2 (Nat.le_of_ble_eq_true rfl) rfl ?_
  refine z_aload_0 dX6_firstLeast_0 ?_
  refine z_iload_1 dX6_firstLeast_1 ?_
  refine z_iload_2 dX6_firstLeast_2 ?_
  exact Z.callX0 (zRun.V (ρ := fun i => i) (k_c_6_checkRange_x1 n (x) (z) S X R T hn h40 hx) dX6_firstLeast_3 zy_X6_checkRange zm_X6_102 rfl rfl rfl rfl (Nat.le_of_ble_eq_true rfl) (by decide) (by decide)) (zlen2 14 rfl rfl) rfl rfl
theorem k_c_6_firstLeast_x2 (n : Nat) (x : Int32) (z : Int32) (S : ZS) (X : ZS) (R : ZS) (T : TS) (hn : tn T = nI n) (h40 : n ≤ 40) (hx : tIx T x) (hz : tIx T z) (hzx : z < x) : zM sc yX6_firstLeast cX6_firstLeast 3 (some .int) 10 1 6 [.ref 0, .int (x), .int (z)] (qh S X R T) (.inr "java/lang/IllegalArgumentException") (qh S X R T) := by
  refine zM.at (ls := [some (.ref 0), some (.int (x)), some (.int (z))]) zy_X6_firstLeast.2.2.2.2.2 (Nat.le_of_ble_eq_true rfl) rfl ?_
  refine z_aload_0 dX6_firstLeast_0 ?_
  refine z_iload_1 dX6_firstLeast_1 ?_
  refine z_iload_2 dX6_firstLeast_2 ?_
  exact Z.callX0 (zRun.V (ρ := fun i => i) (k_c_6_checkRange_x2 n (x) (z) S X R T hn h40 hx hz hzx) dX6_firstLeast_3 zy_X6_checkRange zm_X6_102 rfl rfl rfl rfl (Nat.le_of_ble_eq_true rfl) (by decide) (by decide)) (zlen2 14 rfl rfl) rfl rfl
noncomputable def g_c_6_firstGreatest (_n : Nat) (a : Nat) (b : Nat) (S : ZS) (X : ZS) (R : ZS) (T : TS) : Int32 := (g_c_6_firstWith a b (tMaxF (tva T) (b - a) (a + 1) (tva T a)) S X R T)
theorem k_c_6_firstGreatest (n : Nat) (a : Nat) (b : Nat) (S : ZS) (X : ZS) (R : ZS) (T : TS) (hn : tn T = nI n) (h40 : n ≤ 40) (hab : a ≤ b) (hbn : b < n) : zM sc yX6_firstGreatest cX6_firstGreatest 3 (some .int) 3 0 0 [.ref 0, .int (nI (a)), .int (nI (b))] (qh S X R T) (.inl (some (.int (g_c_6_firstGreatest n a b S X R T)))) (qh S X R T) := by
  refine zM.at (ls := [some (.ref 0), some (.int (nI (a))), some (.int (nI (b)))]) zy_X6_firstGreatest.2.2.2.2.2 (Nat.le_of_ble_eq_true rfl) rfl ?_
  refine z_aload_0 dX6_firstGreatest_0 ?_
  refine z_iload_1 dX6_firstGreatest_1 ?_
  refine z_iload_2 dX6_firstGreatest_2 ?_
  refine Z.call0n (zRun.V (ρ := fun i => i) (k_c_6_checkRange n a b S X R T (by first | omega | assumption) (by first | omega | assumption) (by first | omega | assumption) (by first | omega | assumption)) dX6_firstGreatest_3 zy_X6_checkRange zm_X6_102 rfl rfl rfl rfl (Nat.le_of_ble_eq_true rfl) (by decide) (by decide)) (zlen2 14 rfl rfl) ?_
  refine z_aload_0 dX6_firstGreatest_6 ?_
  refine z_iload_1 dX6_firstGreatest_7 ?_
  refine z_iload_2 dX6_firstGreatest_8 ?_
  refine z_aload_0 dX6_firstGreatest_9 ?_
  refine z_get (k := 0) (v := .ref 1) dX6_firstGreatest_10 rfl rfl rfl (by decide) zf_X6_10 zw_in6 ?_
  refine z_iload_1 dX6_firstGreatest_13 ?_
  refine z_iload_2 dX6_firstGreatest_14 ?_
  refine Z.shs (qh S X R T) (zRun.V (ρ := zsh 1) (k_greatestOf T a b (by first | omega | assumption) (by first | omega | assumption)) dX6_firstGreatest_15 zy_X5_greatestOf zm_X6_175 rfl rfl rfl rfl (Nat.le_of_ble_eq_true rfl) (by decide) (by decide) (zsh_fix 1)) (zsh_inj (Nat.le_of_ble_eq_true rfl)) ⟨rfl, rfl, rfl, rfl, rfl, rfl, rfl, rfl, rfl, trivial⟩ (zlen2 9 rfl rfl) rfl rfl ?_
  refine Z.call0s (zRun.V (ρ := fun i => i) (k_c_6_firstWith a b (tMaxF (tva T) (b - a) (a + 1) (tva T a)) S X R T (by omega) (by omega)) dX6_firstGreatest_18 zy_X6_firstWith zm_X6_178 rfl rfl rfl rfl (Nat.le_of_ble_eq_true rfl) (by decide) (by decide)) (zlen2 14 rfl rfl) ?_
  rw [g_c_6_firstGreatest]
  exact z_iret dX6_firstGreatest_21 rfl (zint _) rfl rfl
theorem k_c_6_firstGreatest_x1 (n : Nat) (x : Int32) (z : Int32) (S : ZS) (X : ZS) (R : ZS) (T : TS) (hn : tn T = nI n) (h40 : n ≤ 40) (hx : ¬ (tIx T x ∧ tIx T z)) : zM sc yX6_firstGreatest cX6_firstGreatest 3 (some .int) 10 1 6 [.ref 0, .int (x), .int (z)] (qh S X R T) (.inr "java/lang/IndexOutOfBoundsException") (qh S X R T) := by
  refine zM.at (ls := [some (.ref 0), some (.int (x)), some (.int (z))]) zy_X6_firstGreatest.2.2.2.2.2 (Nat.le_of_ble_eq_true rfl) rfl ?_
  refine z_aload_0 dX6_firstGreatest_0 ?_
  refine z_iload_1 dX6_firstGreatest_1 ?_
  refine z_iload_2 dX6_firstGreatest_2 ?_
  exact Z.callX0 (zRun.V (ρ := fun i => i) (k_c_6_checkRange_x1 n (x) (z) S X R T hn h40 hx) dX6_firstGreatest_3 zy_X6_checkRange zm_X6_102 rfl rfl rfl rfl (Nat.le_of_ble_eq_true rfl) (by decide) (by decide)) (zlen2 14 rfl rfl) rfl rfl
theorem k_c_6_firstGreatest_x2 (n : Nat) (x : Int32) (z : Int32) (S : ZS) (X : ZS) (R : ZS) (T : TS) (hn : tn T = nI n) (h40 : n ≤ 40) (hx : tIx T x) (hz : tIx T z) (hzx : z < x) : zM sc yX6_firstGreatest cX6_firstGreatest 3 (some .int) 10 1 6 [.ref 0, .int (x), .int (z)] (qh S X R T) (.inr "java/lang/IllegalArgumentException") (qh S X R T) := by
  refine zM.at (ls := [some (.ref 0), some (.int (x)), some (.int (z))]) zy_X6_firstGreatest.2.2.2.2.2 (Nat.le_of_ble_eq_true rfl) rfl ?_
  refine z_aload_0 dX6_firstGreatest_0 ?_
  refine z_iload_1 dX6_firstGreatest_1 ?_
  refine z_iload_2 dX6_firstGreatest_2 ?_
  exact Z.callX0 (zRun.V (ρ := fun i => i) (k_c_6_checkRange_x2 n (x) (z) S X R T hn h40 hx hz hzx) dX6_firstGreatest_3 zy_X6_checkRange zm_X6_102 rfl rfl rfl rfl (Nat.le_of_ble_eq_true rfl) (by decide) (by decide)) (zlen2 14 rfl rfl) rfl rfl
noncomputable def g_c_6_leastCount (_n : Nat) (a : Nat) (b : Nat) (S : ZS) (X : ZS) (R : ZS) (T : TS) : Int32 := (g_c_6_countOf a b (tMinF (tva T) (b - a) (a + 1) (tva T a)) S X R T)
theorem k_c_6_leastCount (n : Nat) (a : Nat) (b : Nat) (S : ZS) (X : ZS) (R : ZS) (T : TS) (hn : tn T = nI n) (h40 : n ≤ 40) (hab : a ≤ b) (hbn : b < n) : zM sc yX6_leastCount cX6_leastCount 3 (some .int) 3 0 0 [.ref 0, .int (nI (a)), .int (nI (b))] (qh S X R T) (.inl (some (.int (g_c_6_leastCount n a b S X R T)))) (qh S X R T) := by
  refine zM.at (ls := [some (.ref 0), some (.int (nI (a))), some (.int (nI (b)))]) zy_X6_leastCount.2.2.2.2.2 (Nat.le_of_ble_eq_true rfl) rfl ?_
  refine z_aload_0 dX6_leastCount_0 ?_
  refine z_iload_1 dX6_leastCount_1 ?_
  refine z_iload_2 dX6_leastCount_2 ?_
  refine Z.call0n (zRun.V (ρ := fun i => i) (k_c_6_checkRange n a b S X R T (by first | omega | assumption) (by first | omega | assumption) (by first | omega | assumption) (by first | omega | assumption)) dX6_leastCount_3 zy_X6_checkRange zm_X6_102 rfl rfl rfl rfl (Nat.le_of_ble_eq_true rfl) (by decide) (by decide)) (zlen2 14 rfl rfl) ?_
  refine z_aload_0 dX6_leastCount_6 ?_
  refine z_iload_1 dX6_leastCount_7 ?_
  refine z_iload_2 dX6_leastCount_8 ?_
  refine z_aload_0 dX6_leastCount_9 ?_
  refine z_get (k := 0) (v := .ref 1) dX6_leastCount_10 rfl rfl rfl (by decide) zf_X6_10 zw_in6 ?_
  refine z_iload_1 dX6_leastCount_13 ?_
  refine z_iload_2 dX6_leastCount_14 ?_
  refine Z.shs (qh S X R T) (zRun.V (ρ := zsh 1) (k_leastOf T a b (by first | omega | assumption) (by first | omega | assumption)) dX6_leastCount_15 zy_X5_leastOf zm_X6_171 rfl rfl rfl rfl (Nat.le_of_ble_eq_true rfl) (by decide) (by decide) (zsh_fix 1)) (zsh_inj (Nat.le_of_ble_eq_true rfl)) ⟨rfl, rfl, rfl, rfl, rfl, rfl, rfl, rfl, rfl, trivial⟩ (zlen2 9 rfl rfl) rfl rfl ?_
  refine Z.call0s (zRun.V (ρ := fun i => i) (k_c_6_countOf a b (tMinF (tva T) (b - a) (a + 1) (tva T a)) S X R T (by omega) (by omega)) dX6_leastCount_18 zy_X6_countOf zm_X6_182 rfl rfl rfl rfl (Nat.le_of_ble_eq_true rfl) (by decide) (by decide)) (zlen2 14 rfl rfl) ?_
  rw [g_c_6_leastCount]
  exact z_iret dX6_leastCount_21 rfl (zint _) rfl rfl
theorem k_c_6_leastCount_x1 (n : Nat) (x : Int32) (z : Int32) (S : ZS) (X : ZS) (R : ZS) (T : TS) (hn : tn T = nI n) (h40 : n ≤ 40) (hx : ¬ (tIx T x ∧ tIx T z)) : zM sc yX6_leastCount cX6_leastCount 3 (some .int) 10 1 6 [.ref 0, .int (x), .int (z)] (qh S X R T) (.inr "java/lang/IndexOutOfBoundsException") (qh S X R T) := by
  refine zM.at (ls := [some (.ref 0), some (.int (x)), some (.int (z))]) zy_X6_leastCount.2.2.2.2.2 (Nat.le_of_ble_eq_true rfl) rfl ?_
  refine z_aload_0 dX6_leastCount_0 ?_
  refine z_iload_1 dX6_leastCount_1 ?_
  refine z_iload_2 dX6_leastCount_2 ?_
  exact Z.callX0 (zRun.V (ρ := fun i => i) (k_c_6_checkRange_x1 n (x) (z) S X R T hn h40 hx) dX6_leastCount_3 zy_X6_checkRange zm_X6_102 rfl rfl rfl rfl (Nat.le_of_ble_eq_true rfl) (by decide) (by decide)) (zlen2 14 rfl rfl) rfl rfl
theorem k_c_6_leastCount_x2 (n : Nat) (x : Int32) (z : Int32) (S : ZS) (X : ZS) (R : ZS) (T : TS) (hn : tn T = nI n) (h40 : n ≤ 40) (hx : tIx T x) (hz : tIx T z) (hzx : z < x) : zM sc yX6_leastCount cX6_leastCount 3 (some .int) 10 1 6 [.ref 0, .int (x), .int (z)] (qh S X R T) (.inr "java/lang/IllegalArgumentException") (qh S X R T) := by
  refine zM.at (ls := [some (.ref 0), some (.int (x)), some (.int (z))]) zy_X6_leastCount.2.2.2.2.2 (Nat.le_of_ble_eq_true rfl) rfl ?_
  refine z_aload_0 dX6_leastCount_0 ?_
  refine z_iload_1 dX6_leastCount_1 ?_
  refine z_iload_2 dX6_leastCount_2 ?_
  exact Z.callX0 (zRun.V (ρ := fun i => i) (k_c_6_checkRange_x2 n (x) (z) S X R T hn h40 hx hz hzx) dX6_leastCount_3 zy_X6_checkRange zm_X6_102 rfl rfl rfl rfl (Nat.le_of_ble_eq_true rfl) (by decide) (by decide)) (zlen2 14 rfl rfl) rfl rfl
noncomputable def g_c_6_greatestCount (_n : Nat) (a : Nat) (b : Nat) (S : ZS) (X : ZS) (R : ZS) (T : TS) : Int32 := (g_c_6_countOf a b (tMaxF (tva T) (b - a) (a + 1) (tva T a)) S X R T)
theorem k_c_6_greatestCount (n : Nat) (a : Nat) (b : Nat) (S : ZS) (X : ZS) (R : ZS) (T : TS) (hn : tn T = nI n) (h40 : n ≤ 40) (hab : a ≤ b) (hbn : b < n) : zM sc yX6_greatestCount cX6_greatestCount 3 (some .int) 3 0 0 [.ref 0, .int (nI (a)), .int (nI (b))] (qh S X R T) (.inl (some (.int (g_c_6_greatestCount n a b S X R T)))) (qh S X R T) := by
  refine zM.at (ls := [some (.ref 0), some (.int (nI (a))), some (.int (nI (b)))]) zy_X6_greatestCount.2.2.2.2.2 (Nat.le_of_ble_eq_true rfl) rfl ?_
  refine z_aload_0 dX6_greatestCount_0 ?_
  refine z_iload_1 dX6_greatestCount_1 ?_
  refine z_iload_2 dX6_greatestCount_2 ?_
  refine Z.call0n (zRun.V (ρ := fun i => i) (k_c_6_checkRange n a b S X R T (by first | omega | assumption) (by first | omega | assumption) (by first | omega | assumption) (by first | omega | assumption)) dX6_greatestCount_3 zy_X6_checkRange zm_X6_102 rfl rfl rfl rfl (Nat.le_of_ble_eq_true rfl) (by decide) (by decide)) (zlen2 14 rfl rfl) ?_
  refine z_aload_0 dX6_greatestCount_6 ?_
  refine z_iload_1 dX6_greatestCount_7 ?_
  refine z_iload_2 dX6_greatestCount_8 ?_
  refine z_aload_0 dX6_greatestCount_9 ?_
  refine z_get (k := 0) (v := .ref 1) dX6_greatestCount_10 rfl rfl rfl (by decide) zf_X6_10 zw_in6 ?_
  refine z_iload_1 dX6_greatestCount_13 ?_
  refine z_iload_2 dX6_greatestCount_14 ?_
  refine Z.shs (qh S X R T) (zRun.V (ρ := zsh 1) (k_greatestOf T a b (by first | omega | assumption) (by first | omega | assumption)) dX6_greatestCount_15 zy_X5_greatestOf zm_X6_175 rfl rfl rfl rfl (Nat.le_of_ble_eq_true rfl) (by decide) (by decide) (zsh_fix 1)) (zsh_inj (Nat.le_of_ble_eq_true rfl)) ⟨rfl, rfl, rfl, rfl, rfl, rfl, rfl, rfl, rfl, trivial⟩ (zlen2 9 rfl rfl) rfl rfl ?_
  refine Z.call0s (zRun.V (ρ := fun i => i) (k_c_6_countOf a b (tMaxF (tva T) (b - a) (a + 1) (tva T a)) S X R T (by omega) (by omega)) dX6_greatestCount_18 zy_X6_countOf zm_X6_182 rfl rfl rfl rfl (Nat.le_of_ble_eq_true rfl) (by decide) (by decide)) (zlen2 14 rfl rfl) ?_
  rw [g_c_6_greatestCount]
  exact z_iret dX6_greatestCount_21 rfl (zint _) rfl rfl
theorem k_c_6_greatestCount_x1 (n : Nat) (x : Int32) (z : Int32) (S : ZS) (X : ZS) (R : ZS) (T : TS) (hn : tn T = nI n) (h40 : n ≤ 40) (hx : ¬ (tIx T x ∧ tIx T z)) : zM sc yX6_greatestCount cX6_greatestCount 3 (some .int) 10 1 6 [.ref 0, .int (x), .int (z)] (qh S X R T) (.inr "java/lang/IndexOutOfBoundsException") (qh S X R T) := by
  refine zM.at (ls := [some (.ref 0), some (.int (x)), some (.int (z))]) zy_X6_greatestCount.2.2.2.2.2 (Nat.le_of_ble_eq_true rfl) rfl ?_
  refine z_aload_0 dX6_greatestCount_0 ?_
  refine z_iload_1 dX6_greatestCount_1 ?_
  refine z_iload_2 dX6_greatestCount_2 ?_
  exact Z.callX0 (zRun.V (ρ := fun i => i) (k_c_6_checkRange_x1 n (x) (z) S X R T hn h40 hx) dX6_greatestCount_3 zy_X6_checkRange zm_X6_102 rfl rfl rfl rfl (Nat.le_of_ble_eq_true rfl) (by decide) (by decide)) (zlen2 14 rfl rfl) rfl rfl
theorem k_c_6_greatestCount_x2 (n : Nat) (x : Int32) (z : Int32) (S : ZS) (X : ZS) (R : ZS) (T : TS) (hn : tn T = nI n) (h40 : n ≤ 40) (hx : tIx T x) (hz : tIx T z) (hzx : z < x) : zM sc yX6_greatestCount cX6_greatestCount 3 (some .int) 10 1 6 [.ref 0, .int (x), .int (z)] (qh S X R T) (.inr "java/lang/IllegalArgumentException") (qh S X R T) := by
  refine zM.at (ls := [some (.ref 0), some (.int (x)), some (.int (z))]) zy_X6_greatestCount.2.2.2.2.2 (Nat.le_of_ble_eq_true rfl) rfl ?_
  refine z_aload_0 dX6_greatestCount_0 ?_
  refine z_iload_1 dX6_greatestCount_1 ?_
  refine z_iload_2 dX6_greatestCount_2 ?_
  exact Z.callX0 (zRun.V (ρ := fun i => i) (k_c_6_checkRange_x2 n (x) (z) S X R T hn h40 hx hz hzx) dX6_greatestCount_3 zy_X6_checkRange zm_X6_102 rfl rfl rfl rfl (Nat.le_of_ble_eq_true rfl) (by decide) (by decide)) (zlen2 14 rfl rfl) rfl rfl
noncomputable def g_c_6_runCount_L (n : Nat) (a : Nat) (b : Nat) : Nat → Nat → Int32 → ZS → ZS → ZS → TS → Int32
  | 0, _, c, _, _, _, _ => c
  | fu + 1, k, c, S, X, R, T => (if (g_c_6_stepTo k S X R T) = 0 then g_c_6_runCount_L n a b fu (k + 1) c S X R T else g_c_6_runCount_L n a b fu (k + 1) (c + 1) S X R T)
theorem l_g_c_6_runCount_L (n : Nat) (a : Nat) (b : Nat) : ∀ (fu : Nat) (k : Nat) (c : Int32) (S : ZS) (X : ZS) (R : ZS) (T : TS) , (b < n) → (n ≤ 40) → (k + fu = b + 1) → (1 ≤ k) → Z sc yX6_runCount cX6_runCount 5 (some .int) 3 0 0 13 [some (.ref 0), some (.int (nI (a))), some (.int (nI (b))), some (.int (c)), some (.int (nI (k)))] [] (qh S X R T) (.inl (some (.int (g_c_6_runCount_L n a b fu k c S X R T)))) (qh S X R T) := by
  intro fu
  induction fu with
  | zero =>
    intro k c S X R T hbn h40 hk hk1
    refine z_iload_4 dX6_runCount_13 ?_
    refine z_iload_2 dX6_runCount_15 ?_
    refine z_icmpN_gt_t (tgt := 37) dX6_runCount_16 (by decide) (x := k) (z := b) (by first | omega | assumption) (by first | omega | assumption) (by omega) ?_
    refine z_iload_3 dX6_runCount_37 ?_
    rw [g_c_6_runCount_L]
    exact z_iret dX6_runCount_38 rfl (zint _) rfl rfl
  | succ fu ih =>
    intro k c S X R T hbn h40 hk hk1
    refine z_iload_4 dX6_runCount_13 ?_
    refine z_iload_2 dX6_runCount_15 ?_
    refine z_icmpN_gt_f (tgt := 37) dX6_runCount_16 (by decide) (x := k) (z := b) (by first | omega | assumption) (by first | omega | assumption) (by omega) ?_
    refine z_aload_0 dX6_runCount_19 ?_
    refine z_iload_4 dX6_runCount_20 ?_
    refine Z.call0s (zRun.V (ρ := fun i => i) (k_c_6_stepTo k S X R T (by first | omega | assumption) (by first | omega | assumption)) dX6_runCount_22 zy_X6_stepTo zm_X6_185 rfl rfl rfl rfl (Nat.le_of_ble_eq_true rfl) (by decide) (by decide)) (zlen2 14 rfl rfl) ?_
    refine z_if_eq (tgt := 31) dX6_runCount_25 (by decide) (fun c25 => ?_) (fun c25 => ?_)
    · refine z_iinc_4 (v := nI (k + 1)) dX6_runCount_31 (nI_add _ 1) rfl (by decide) ?_
      refine z_goto (tgt := 13) dX6_runCount_34 (by decide) ?_
      rw [g_c_6_runCount_L, if_pos c25]
      exact ih (k + 1) c S X R T (by first | omega | assumption) (by first | omega | assumption) (by first | omega | assumption) (by first | omega | assumption)
    · refine z_iinc_3 (v := c + 1) dX6_runCount_28 rfl rfl (by decide) ?_
      refine z_iinc_4 (v := nI (k + 1)) dX6_runCount_31 (nI_add _ 1) rfl (by decide) ?_
      refine z_goto (tgt := 13) dX6_runCount_34 (by decide) ?_
      rw [g_c_6_runCount_L, if_neg c25]
      exact ih (k + 1) (c + 1) S X R T (by first | omega | assumption) (by first | omega | assumption) (by first | omega | assumption) (by first | omega | assumption)
noncomputable def g_c_6_runCount (n : Nat) (a : Nat) (b : Nat) (S : ZS) (X : ZS) (R : ZS) (T : TS) : Int32 := g_c_6_runCount_L n a b (b - a) (a + 1) 1 S X R T
theorem k_c_6_runCount (n : Nat) (a : Nat) (b : Nat) (S : ZS) (X : ZS) (R : ZS) (T : TS) (hn : tn T = nI n) (h40 : n ≤ 40) (hab : a ≤ b) (hbn : b < n) : zM sc yX6_runCount cX6_runCount 5 (some .int) 3 0 0 [.ref 0, .int (nI (a)), .int (nI (b))] (qh S X R T) (.inl (some (.int (g_c_6_runCount n a b S X R T)))) (qh S X R T) := by
  refine zM.at (ls := [some (.ref 0), some (.int (nI (a))), some (.int (nI (b))), none, none]) zy_X6_runCount.2.2.2.2.2 (Nat.le_of_ble_eq_true rfl) rfl ?_
  refine z_aload_0 dX6_runCount_0 ?_
  refine z_iload_1 dX6_runCount_1 ?_
  refine z_iload_2 dX6_runCount_2 ?_
  refine Z.call0n (zRun.V (ρ := fun i => i) (k_c_6_checkRange n a b S X R T (by first | omega | assumption) (by first | omega | assumption) (by first | omega | assumption) (by first | omega | assumption)) dX6_runCount_3 zy_X6_checkRange zm_X6_102 rfl rfl rfl rfl (Nat.le_of_ble_eq_true rfl) (by decide) (by decide)) (zlen2 14 rfl rfl) ?_
  refine z_iconst (v := 1) dX6_runCount_6 rfl ?_
  refine z_istore_3 dX6_runCount_7 rfl (by decide) ?_
  refine z_iload_1 dX6_runCount_8 ?_
  refine z_iconst (v := 1) dX6_runCount_9 rfl ?_
  refine z_iadd dX6_runCount_10 ?_
  refine z_topi (w := nI (a + 1)) (nI_add _ _) ?_
  refine z_istore_4 dX6_runCount_11 rfl (by decide) ?_
  rw [g_c_6_runCount]
  exact l_g_c_6_runCount_L n a b (b - a) (a + 1) 1 S X R T (by first | omega | assumption) (by first | omega | assumption) (by first | omega | assumption) (by first | omega | assumption)
theorem k_c_6_runCount_x1 (n : Nat) (x : Int32) (z : Int32) (S : ZS) (X : ZS) (R : ZS) (T : TS) (hn : tn T = nI n) (h40 : n ≤ 40) (hx : ¬ (tIx T x ∧ tIx T z)) : zM sc yX6_runCount cX6_runCount 5 (some .int) 10 1 6 [.ref 0, .int (x), .int (z)] (qh S X R T) (.inr "java/lang/IndexOutOfBoundsException") (qh S X R T) := by
  refine zM.at (ls := [some (.ref 0), some (.int (x)), some (.int (z)), none, none]) zy_X6_runCount.2.2.2.2.2 (Nat.le_of_ble_eq_true rfl) rfl ?_
  refine z_aload_0 dX6_runCount_0 ?_
  refine z_iload_1 dX6_runCount_1 ?_
  refine z_iload_2 dX6_runCount_2 ?_
  exact Z.callX0 (zRun.V (ρ := fun i => i) (k_c_6_checkRange_x1 n (x) (z) S X R T hn h40 hx) dX6_runCount_3 zy_X6_checkRange zm_X6_102 rfl rfl rfl rfl (Nat.le_of_ble_eq_true rfl) (by decide) (by decide)) (zlen2 14 rfl rfl) rfl rfl
theorem k_c_6_runCount_x2 (n : Nat) (x : Int32) (z : Int32) (S : ZS) (X : ZS) (R : ZS) (T : TS) (hn : tn T = nI n) (h40 : n ≤ 40) (hx : tIx T x) (hz : tIx T z) (hzx : z < x) : zM sc yX6_runCount cX6_runCount 5 (some .int) 10 1 6 [.ref 0, .int (x), .int (z)] (qh S X R T) (.inr "java/lang/IllegalArgumentException") (qh S X R T) := by
  refine zM.at (ls := [some (.ref 0), some (.int (x)), some (.int (z)), none, none]) zy_X6_runCount.2.2.2.2.2 (Nat.le_of_ble_eq_true rfl) rfl ?_
  refine z_aload_0 dX6_runCount_0 ?_
  refine z_iload_1 dX6_runCount_1 ?_
  refine z_iload_2 dX6_runCount_2 ?_
  exact Z.callX0 (zRun.V (ρ := fun i => i) (k_c_6_checkRange_x2 n (x) (z) S X R T hn h40 hx hz hzx) dX6_runCount_3 zy_X6_checkRange zm_X6_102 rfl rfl rfl rfl (Nat.le_of_ble_eq_true rfl) (by decide) (by decide)) (zlen2 14 rfl rfl) rfl rfl
noncomputable def g_c_6_isAscending_L (n : Nat) (a : Nat) (b : Nat) : Nat → Nat → ZS → ZS → ZS → TS → Bool
  | 0, _, _, _, _, _ => true
  | fu + 1, k, S, X, R, T => (if 0 ≤ (g_c_6_stepTo k S X R T) then g_c_6_isAscending_L n a b fu (k + 1) S X R T else false)
theorem l_g_c_6_isAscending_L (n : Nat) (a : Nat) (b : Nat) : ∀ (fu : Nat) (k : Nat) (S : ZS) (X : ZS) (R : ZS) (T : TS) , (b < n) → (n ≤ 40) → (k + fu = b + 1) → (1 ≤ k) → Z sc yX6_isAscending cX6_isAscending 4 (some .boolean) 3 0 0 10 [some (.ref 0), some (.int (nI (a))), some (.int (nI (b))), some (.int (nI (k)))] [] (qh S X R T) (.inl (some (.int (zb (g_c_6_isAscending_L n a b fu k S X R T))))) (qh S X R T) := by
  intro fu
  induction fu with
  | zero =>
    intro k S X R T hbn h40 hk hk1
    refine z_iload_3 dX6_isAscending_10 ?_
    refine z_iload_2 dX6_isAscending_11 ?_
    refine z_icmpN_gt_t (tgt := 31) dX6_isAscending_12 (by decide) (x := k) (z := b) (by first | omega | assumption) (by first | omega | assumption) (by omega) ?_
    refine z_iconst (v := 1) dX6_isAscending_31 rfl ?_
    rw [g_c_6_isAscending_L]
    exact z_iret dX6_isAscending_32 rfl rfl rfl rfl
  | succ fu ih =>
    intro k S X R T hbn h40 hk hk1
    refine z_iload_3 dX6_isAscending_10 ?_
    refine z_iload_2 dX6_isAscending_11 ?_
    refine z_icmpN_gt_f (tgt := 31) dX6_isAscending_12 (by decide) (x := k) (z := b) (by first | omega | assumption) (by first | omega | assumption) (by omega) ?_
    refine z_aload_0 dX6_isAscending_15 ?_
    refine z_iload_3 dX6_isAscending_16 ?_
    refine Z.call0s (zRun.V (ρ := fun i => i) (k_c_6_stepTo k S X R T (by first | omega | assumption) (by first | omega | assumption)) dX6_isAscending_17 zy_X6_stepTo zm_X6_185 rfl rfl rfl rfl (Nat.le_of_ble_eq_true rfl) (by decide) (by decide)) (zlen2 14 rfl rfl) ?_
    refine z_if_ge (tgt := 25) dX6_isAscending_20 (by decide) (fun c20 => ?_) (fun c20 => ?_)
    · refine z_iinc_3 (v := nI (k + 1)) dX6_isAscending_25 (nI_add _ 1) rfl (by decide) ?_
      refine z_goto (tgt := 10) dX6_isAscending_28 (by decide) ?_
      rw [g_c_6_isAscending_L, if_pos c20]
      exact ih (k + 1) S X R T (by first | omega | assumption) (by first | omega | assumption) (by first | omega | assumption) (by first | omega | assumption)
    · refine z_iconst (v := 0) dX6_isAscending_23 rfl ?_
      rw [g_c_6_isAscending_L, if_neg c20]
      exact z_iret dX6_isAscending_24 rfl rfl rfl rfl
noncomputable def g_c_6_isAscending (n : Nat) (a : Nat) (b : Nat) (S : ZS) (X : ZS) (R : ZS) (T : TS) : Bool := g_c_6_isAscending_L n a b (b - a) (a + 1) S X R T
theorem k_c_6_isAscending (n : Nat) (a : Nat) (b : Nat) (S : ZS) (X : ZS) (R : ZS) (T : TS) (hn : tn T = nI n) (h40 : n ≤ 40) (hab : a ≤ b) (hbn : b < n) : zM sc yX6_isAscending cX6_isAscending 4 (some .boolean) 3 0 0 [.ref 0, .int (nI (a)), .int (nI (b))] (qh S X R T) (.inl (some (.int (zb (g_c_6_isAscending n a b S X R T))))) (qh S X R T) := by
  refine zM.at (ls := [some (.ref 0), some (.int (nI (a))), some (.int (nI (b))), none]) zy_X6_isAscending.2.2.2.2.2 (Nat.le_of_ble_eq_true rfl) rfl ?_
  refine z_aload_0 dX6_isAscending_0 ?_
  refine z_iload_1 dX6_isAscending_1 ?_
  refine z_iload_2 dX6_isAscending_2 ?_
  refine Z.call0n (zRun.V (ρ := fun i => i) (k_c_6_checkRange n a b S X R T (by first | omega | assumption) (by first | omega | assumption) (by first | omega | assumption) (by first | omega | assumption)) dX6_isAscending_3 zy_X6_checkRange zm_X6_102 rfl rfl rfl rfl (Nat.le_of_ble_eq_true rfl) (by decide) (by decide)) (zlen2 14 rfl rfl) ?_
  refine z_iload_1 dX6_isAscending_6 ?_
  refine z_iconst (v := 1) dX6_isAscending_7 rfl ?_
  refine z_iadd dX6_isAscending_8 ?_
  refine z_topi (w := nI (a + 1)) (nI_add _ _) ?_
  refine z_istore_3 dX6_isAscending_9 rfl (by decide) ?_
  rw [g_c_6_isAscending]
  exact l_g_c_6_isAscending_L n a b (b - a) (a + 1) S X R T (by first | omega | assumption) (by first | omega | assumption) (by first | omega | assumption) (by first | omega | assumption)
theorem k_c_6_isAscending_x1 (n : Nat) (x : Int32) (z : Int32) (S : ZS) (X : ZS) (R : ZS) (T : TS) (hn : tn T = nI n) (h40 : n ≤ 40) (hx : ¬ (tIx T x ∧ tIx T z)) : zM sc yX6_isAscending cX6_isAscending 4 (some .boolean) 10 1 6 [.ref 0, .int (x), .int (z)] (qh S X R T) (.inr "java/lang/IndexOutOfBoundsException") (qh S X R T) := by
  refine zM.at (ls := [some (.ref 0), some (.int (x)), some (.int (z)), none]) zy_X6_isAscending.2.2.2.2.2 (Nat.le_of_ble_eq_true rfl) rfl ?_
  refine z_aload_0 dX6_isAscending_0 ?_
  refine z_iload_1 dX6_isAscending_1 ?_
  refine z_iload_2 dX6_isAscending_2 ?_
  exact Z.callX0 (zRun.V (ρ := fun i => i) (k_c_6_checkRange_x1 n (x) (z) S X R T hn h40 hx) dX6_isAscending_3 zy_X6_checkRange zm_X6_102 rfl rfl rfl rfl (Nat.le_of_ble_eq_true rfl) (by decide) (by decide)) (zlen2 14 rfl rfl) rfl rfl
theorem k_c_6_isAscending_x2 (n : Nat) (x : Int32) (z : Int32) (S : ZS) (X : ZS) (R : ZS) (T : TS) (hn : tn T = nI n) (h40 : n ≤ 40) (hx : tIx T x) (hz : tIx T z) (hzx : z < x) : zM sc yX6_isAscending cX6_isAscending 4 (some .boolean) 10 1 6 [.ref 0, .int (x), .int (z)] (qh S X R T) (.inr "java/lang/IllegalArgumentException") (qh S X R T) := by
  refine zM.at (ls := [some (.ref 0), some (.int (x)), some (.int (z)), none]) zy_X6_isAscending.2.2.2.2.2 (Nat.le_of_ble_eq_true rfl) rfl ?_
  refine z_aload_0 dX6_isAscending_0 ?_
  refine z_iload_1 dX6_isAscending_1 ?_
  refine z_iload_2 dX6_isAscending_2 ?_
  exact Z.callX0 (zRun.V (ρ := fun i => i) (k_c_6_checkRange_x2 n (x) (z) S X R T hn h40 hx hz hzx) dX6_isAscending_3 zy_X6_checkRange zm_X6_102 rfl rfl rfl rfl (Nat.le_of_ble_eq_true rfl) (by decide) (by decide)) (zlen2 14 rfl rfl) rfl rfl
noncomputable def g_c_6_isDescending_L (n : Nat) (a : Nat) (b : Nat) : Nat → Nat → ZS → ZS → ZS → TS → Bool
  | 0, _, _, _, _, _ => true
  | fu + 1, k, S, X, R, T => (if (g_c_6_stepTo k S X R T) ≤ 0 then g_c_6_isDescending_L n a b fu (k + 1) S X R T else false)
theorem l_g_c_6_isDescending_L (n : Nat) (a : Nat) (b : Nat) : ∀ (fu : Nat) (k : Nat) (S : ZS) (X : ZS) (R : ZS) (T : TS) , (b < n) → (n ≤ 40) → (k + fu = b + 1) → (1 ≤ k) → Z sc yX6_isDescending cX6_isDescending 4 (some .boolean) 3 0 0 10 [some (.ref 0), some (.int (nI (a))), some (.int (nI (b))), some (.int (nI (k)))] [] (qh S X R T) (.inl (some (.int (zb (g_c_6_isDescending_L n a b fu k S X R T))))) (qh S X R T) := by
  intro fu
  induction fu with
  | zero =>
    intro k S X R T hbn h40 hk hk1
    refine z_iload_3 dX6_isDescending_10 ?_
    refine z_iload_2 dX6_isDescending_11 ?_
    refine z_icmpN_gt_t (tgt := 31) dX6_isDescending_12 (by decide) (x := k) (z := b) (by first | omega | assumption) (by first | omega | assumption) (by omega) ?_
    refine z_iconst (v := 1) dX6_isDescending_31 rfl ?_
    rw [g_c_6_isDescending_L]
    exact z_iret dX6_isDescending_32 rfl rfl rfl rfl
  | succ fu ih =>
    intro k S X R T hbn h40 hk hk1
    refine z_iload_3 dX6_isDescending_10 ?_
    refine z_iload_2 dX6_isDescending_11 ?_
    refine z_icmpN_gt_f (tgt := 31) dX6_isDescending_12 (by decide) (x := k) (z := b) (by first | omega | assumption) (by first | omega | assumption) (by omega) ?_
    refine z_aload_0 dX6_isDescending_15 ?_
    refine z_iload_3 dX6_isDescending_16 ?_
    refine Z.call0s (zRun.V (ρ := fun i => i) (k_c_6_stepTo k S X R T (by first | omega | assumption) (by first | omega | assumption)) dX6_isDescending_17 zy_X6_stepTo zm_X6_185 rfl rfl rfl rfl (Nat.le_of_ble_eq_true rfl) (by decide) (by decide)) (zlen2 14 rfl rfl) ?_
    refine z_if_le (tgt := 25) dX6_isDescending_20 (by decide) (fun c20 => ?_) (fun c20 => ?_)
    · refine z_iinc_3 (v := nI (k + 1)) dX6_isDescending_25 (nI_add _ 1) rfl (by decide) ?_
      refine z_goto (tgt := 10) dX6_isDescending_28 (by decide) ?_
      rw [g_c_6_isDescending_L, if_pos c20]
      exact ih (k + 1) S X R T (by first | omega | assumption) (by first | omega | assumption) (by first | omega | assumption) (by first | omega | assumption)
    · refine z_iconst (v := 0) dX6_isDescending_23 rfl ?_
      rw [g_c_6_isDescending_L, if_neg c20]
      exact z_iret dX6_isDescending_24 rfl rfl rfl rfl
noncomputable def g_c_6_isDescending (n : Nat) (a : Nat) (b : Nat) (S : ZS) (X : ZS) (R : ZS) (T : TS) : Bool := g_c_6_isDescending_L n a b (b - a) (a + 1) S X R T
theorem k_c_6_isDescending (n : Nat) (a : Nat) (b : Nat) (S : ZS) (X : ZS) (R : ZS) (T : TS) (hn : tn T = nI n) (h40 : n ≤ 40) (hab : a ≤ b) (hbn : b < n) : zM sc yX6_isDescending cX6_isDescending 4 (some .boolean) 3 0 0 [.ref 0, .int (nI (a)), .int (nI (b))] (qh S X R T) (.inl (some (.int (zb (g_c_6_isDescending n a b S X R T))))) (qh S X R T) := by
  refine zM.at (ls := [some (.ref 0), some (.int (nI (a))), some (.int (nI (b))), none]) zy_X6_isDescending.2.2.2.2.2 (Nat.le_of_ble_eq_true rfl) rfl ?_
  refine z_aload_0 dX6_isDescending_0 ?_
  refine z_iload_1 dX6_isDescending_1 ?_
  refine z_iload_2 dX6_isDescending_2 ?_
  refine Z.call0n (zRun.V (ρ := fun i => i) (k_c_6_checkRange n a b S X R T (by first | omega | assumption) (by first | omega | assumption) (by first | omega | assumption) (by first | omega | assumption)) dX6_isDescending_3 zy_X6_checkRange zm_X6_102 rfl rfl rfl rfl (Nat.le_of_ble_eq_true rfl) (by decide) (by decide)) (zlen2 14 rfl rfl) ?_
  refine z_iload_1 dX6_isDescending_6 ?_
  refine z_iconst (v := 1) dX6_isDescending_7 rfl ?_
  refine z_iadd dX6_isDescending_8 ?_
  refine z_topi (w := nI (a + 1)) (nI_add _ _) ?_
  refine z_istore_3 dX6_isDescending_9 rfl (by decide) ?_
  rw [g_c_6_isDescending]
  exact l_g_c_6_isDescending_L n a b (b - a) (a + 1) S X R T (by first | omega | assumption) (by first | omega | assumption) (by first | omega | assumption) (by first | omega | assumption)
theorem k_c_6_isDescending_x1 (n : Nat) (x : Int32) (z : Int32) (S : ZS) (X : ZS) (R : ZS) (T : TS) (hn : tn T = nI n) (h40 : n ≤ 40) (hx : ¬ (tIx T x ∧ tIx T z)) : zM sc yX6_isDescending cX6_isDescending 4 (some .boolean) 10 1 6 [.ref 0, .int (x), .int (z)] (qh S X R T) (.inr "java/lang/IndexOutOfBoundsException") (qh S X R T) := by
  refine zM.at (ls := [some (.ref 0), some (.int (x)), some (.int (z)), none]) zy_X6_isDescending.2.2.2.2.2 (Nat.le_of_ble_eq_true rfl) rfl ?_
  refine z_aload_0 dX6_isDescending_0 ?_
  refine z_iload_1 dX6_isDescending_1 ?_
  refine z_iload_2 dX6_isDescending_2 ?_
  exact Z.callX0 (zRun.V (ρ := fun i => i) (k_c_6_checkRange_x1 n (x) (z) S X R T hn h40 hx) dX6_isDescending_3 zy_X6_checkRange zm_X6_102 rfl rfl rfl rfl (Nat.le_of_ble_eq_true rfl) (by decide) (by decide)) (zlen2 14 rfl rfl) rfl rfl
theorem k_c_6_isDescending_x2 (n : Nat) (x : Int32) (z : Int32) (S : ZS) (X : ZS) (R : ZS) (T : TS) (hn : tn T = nI n) (h40 : n ≤ 40) (hx : tIx T x) (hz : tIx T z) (hzx : z < x) : zM sc yX6_isDescending cX6_isDescending 4 (some .boolean) 10 1 6 [.ref 0, .int (x), .int (z)] (qh S X R T) (.inr "java/lang/IllegalArgumentException") (qh S X R T) := by
  refine zM.at (ls := [some (.ref 0), some (.int (x)), some (.int (z)), none]) zy_X6_isDescending.2.2.2.2.2 (Nat.le_of_ble_eq_true rfl) rfl ?_
  refine z_aload_0 dX6_isDescending_0 ?_
  refine z_iload_1 dX6_isDescending_1 ?_
  refine z_iload_2 dX6_isDescending_2 ?_
  exact Z.callX0 (zRun.V (ρ := fun i => i) (k_c_6_checkRange_x2 n (x) (z) S X R T hn h40 hx hz hzx) dX6_isDescending_3 zy_X6_checkRange zm_X6_102 rfl rfl rfl rfl (Nat.le_of_ble_eq_true rfl) (by decide) (by decide)) (zlen2 14 rfl rfl) rfl rfl
noncomputable def g_c_6_steepestStep_L (n : Nat) (a : Nat) (b : Nat) : Nat → Nat → Int32 → ZS → ZS → ZS → TS → Int32
  | 0, _, c, _, _, _, _ => c
  | fu + 1, k, c, S, X, R, T => g_c_6_steepestStep_L n a b fu (k + 1) (zmax (c) (zabs ((g_c_6_stepTo k S X R T)))) S X R T
theorem l_g_c_6_steepestStep_L (n : Nat) (a : Nat) (b : Nat) : ∀ (fu : Nat) (k : Nat) (c : Int32) (S : ZS) (X : ZS) (R : ZS) (T : TS) , (b < n) → (n ≤ 40) → (k + fu = b + 1) → (1 ≤ k) → Z sc yX6_steepestStep cX6_steepestStep 5 (some .int) 3 0 0 13 [some (.ref 0), some (.int (nI (a))), some (.int (nI (b))), some (.int (c)), some (.int (nI (k)))] [] (qh S X R T) (.inl (some (.int (g_c_6_steepestStep_L n a b fu k c S X R T)))) (qh S X R T) := by
  intro fu
  induction fu with
  | zero =>
    intro k c S X R T hbn h40 hk hk1
    refine z_iload_4 dX6_steepestStep_13 ?_
    refine z_iload_2 dX6_steepestStep_15 ?_
    refine z_icmpN_gt_t (tgt := 39) dX6_steepestStep_16 (by decide) (x := k) (z := b) (by first | omega | assumption) (by first | omega | assumption) (by omega) ?_
    refine z_iload_3 dX6_steepestStep_39 ?_
    rw [g_c_6_steepestStep_L]
    exact z_iret dX6_steepestStep_40 rfl (zint _) rfl rfl
  | succ fu ih =>
    intro k c S X R T hbn h40 hk hk1
    refine z_iload_4 dX6_steepestStep_13 ?_
    refine z_iload_2 dX6_steepestStep_15 ?_
    refine z_icmpN_gt_f (tgt := 39) dX6_steepestStep_16 (by decide) (x := k) (z := b) (by first | omega | assumption) (by first | omega | assumption) (by omega) ?_
    refine z_iload_3 dX6_steepestStep_19 ?_
    refine z_aload_0 dX6_steepestStep_20 ?_
    refine z_iload_4 dX6_steepestStep_21 ?_
    refine Z.call0s (zRun.V (ρ := fun i => i) (k_c_6_stepTo k S X R T (by first | omega | assumption) (by first | omega | assumption)) dX6_steepestStep_23 zy_X6_stepTo zm_X6_185 rfl rfl rfl rfl (Nat.le_of_ble_eq_true rfl) (by decide) (by decide)) (zlen2 14 rfl rfl) ?_
    refine z_mb dX6_steepestStep_26 zm_X6_188 (by decide) (Nat.le_of_ble_eq_true rfl) ?_
    refine z_topi (w := zabs ((g_c_6_stepTo k S X R T))) rfl ?_
    refine z_mx dX6_steepestStep_29 zm_X6_193 (by decide) (Nat.le_of_ble_eq_true rfl) ?_
    refine z_topi (w := zmax (c) (zabs ((g_c_6_stepTo k S X R T)))) rfl ?_
    refine z_istore_3 dX6_steepestStep_32 rfl (by decide) ?_
    refine z_iinc_4 (v := nI (k + 1)) dX6_steepestStep_33 (nI_add _ 1) rfl (by decide) ?_
    refine z_goto (tgt := 13) dX6_steepestStep_36 (by decide) ?_
    rw [g_c_6_steepestStep_L]
    exact ih (k + 1) (zmax (c) (zabs ((g_c_6_stepTo k S X R T)))) S X R T (by first | omega | assumption) (by first | omega | assumption) (by first | omega | assumption) (by first | omega | assumption)
noncomputable def g_c_6_steepestStep (n : Nat) (a : Nat) (b : Nat) (S : ZS) (X : ZS) (R : ZS) (T : TS) : Int32 := g_c_6_steepestStep_L n a b (b - a) (a + 1) 0 S X R T
theorem k_c_6_steepestStep (n : Nat) (a : Nat) (b : Nat) (S : ZS) (X : ZS) (R : ZS) (T : TS) (hn : tn T = nI n) (h40 : n ≤ 40) (hab : a ≤ b) (hbn : b < n) : zM sc yX6_steepestStep cX6_steepestStep 5 (some .int) 3 0 0 [.ref 0, .int (nI (a)), .int (nI (b))] (qh S X R T) (.inl (some (.int (g_c_6_steepestStep n a b S X R T)))) (qh S X R T) := by
  refine zM.at (ls := [some (.ref 0), some (.int (nI (a))), some (.int (nI (b))), none, none]) zy_X6_steepestStep.2.2.2.2.2 (Nat.le_of_ble_eq_true rfl) rfl ?_
  refine z_aload_0 dX6_steepestStep_0 ?_
  refine z_iload_1 dX6_steepestStep_1 ?_
  refine z_iload_2 dX6_steepestStep_2 ?_
  refine Z.call0n (zRun.V (ρ := fun i => i) (k_c_6_checkRange n a b S X R T (by first | omega | assumption) (by first | omega | assumption) (by first | omega | assumption) (by first | omega | assumption)) dX6_steepestStep_3 zy_X6_checkRange zm_X6_102 rfl rfl rfl rfl (Nat.le_of_ble_eq_true rfl) (by decide) (by decide)) (zlen2 14 rfl rfl) ?_
  refine z_iconst (v := 0) dX6_steepestStep_6 rfl ?_
  refine z_istore_3 dX6_steepestStep_7 rfl (by decide) ?_
  refine z_iload_1 dX6_steepestStep_8 ?_
  refine z_iconst (v := 1) dX6_steepestStep_9 rfl ?_
  refine z_iadd dX6_steepestStep_10 ?_
  refine z_topi (w := nI (a + 1)) (nI_add _ _) ?_
  refine z_istore_4 dX6_steepestStep_11 rfl (by decide) ?_
  rw [g_c_6_steepestStep]
  exact l_g_c_6_steepestStep_L n a b (b - a) (a + 1) 0 S X R T (by first | omega | assumption) (by first | omega | assumption) (by first | omega | assumption) (by first | omega | assumption)
theorem k_c_6_steepestStep_x1 (n : Nat) (x : Int32) (z : Int32) (S : ZS) (X : ZS) (R : ZS) (T : TS) (hn : tn T = nI n) (h40 : n ≤ 40) (hx : ¬ (tIx T x ∧ tIx T z)) : zM sc yX6_steepestStep cX6_steepestStep 5 (some .int) 10 1 6 [.ref 0, .int (x), .int (z)] (qh S X R T) (.inr "java/lang/IndexOutOfBoundsException") (qh S X R T) := by
  refine zM.at (ls := [some (.ref 0), some (.int (x)), some (.int (z)), none, none]) zy_X6_steepestStep.2.2.2.2.2 (Nat.le_of_ble_eq_true rfl) rfl ?_
  refine z_aload_0 dX6_steepestStep_0 ?_
  refine z_iload_1 dX6_steepestStep_1 ?_
  refine z_iload_2 dX6_steepestStep_2 ?_
  exact Z.callX0 (zRun.V (ρ := fun i => i) (k_c_6_checkRange_x1 n (x) (z) S X R T hn h40 hx) dX6_steepestStep_3 zy_X6_checkRange zm_X6_102 rfl rfl rfl rfl (Nat.le_of_ble_eq_true rfl) (by decide) (by decide)) (zlen2 14 rfl rfl) rfl rfl
theorem k_c_6_steepestStep_x2 (n : Nat) (x : Int32) (z : Int32) (S : ZS) (X : ZS) (R : ZS) (T : TS) (hn : tn T = nI n) (h40 : n ≤ 40) (hx : tIx T x) (hz : tIx T z) (hzx : z < x) : zM sc yX6_steepestStep cX6_steepestStep 5 (some .int) 10 1 6 [.ref 0, .int (x), .int (z)] (qh S X R T) (.inr "java/lang/IllegalArgumentException") (qh S X R T) := by
  refine zM.at (ls := [some (.ref 0), some (.int (x)), some (.int (z)), none, none]) zy_X6_steepestStep.2.2.2.2.2 (Nat.le_of_ble_eq_true rfl) rfl ?_
  refine z_aload_0 dX6_steepestStep_0 ?_
  refine z_iload_1 dX6_steepestStep_1 ?_
  refine z_iload_2 dX6_steepestStep_2 ?_
  exact Z.callX0 (zRun.V (ρ := fun i => i) (k_c_6_checkRange_x2 n (x) (z) S X R T hn h40 hx hz hzx) dX6_steepestStep_3 zy_X6_checkRange zm_X6_102 rfl rfl rfl rfl (Nat.le_of_ble_eq_true rfl) (by decide) (by decide)) (zlen2 14 rfl rfl) rfl rfl
