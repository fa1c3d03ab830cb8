variable {sc : SC}

theorem k_c_6_negate_x1 (n : Nat) (x : Int32) (z : Int32) (S : ZS) (X : ZS) (R : ZS) (T : TS) (hn : tn T = nI n) (h40 : n ≤ 40) (hx : ¬ (tIx T x ∧ tIx T z)) : zM sc yX6_negate cX6_negate 3 (some .int) 10 1 6 [.ref 0, .int (x), .int (z)] (qh S X R T) (.inr "java/lang/IndexOutOfBoundsException") (qh S X R T) := by
  refine zM.at (ls := [some (.ref 0), some (.int (x)), some (.int (z))]) zy_X6_negate.2.2.2.2.2 (Nat.le_of_ble_eq_true rfl) rfl ?_
  refine z_aload_0 dX6_negate_0 ?_
  refine z_iload_1 dX6_negate_1 ?_
  refine z_iload_2 dX6_negate_2 ?_
  exact Z.callX0 (zRun.V (ρ := fun i => i) (k_c_6_checkRange_x1 n (x) (z) S X R T hn h40 hx) dX6_negate_3 zy_X6_checkRange zm_X6_102 rfl rfl rfl rfl (Nat.le_of_ble_eq_true rfl) (by decide) (by decide)) (zlen2 14 rfl rfl) rfl rfl
theorem k_c_6_negate_x2 (n : Nat) (x : Int32) (z : Int32) (S : ZS) (X : ZS) (R : ZS) (T : TS) (hn : tn T = nI n) (h40 : n ≤ 40) (hx : tIx T x) (hz : tIx T z) (hzx : z < x) : zM sc yX6_negate cX6_negate 3 (some .int) 10 1 6 [.ref 0, .int (x), .int (z)] (qh S X R T) (.inr "java/lang/IllegalArgumentException") (qh S X R T) := by
  refine zM.at (ls := [some (.ref 0), some (.int (x)), some (.int (z))]) zy_X6_negate.2.2.2.2.2 (Nat.le_of_ble_eq_true rfl) rfl ?_
  refine z_aload_0 dX6_negate_0 ?_
  refine z_iload_1 dX6_negate_1 ?_
  refine z_iload_2 dX6_negate_2 ?_
  exact Z.callX0 (zRun.V (ρ := fun i => i) (k_c_6_checkRange_x2 n (x) (z) S X R T hn h40 hx hz hzx) dX6_negate_3 zy_X6_checkRange zm_X6_102 rfl rfl rfl rfl (Nat.le_of_ble_eq_true rfl) (by decide) (by decide)) (zlen2 14 rfl rfl) rfl rfl
theorem k_c_6_assign_x1 (n : Nat) (x : Int32) (z : Int32) (v : Int32) (S : ZS) (X : ZS) (R : ZS) (T : TS) (hn : tn T = nI n) (h40 : n ≤ 40) (hx : ¬ (tIx T x ∧ tIx T z)) : zM sc yX6_assign cX6_assign 4 (some .int) 10 1 6 [.ref 0, .int (x), .int (z), .int (v)] (qh S X R T) (.inr "java/lang/IndexOutOfBoundsException") (qh S X R T) := by
  refine zM.at (ls := [some (.ref 0), some (.int (x)), some (.int (z)), some (.int (v))]) zy_X6_assign.2.2.2.2.2 (Nat.le_of_ble_eq_true rfl) rfl ?_
  refine z_aload_0 dX6_assign_0 ?_
  refine z_iload_1 dX6_assign_1 ?_
  refine z_iload_2 dX6_assign_2 ?_
  exact Z.callX0 (zRun.V (ρ := fun i => i) (k_c_6_checkRange_x1 n (x) (z) S X R T hn h40 hx) dX6_assign_3 zy_X6_checkRange zm_X6_102 rfl rfl rfl rfl (Nat.le_of_ble_eq_true rfl) (by decide) (by decide)) (zlen2 14 rfl rfl) rfl rfl
theorem k_c_6_assign_x2 (n : Nat) (x : Int32) (z : Int32) (v : Int32) (S : ZS) (X : ZS) (R : ZS) (T : TS) (hn : tn T = nI n) (h40 : n ≤ 40) (hx : tIx T x) (hz : tIx T z) (hzx : z < x) : zM sc yX6_assign cX6_assign 4 (some .int) 10 1 6 [.ref 0, .int (x), .int (z), .int (v)] (qh S X R T) (.inr "java/lang/IllegalArgumentException") (qh S X R T) := by
  refine zM.at (ls := [some (.ref 0), some (.int (x)), some (.int (z)), some (.int (v))]) zy_X6_assign.2.2.2.2.2 (Nat.le_of_ble_eq_true rfl) rfl ?_
  refine z_aload_0 dX6_assign_0 ?_
  refine z_iload_1 dX6_assign_1 ?_
  refine z_iload_2 dX6_assign_2 ?_
  exact Z.callX0 (zRun.V (ρ := fun i => i) (k_c_6_checkRange_x2 n (x) (z) S X R T hn h40 hx hz hzx) dX6_assign_3 zy_X6_checkRange zm_X6_102 rfl rfl rfl rfl (Nat.le_of_ble_eq_true rfl) (by decide) (by decide)) (zlen2 14 rfl rfl) rfl rfl
theorem k_c_6_assign_x3 (n : Nat) (a : Nat) (b : Nat) (v : Int32) (S : ZS) (X : ZS) (R : ZS) (T : TS) (hn : tn T = nI n) (h40 : n ≤ 40) (hab : a ≤ b) (hbn : b < n) (hv : ¬ (-9999 ≤ v ∧ v ≤ 9999)) : zM sc yX6_assign cX6_assign 4 (some .int) 9 1 6 [.ref 0, .int (nI (a)), .int (nI (b)), .int (v)] (qh S X R T) (.inr "java/lang/IllegalArgumentException") (qh S X R T) := by
  refine zM.at (ls := [some (.ref 0), some (.int (nI (a))), some (.int (nI (b))), some (.int (v))]) zy_X6_assign.2.2.2.2.2 (Nat.le_of_ble_eq_true rfl) rfl ?_
  refine z_aload_0 dX6_assign_0 ?_
  refine z_iload_1 dX6_assign_1 ?_
  refine z_iload_2 dX6_assign_2 ?_
  refine Z.call0n (zRun.V (ρ := fun i => i) (k_c_6_checkRange n a b S X R T (by first | omega | assumption) (by first | omega | assumption) (by first | omega | assumption) (by first | omega | assumption)) dX6_assign_3 zy_X6_checkRange zm_X6_102 rfl rfl rfl rfl (Nat.le_of_ble_eq_true rfl) (by decide) (by decide)) (zlen2 14 rfl rfl) ?_
  refine z_aload_0 dX6_assign_6 ?_
  refine z_iload_3 dX6_assign_7 ?_
  exact Z.callX0 (zRun.V (ρ := fun i => i) (k_c_6_checkValue_x (v) S X R T (by first | omega | assumption)) dX6_assign_8 zy_X6_checkValue zm_X6_106 rfl rfl rfl rfl (Nat.le_of_ble_eq_true rfl) (by decide) (by decide)) (zlen2 14 rfl rfl) rfl rfl
theorem k_c_6_add_x1 (n : Nat) (x : Int32) (z : Int32) (v : Int32) (S : ZS) (X : ZS) (R : ZS) (T : TS) (hn : tn T = nI n) (h40 : n ≤ 40) (hx : ¬ (tIx T x ∧ tIx T z)) : zM sc yX6_add cX6_add 4 (some .int) 10 1 6 [.ref 0, .int (x), .int (z), .int (v)] (qh S X R T) (.inr "java/lang/IndexOutOfBoundsException") (qh S X R T) := by
  refine zM.at (ls := [some (.ref 0), some (.int (x)), some (.int (z)), some (.int (v))]) zy_X6_add.2.2.2.2.2 (Nat.le_of_ble_eq_true rfl) rfl ?_
  refine z_aload_0 dX6_add_0 ?_
  refine z_iload_1 dX6_add_1 ?_
  refine z_iload_2 dX6_add_2 ?_
  exact Z.callX0 (zRun.V (ρ := fun i => i) (k_c_6_checkRange_x1 n (x) (z) S X R T hn h40 hx) dX6_add_3 zy_X6_checkRange zm_X6_102 rfl rfl rfl rfl (Nat.le_of_ble_eq_true rfl) (by decide) (by decide)) (zlen2 14 rfl rfl) rfl rfl
theorem k_c_6_add_x2 (n : Nat) (x : Int32) (z : Int32) (v : Int32) (S : ZS) (X : ZS) (R : ZS) (T : TS) (hn : tn T = nI n) (h40 : n ≤ 40) (hx : tIx T x) (hz : tIx T z) (hzx : z < x) : zM sc yX6_add cX6_add 4 (some .int) 10 1 6 [.ref 0, .int (x), .int (z), .int (v)] (qh S X R T) (.inr "java/lang/IllegalArgumentException") (qh S X R T) := by
  refine zM.at (ls := [some (.ref 0), some (.int (x)), some (.int (z)), some (.int (v))]) zy_X6_add.2.2.2.2.2 (Nat.le_of_ble_eq_true rfl) rfl ?_
  refine z_aload_0 dX6_add_0 ?_
  refine z_iload_1 dX6_add_1 ?_
  refine z_iload_2 dX6_add_2 ?_
  exact Z.callX0 (zRun.V (ρ := fun i => i) (k_c_6_checkRange_x2 n (x) (z) S X R T hn h40 hx hz hzx) dX6_add_3 zy_X6_checkRange zm_X6_102 rfl rfl rfl rfl (Nat.le_of_ble_eq_true rfl) (by decide) (by decide)) (zlen2 14 rfl rfl) rfl rfl
theorem k_c_6_add_x3 (n : Nat) (a : Nat) (b : Nat) (v : Int32) (S : ZS) (X : ZS) (R : ZS) (T : TS) (hn : tn T = nI n) (h40 : n ≤ 40) (hab : a ≤ b) (hbn : b < n) (hv : ¬ (-9999 ≤ v ∧ v ≤ 9999)) : zM sc yX6_add cX6_add 4 (some .int) 9 1 6 [.ref 0, .int (nI (a)), .int (nI (b)), .int (v)] (qh S X R T) (.inr "java/lang/IllegalArgumentException") (qh S X R T) := by
  refine zM.at (ls := [some (.ref 0), some (.int (nI (a))), some (.int (nI (b))), some (.int (v))]) zy_X6_add.2.2.2.2.2 (Nat.le_of_ble_eq_true rfl) rfl ?_
  refine z_aload_0 dX6_add_0 ?_
  refine z_iload_1 dX6_add_1 ?_
  refine z_iload_2 dX6_add_2 ?_
  refine Z.call0n (zRun.V (ρ := fun i => i) (k_c_6_checkRange n a b S X R T (by first | omega | assumption) (by first | omega | assumption) (by first | omega | assumption) (by first | omega | assumption)) dX6_add_3 zy_X6_checkRange zm_X6_102 rfl rfl rfl rfl (Nat.le_of_ble_eq_true rfl) (by decide) (by decide)) (zlen2 14 rfl rfl) ?_
  refine z_aload_0 dX6_add_6 ?_
  refine z_iload_3 dX6_add_7 ?_
  exact Z.callX0 (zRun.V (ρ := fun i => i) (k_c_6_checkValue_x (v) S X R T (by first | omega | assumption)) dX6_add_8 zy_X6_checkValue zm_X6_106 rfl rfl rfl rfl (Nat.le_of_ble_eq_true rfl) (by decide) (by decide)) (zlen2 14 rfl rfl) rfl rfl
theorem k_c_6_add_x4 (n : Nat) (a : Nat) (b : Nat) (v : Int32) (S : ZS) (X : ZS) (R : ZS) (T : TS) (hn : tn T = nI n) (h40 : n ≤ 40) (hab : a ≤ b) (hbn : b < n) (hv : -9999 ≤ v ∧ v ≤ 9999) (hx : ¬ tCan T a b v) : zM sc yX6_add cX6_add 4 (some .int) 8 1 6 [.ref 0, .int (nI (a)), .int (nI (b)), .int (v)] (qh S X R T) (.inr "java/lang/IllegalStateException") (qh S X R T) := by
  refine zM.at (ls := [some (.ref 0), some (.int (nI (a))), some (.int (nI (b))), some (.int (v))]) zy_X6_add.2.2.2.2.2 (Nat.le_of_ble_eq_true rfl) rfl ?_
  refine z_aload_0 dX6_add_0 ?_
  refine z_iload_1 dX6_add_1 ?_
  refine z_iload_2 dX6_add_2 ?_
  refine Z.call0n (zRun.V (ρ := fun i => i) (k_c_6_checkRange n a b S X R T (by first | omega | assumption) (by first | omega | assumption) (by first | omega | assumption) (by first | omega | assumption)) dX6_add_3 zy_X6_checkRange zm_X6_102 rfl rfl rfl rfl (Nat.le_of_ble_eq_true rfl) (by decide) (by decide)) (zlen2 14 rfl rfl) ?_
  refine z_aload_0 dX6_add_6 ?_
  refine z_iload_3 dX6_add_7 ?_
  refine Z.call0n (zRun.V (ρ := fun i => i) (k_c_6_checkValue (v) S X R T (by first | omega | assumption)) dX6_add_8 zy_X6_checkValue zm_X6_106 rfl rfl rfl rfl (Nat.le_of_ble_eq_true rfl) (by decide) (by decide)) (zlen2 14 rfl rfl) ?_
  refine z_aload_0 dX6_add_11 ?_
  refine z_get (k := 0) (v := .ref 1) dX6_add_12 rfl rfl rfl (by decide) zf_X6_10 zw_in6 ?_
  refine z_iload_1 dX6_add_15 ?_
  refine z_iload_2 dX6_add_16 ?_
  refine z_iload_3 dX6_add_17 ?_
  refine Z.shs (qh S X R T) (zRun.V (ρ := zsh 1) (k_canRaise T a b (v) (by first | omega | assumption) (by first | omega | assumption)) dX6_add_18 zy_X5_canRaise zm_X6_109 rfl rfl rfl rfl (Nat.le_of_ble_eq_true rfl) (by decide) (by decide) (zsh_fix 1)) (zsh_inj (Nat.le_of_ble_eq_true rfl)) ⟨rfl, rfl, rfl, rfl, rfl, rfl, rfl, rfl, rfl, trivial⟩ (zlen2 9 rfl rfl) rfl rfl ?_
  refine z_ifB_ne_f (tgt := 34) dX6_add_21 (by decide) (fun z => hx (of_decide_eq_true z)) ?_
  exact z_throwS (names := zNm) (i := 13) (by decide +kernel) zNm_fit (by decide) zcl_X6_113 zin_S rfl zat_S dX6_add_24 dX6_add_27 dX6_add_28 dX6_add_30 dX6_add_33 (by decide) (Nat.le_of_ble_eq_true rfl) (by decide) (by decide) rfl rfl
theorem k_c_6_pushDown_x1 (x : Int32) (S : ZS) (X : ZS) (R : ZS) (T : TS) (hx : ¬ tHas T x) : zM sc yX6_pushDown cX6_pushDown 2 (some .boolean) 9 1 6 [.ref 0, .int (x)] (qh S X R T) (.inr "java/lang/IndexOutOfBoundsException") (qh S X R T) := by
  refine zM.at (ls := [some (.ref 0), some (.int (x))]) zy_X6_pushDown.2.2.2.2.2 (Nat.le_of_ble_eq_true rfl) rfl ?_
  refine z_aload_0 dX6_pushDown_0 ?_
  refine z_iload_1 dX6_pushDown_1 ?_
  exact Z.callX0 (zRun.V (ρ := fun i => i) (k_c_6_checkNode_x1 (x) S X R T hx) dX6_pushDown_2 zy_X6_checkNode zm_X6_118 rfl rfl rfl rfl (Nat.le_of_ble_eq_true rfl) (by decide) (by decide)) (zlen2 14 rfl rfl) rfl rfl
theorem k_c_6_pushDown_x2 (k : Nat) (S : ZS) (X : ZS) (R : ZS) (T : TS) (h1 : 1 ≤ k) (h2 : k < 128) (h3 : ¬ tF T k = -1) (hx : ¬ tIn T k) : zM sc yX6_pushDown cX6_pushDown 2 (some .boolean) 8 1 6 [.ref 0, .int (nI (k))] (qh S X R T) (.inr "java/lang/IllegalStateException") (qh S X R T) := by
  refine zM.at (ls := [some (.ref 0), some (.int (nI (k)))]) zy_X6_pushDown.2.2.2.2.2 (Nat.le_of_ble_eq_true rfl) rfl ?_
  refine z_aload_0 dX6_pushDown_0 ?_
  refine z_iload_1 dX6_pushDown_1 ?_
  refine Z.call0n (zRun.V (ρ := fun i => i) (k_c_6_checkNode k S X R T (by first | omega | assumption) (by first | omega | assumption) (by first | omega | assumption)) dX6_pushDown_2 zy_X6_checkNode zm_X6_118 rfl rfl rfl rfl (Nat.le_of_ble_eq_true rfl) (by decide) (by decide)) (zlen2 14 rfl rfl) ?_
  refine z_aload_0 dX6_pushDown_5 ?_
  refine z_get (k := 0) (v := .ref 1) dX6_pushDown_6 rfl rfl rfl (by decide) zf_X6_10 zw_in6 ?_
  refine z_iload_1 dX6_pushDown_9 ?_
  refine Z.shs (qh S X R T) (zRun.V (ρ := zsh 1) (k_isInner' T k (by first | omega | assumption) (by first | omega | assumption)) dX6_pushDown_10 zy_X5_isInner zm_X6_121 rfl rfl rfl rfl (Nat.le_of_ble_eq_true rfl) (by decide) (by decide) (zsh_fix 1)) (zsh_inj (Nat.le_of_ble_eq_true rfl)) ⟨rfl, rfl, rfl, rfl, rfl, rfl, rfl, rfl, rfl, trivial⟩ (zlen2 9 rfl rfl) rfl rfl ?_
  refine z_ifB_ne_f (tgt := 26) dX6_pushDown_13 (by decide) (fun z => hx (of_decide_eq_true z)) ?_
  exact z_throwS (names := zNm) (i := 15) (by decide +kernel) zNm_fit (by decide) zcl_X6_113 zin_S rfl zat_S dX6_pushDown_16 dX6_pushDown_19 dX6_pushDown_20 dX6_pushDown_22 dX6_pushDown_25 (by decide) (Nat.le_of_ble_eq_true rfl) (by decide) (by decide) rfl rfl
theorem k_c_6_appendElement_x1 (v : Int32) (S : ZS) (X : ZS) (R : ZS) (T : TS) (hv : ¬ (-9999 ≤ v ∧ v ≤ 9999)) : zM sc yX6_appendElement cX6_appendElement 2 (some .int) 9 1 6 [.ref 0, .int (v)] (qh S X R T) (.inr "java/lang/IllegalArgumentException") (qh S X R T) := by
  refine zM.at (ls := [some (.ref 0), some (.int (v))]) zy_X6_appendElement.2.2.2.2.2 (Nat.le_of_ble_eq_true rfl) rfl ?_
  refine z_aload_0 dX6_appendElement_0 ?_
  refine z_iload_1 dX6_appendElement_1 ?_
  exact Z.callX0 (zRun.V (ρ := fun i => i) (k_c_6_checkValue_x (v) S X R T (by first | omega | assumption)) dX6_appendElement_2 zy_X6_checkValue zm_X6_106 rfl rfl rfl rfl (Nat.le_of_ble_eq_true rfl) (by decide) (by decide)) (zlen2 14 rfl rfl) rfl rfl
theorem k_c_6_appendElement_x2 (n : Nat) (v : Int32) (S : ZS) (X : ZS) (R : ZS) (T : TS) (hn : tn T = nI n) (h40 : n ≤ 40) (hv : -9999 ≤ v ∧ v ≤ 9999) (hx : 40 ≤ n) : zM sc yX6_appendElement cX6_appendElement 2 (some .int) 8 1 6 [.ref 0, .int (v)] (qh S X R T) (.inr "java/lang/IllegalStateException") (qh S X R T) := by
  refine zM.at (ls := [some (.ref 0), some (.int (v))]) zy_X6_appendElement.2.2.2.2.2 (Nat.le_of_ble_eq_true rfl) rfl ?_
  refine z_aload_0 dX6_appendElement_0 ?_
  refine z_iload_1 dX6_appendElement_1 ?_
  refine Z.call0n (zRun.V (ρ := fun i => i) (k_c_6_checkValue (v) S X R T (by first | omega | assumption)) dX6_appendElement_2 zy_X6_checkValue zm_X6_106 rfl rfl rfl rfl (Nat.le_of_ble_eq_true rfl) (by decide) (by decide)) (zlen2 14 rfl rfl) ?_
  refine z_aload_0 dX6_appendElement_5 ?_
  refine z_get (k := 0) (v := .ref 1) dX6_appendElement_6 rfl rfl rfl (by decide) zf_X6_10 zw_in6 ?_
  refine Z.shs (qh S X R T) (zRun.V (ρ := zsh 1) (k_size T) dX6_appendElement_9 zy_X5_size zm_X6_99 rfl rfl rfl rfl (Nat.le_of_ble_eq_true rfl) (by decide) (by decide) (zsh_fix 1)) (zsh_inj (Nat.le_of_ble_eq_true rfl)) ⟨rfl, rfl, rfl, rfl, rfl, rfl, rfl, rfl, rfl, trivial⟩ (zlen2 9 rfl rfl) rfl rfl ?_
  refine z_topi (w := nI (n)) hn ?_
  refine z_bipush (v := 40) dX6_appendElement_12 rfl ?_
  refine z_icmpN_lt_f (tgt := 27) dX6_appendElement_14 (by decide) (x := n) (z := 40) (by first | omega | assumption) (by first | omega | assumption) (by omega) ?_
  exact z_throwS (names := zNm) (i := 16) (by decide +kernel) zNm_fit (by decide) zcl_X6_113 zin_S rfl zat_S dX6_appendElement_17 dX6_appendElement_20 dX6_appendElement_21 dX6_appendElement_23 dX6_appendElement_26 (by decide) (Nat.le_of_ble_eq_true rfl) (by decide) (by decide) rfl rfl
theorem k_c_6_removeLast_x1 (n : Nat) (S : ZS) (X : ZS) (R : ZS) (T : TS) (hn : tn T = nI n) (h40 : n ≤ 40) (hx : n ≤ 1) : zM sc yX6_removeLast cX6_removeLast 2 (some .int) 8 1 6 [.ref 0] (qh S X R T) (.inr "java/lang/IllegalStateException") (qh S X R T) := by
  refine zM.at (ls := [some (.ref 0), none]) zy_X6_removeLast.2.2.2.2.2 (Nat.le_of_ble_eq_true rfl) rfl ?_
  refine z_aload_0 dX6_removeLast_0 ?_
  refine z_get (k := 0) (v := .ref 1) dX6_removeLast_1 rfl rfl rfl (by decide) zf_X6_10 zw_in6 ?_
  refine Z.shs (qh S X R T) (zRun.V (ρ := zsh 1) (k_size T) dX6_removeLast_4 zy_X5_size zm_X6_99 rfl rfl rfl rfl (Nat.le_of_ble_eq_true rfl) (by decide) (by decide) (zsh_fix 1)) (zsh_inj (Nat.le_of_ble_eq_true rfl)) ⟨rfl, rfl, rfl, rfl, rfl, rfl, rfl, rfl, rfl, trivial⟩ (zlen2 9 rfl rfl) rfl rfl ?_
  refine z_topi (w := nI (n)) hn ?_
  refine z_iconst (v := 1) dX6_removeLast_7 rfl ?_
  refine z_icmpN_gt_f (tgt := 21) dX6_removeLast_8 (by decide) (x := n) (z := 1) (by first | omega | assumption) (by first | omega | assumption) (by omega) ?_
  exact z_throwS (names := zNm) (i := 17) (by decide +kernel) zNm_fit (by decide) zcl_X6_113 zin_S rfl zat_S dX6_removeLast_11 dX6_removeLast_14 dX6_removeLast_15 dX6_removeLast_17 dX6_removeLast_20 (by decide) (Nat.le_of_ble_eq_true rfl) (by decide) (by decide) rfl rfl
