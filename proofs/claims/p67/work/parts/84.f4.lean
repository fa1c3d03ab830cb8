variable {sc : SC}
def remS (c : Nat) (S : ZS) : ZS := if c < 8 then sI 1 (nI (c + 1)) S else sI 1 (nI (7 + 1)) (sI 1 7 S)
def remR (c r : Nat) : Nat := if c < 8 then r else r + 1
def remG (c r : Nat) (G : Nat → TS) (T : TS) : Nat → TS := if c < 8 then setG G ((c + r) % 8) (tCopy T (G ((c + r) % 8))) else setG G ((7 + (r + 1)) % 8) (tCopy T (G ((7 + (r + 1)) % 8)))
section ZFH4
variable {y : MethodName} {cc : ByteArray} {nL : Nat} {ret : Option FieldType} {d mc ms pc idx : Nat} {ls : List (Option Value)} {st : List Value} {rr : zR} {h' : List zO} {y2 : MethodName} {cc2 : ByteArray} {nL2 : Nat} {ret2 : Option FieldType} {d2 : Nat} {As : List Value} {n : Nat}
variable {S X R : ZS} {T T' : TS} {P : ZS} {TU : TS} {r : Nat} {G : Nat → TS} {TN : TS}
theorem z_remember {c : Nat} (hc : S.1 1 = nI c) (h8 : c ≤ 8) (hd : decode cc pc = .ok (.invokevirtual idx, 3)) (hlk : Cond.methodLink y.cls idx yX0_remember ∈ zT) (hcat : (st.map fun v => v.category).sum ≤ 8) (hd2 : 2 + 1 ≤ d)
    (k : Z sc y cc nL ret d mc ms (pc + 3) ls st (FH (remS c S) X R T P TU (remR c r) (remG c r G T) TN) rr h') : Z sc y cc nL ret d mc ms pc ls (.ref 1 :: .ref 32 :: st) (FH S X R T P TU r G TN) rr h' := by
  by_cases h : c < 8
  · rw [remS, remR, remG, if_pos h, if_pos h, if_pos h] at k
    exact z_remember_lt hc h hd hlk hcat hd2 k
  · rw [remS, remR, remG, if_neg h, if_neg h, if_neg h] at k
    exact z_remember_8 hc (by omega) hd hlk hcat hd2 k
end ZFH4
theorem k_f_negate (S X R : ZS) (T : TS) (P : ZS) (TU : TS) (r : Nat) (G : Nat → TS) (TN : TS) (c : Nat) (hc : S.1 1 = nI c) (h8 : c ≤ 8) (n a b : Nat) (hn : tn T = nI n) (h40 : n ≤ 40) (hab : a ≤ b) (hbn : b < n)  : zM sc yX6_negate cX6_negate 3 (some .int) 3 0 0 [.ref 0, .int (nI a), .int (nI b)] (FH S X R T P TU r G TN) (.inl (some (.int (nI (tUpdate T (nI a) (nI b) (-1) (0)).2)))) (FH (remS c S) X R ((tUpdate T (nI a) (nI b) (-1) (0)).1) P TU (remR c r) (remG c r G T) TN) := by
  refine zM.at (ls := [some (.ref 0), some (.int (nI a)), some (.int (nI b))]) zy_X6_negate.2.2.2.2.2 (Nat.le_of_ble_eq_true rfl) rfl ?_
  refine z_aload_0 dX6_negate_0 ?_
  refine z_iload_1 dX6_negate_1 ?_
  refine z_iload_2 dX6_negate_2 ?_
  refine Z.heap (h2 := qh S X R T ++ fr S P TU r G TN) rfl ?_
  refine Z.callPn (zRun.V (ρ := fun i => i) (k_c_6_checkRange n a b S X R T hn h40 hab hbn) dX6_negate_3 zy_X6_checkRange zm_X6_102 rfl rfl rfl rfl (Nat.le_of_ble_eq_true rfl) (by decide) (by decide)) (zlen2 14 rfl rfl) ?_
  refine Z.heap (h2 := FH S X R T P TU r G TN) rfl ?_
  refine z_aload_0 dX6_negate_6 ?_
  refine z_get (k := 1) dX6_negate_7 rfl rfl rfl (by decide) zf_X6_19 zw_in6 ?_
  refine z_aload_0 dX6_negate_10 ?_
  refine z_get (k := 0) dX6_negate_11 rfl rfl rfl (by decide) zf_X6_10 zw_in6 ?_
  refine z_remember hc h8 dX6_negate_14 zm_X6_88 (Nat.le_of_ble_eq_true rfl) (by decide) ?_
  refine z_aload_0 dX6_negate_17 ?_
  refine z_get (k := 0) dX6_negate_18 rfl rfl rfl (by decide) zf_X6_10 zw_in6 ?_
  refine z_iload_1 dX6_negate_21 ?_
  refine z_iload_2 dX6_negate_22 ?_
  refine z_iconst (v := (-1)) dX6_negate_23 rfl ?_
  refine z_iconst (v := 0) dX6_negate_24 rfl ?_
  refine z_tS (k_update T (nI a) (nI b) (-1) (0)) dX6_negate_25 zy_X5_update zm_X6_59 rfl rfl rfl rfl (Nat.le_of_ble_eq_true rfl) (by decide) (by decide) ?_
  exact z_iret dX6_negate_28 rfl rfl rfl rfl
theorem k_f_assign (S X R : ZS) (T : TS) (P : ZS) (TU : TS) (r : Nat) (G : Nat → TS) (TN : TS) (c : Nat) (hc : S.1 1 = nI c) (h8 : c ≤ 8) (n a b : Nat) (hn : tn T = nI n) (h40 : n ≤ 40) (hab : a ≤ b) (hbn : b < n) (v : Int32) (hv : -9999 ≤ v ∧ v ≤ 9999)  : zM sc yX6_assign cX6_assign 4 (some .int) 3 0 0 [.ref 0, .int (nI a), .int (nI b), .int v] (FH S X R T P TU r G TN) (.inl (some (.int (nI (tUpdate T (nI a) (nI b) (0) (v)).2)))) (FH (remS c S) X R ((tUpdate T (nI a) (nI b) (0) (v)).1) P TU (remR c r) (remG c r G T) TN) := by
  refine zM.at (ls := [some (.ref 0), some (.int (nI a)), some (.int (nI b)), some (.int v)]) zy_X6_assign.2.2.2.2.2 (Nat.le_of_ble_eq_true rfl) rfl ?_
  refine z_aload_0 dX6_assign_0 ?_
  refine z_iload_1 dX6_assign_1 ?_
  refine z_iload_2 dX6_assign_2 ?_
  refine Z.heap (h2 := qh S X R T ++ fr S P TU r G TN) rfl ?_
  refine Z.callPn (zRun.V (ρ := fun i => i) (k_c_6_checkRange n a b S X R T hn h40 hab hbn) dX6_assign_3 zy_X6_checkRange zm_X6_102 rfl rfl rfl rfl (Nat.le_of_ble_eq_true rfl) (by decide) (by decide)) (zlen2 14 rfl rfl) ?_
  refine Z.heap (h2 := FH S X R T P TU r G TN) rfl ?_
  refine z_aload_0 dX6_assign_6 ?_
  refine z_iload_3 dX6_assign_7 ?_
  refine Z.heap (h2 := qh S X R T ++ fr S P TU r G TN) rfl ?_
  refine Z.callPn (zRun.V (ρ := fun i => i) (k_c_6_checkValue v S X R T hv) dX6_assign_8 zy_X6_checkValue zm_X6_106 rfl rfl rfl rfl (Nat.le_of_ble_eq_true rfl) (by decide) (by decide)) (zlen2 14 rfl rfl) ?_
  refine Z.heap (h2 := FH S X R T P TU r G TN) rfl ?_
  refine z_aload_0 dX6_assign_11 ?_
  refine z_get (k := 1) dX6_assign_12 rfl rfl rfl (by decide) zf_X6_19 zw_in6 ?_
  refine z_aload_0 dX6_assign_15 ?_
  refine z_get (k := 0) dX6_assign_16 rfl rfl rfl (by decide) zf_X6_10 zw_in6 ?_
  refine z_remember hc h8 dX6_assign_19 zm_X6_88 (Nat.le_of_ble_eq_true rfl) (by decide) ?_
  refine z_aload_0 dX6_assign_22 ?_
  refine z_get (k := 0) dX6_assign_23 rfl rfl rfl (by decide) zf_X6_10 zw_in6 ?_
  refine z_iload_1 dX6_assign_26 ?_
  refine z_iload_2 dX6_assign_27 ?_
  refine z_iconst (v := 0) dX6_assign_28 rfl ?_
  refine z_iload_3 dX6_assign_29 ?_
  refine z_tS (k_update T (nI a) (nI b) (0) (v)) dX6_assign_30 zy_X5_update zm_X6_59 rfl rfl rfl rfl (Nat.le_of_ble_eq_true rfl) (by decide) (by decide) ?_
  exact z_iret dX6_assign_33 rfl rfl rfl rfl
theorem k_f_add (S X R : ZS) (T : TS) (P : ZS) (TU : TS) (r : Nat) (G : Nat → TS) (TN : TS) (c : Nat) (hc : S.1 1 = nI c) (h8 : c ≤ 8) (n a b : Nat) (hn : tn T = nI n) (h40 : n ≤ 40) (hab : a ≤ b) (hbn : b < n) (v : Int32) (hv : -9999 ≤ v ∧ v ≤ 9999) (hcan : tCan T a b v)  : zM sc yX6_add cX6_add 4 (some .int) 3 0 0 [.ref 0, .int (nI a), .int (nI b), .int v] (FH S X R T P TU r G TN) (.inl (some (.int (nI (tUpdate T (nI a) (nI b) (1) (v)).2)))) (FH (remS c S) X R ((tUpdate T (nI a) (nI b) (1) (v)).1) P TU (remR c r) (remG c r G T) TN) := by
  refine zM.at (ls := [some (.ref 0), some (.int (nI a)), some (.int (nI b)), some (.int v)]) zy_X6_add.2.2.2.2.2 (Nat.le_of_ble_eq_true rfl) rfl ?_
  refine z_aload_0 dX6_add_0 ?_
  refine z_iload_1 dX6_add_1 ?_
  refine z_iload_2 dX6_add_2 ?_
  refine Z.heap (h2 := qh S X R T ++ fr S P TU r G TN) rfl ?_
  refine Z.callPn (zRun.V (ρ := fun i => i) (k_c_6_checkRange n a b S X R T hn h40 hab hbn) dX6_add_3 zy_X6_checkRange zm_X6_102 rfl rfl rfl rfl (Nat.le_of_ble_eq_true rfl) (by decide) (by decide)) (zlen2 14 rfl rfl) ?_
  refine Z.heap (h2 := FH S X R T P TU r G TN) rfl ?_
  refine z_aload_0 dX6_add_6 ?_
  refine z_iload_3 dX6_add_7 ?_
  refine Z.heap (h2 := qh S X R T ++ fr S P TU r G TN) rfl ?_
  refine Z.callPn (zRun.V (ρ := fun i => i) (k_c_6_checkValue v S X R T hv) dX6_add_8 zy_X6_checkValue zm_X6_106 rfl rfl rfl rfl (Nat.le_of_ble_eq_true rfl) (by decide) (by decide)) (zlen2 14 rfl rfl) ?_
  refine Z.heap (h2 := FH S X R T P TU r G TN) rfl ?_
  refine z_aload_0 dX6_add_11 ?_
  refine z_get (k := 0) dX6_add_12 rfl rfl rfl (by decide) zf_X6_10 zw_in6 ?_
  refine z_iload_1 dX6_add_15 ?_
  refine z_iload_2 dX6_add_16 ?_
  refine z_iload_3 dX6_add_17 ?_
  refine z_tS (k_canRaise T a b v hab (by omega)) dX6_add_18 zy_X5_canRaise zm_X6_109 rfl rfl rfl rfl (Nat.le_of_ble_eq_true rfl) (by decide) (by decide) ?_
  refine z_ifB_ne_t (tgt := 34) dX6_add_21 (by decide) (decide_eq_true hcan) ?_
  refine z_aload_0 dX6_add_34 ?_
  refine z_get (k := 1) dX6_add_35 rfl rfl rfl (by decide) zf_X6_19 zw_in6 ?_
  refine z_aload_0 dX6_add_38 ?_
  refine z_get (k := 0) dX6_add_39 rfl rfl rfl (by decide) zf_X6_10 zw_in6 ?_
  refine z_remember hc h8 dX6_add_42 zm_X6_88 (Nat.le_of_ble_eq_true rfl) (by decide) ?_
  refine z_aload_0 dX6_add_45 ?_
  refine z_get (k := 0) dX6_add_46 rfl rfl rfl (by decide) zf_X6_10 zw_in6 ?_
  refine z_iload_1 dX6_add_49 ?_
  refine z_iload_2 dX6_add_50 ?_
  refine z_iconst (v := 1) dX6_add_51 rfl ?_
  refine z_iload_3 dX6_add_52 ?_
  refine z_tS (k_update T (nI a) (nI b) (1) (v)) dX6_add_53 zy_X5_update zm_X6_59 rfl rfl rfl rfl (Nat.le_of_ble_eq_true rfl) (by decide) (by decide) ?_
  exact z_iret dX6_add_56 rfl rfl rfl rfl
theorem k_f_pushDown (S X R : ZS) (T : TS) (P : ZS) (TU : TS) (r : Nat) (G : Nat → TS) (TN : TS) (c : Nat) (hc : S.1 1 = nI c) (h8 : c ≤ 8) (k : Nat) (h1 : 1 ≤ k) (h2 : k < 128) (h3 : ¬ tF T k = -1) (hin : tIn T k)  : zM sc yX6_pushDown cX6_pushDown 2 (some .boolean) 3 0 0 [.ref 0, .int (nI k)] (FH S X R T P TU r G TN) (.inl (some (.int (zb (decide (tDo T k)))))) (FH (remS c S) X R (if tDo T k then tPush T k else T) P TU (remR c r) (remG c r G T) TN) := by
  refine zM.at (ls := [some (.ref 0), some (.int (nI k))]) zy_X6_pushDown.2.2.2.2.2 (Nat.le_of_ble_eq_true rfl) rfl ?_
  refine z_aload_0 dX6_pushDown_0 ?_
  refine z_iload_1 dX6_pushDown_1 ?_
  refine Z.heap (h2 := qh S X R T ++ fr S P TU r G TN) rfl ?_
  refine Z.callPn (zRun.V (ρ := fun i => i) (k_c_6_checkNode k S X R T h1 h2 h3) dX6_pushDown_2 zy_X6_checkNode zm_X6_118 rfl rfl rfl rfl (Nat.le_of_ble_eq_true rfl) (by decide) (by decide)) (zlen2 14 rfl rfl) ?_
  refine Z.heap (h2 := FH S X R T P TU r G TN) rfl ?_
  refine z_aload_0 dX6_pushDown_5 ?_
  refine z_get (k := 0) dX6_pushDown_6 rfl rfl rfl (by decide) zf_X6_10 zw_in6 ?_
  refine z_iload_1 dX6_pushDown_9 ?_
  refine z_tS (k_isInner' T k h1 h2) dX6_pushDown_10 zy_X5_isInner zm_X6_121 rfl rfl rfl rfl (Nat.le_of_ble_eq_true rfl) (by decide) (by decide) ?_
  refine z_ifB_ne_t (tgt := 26) dX6_pushDown_13 (by decide) (decide_eq_true hin) ?_
  refine z_aload_0 dX6_pushDown_26 ?_
  refine z_get (k := 1) dX6_pushDown_27 rfl rfl rfl (by decide) zf_X6_19 zw_in6 ?_
  refine z_aload_0 dX6_pushDown_30 ?_
  refine z_get (k := 0) dX6_pushDown_31 rfl rfl rfl (by decide) zf_X6_10 zw_in6 ?_
  refine z_remember hc h8 dX6_pushDown_34 zm_X6_88 (Nat.le_of_ble_eq_true rfl) (by decide) ?_
  refine z_aload_0 dX6_pushDown_37 ?_
  refine z_get (k := 0) dX6_pushDown_38 rfl rfl rfl (by decide) zf_X6_10 zw_in6 ?_
  refine z_iload_1 dX6_pushDown_41 ?_
  refine z_tS (k_push T k h1 h2) dX6_pushDown_42 zy_X5_push zm_X6_127 rfl rfl rfl rfl (Nat.le_of_ble_eq_true rfl) (by decide) (by decide) ?_
  exact z_iret dX6_pushDown_45 rfl (zb_nar _) rfl rfl
theorem k_f_pushAll (S X R : ZS) (T : TS) (P : ZS) (TU : TS) (r : Nat) (G : Nat → TS) (TN : TS) (c : Nat) (hc : S.1 1 = nI c) (h8 : c ≤ 8)  : zM sc yX6_pushAll cX6_pushAll 1 (some .int) 3 0 0 [.ref 0] (FH S X R T P TU r G TN) (.inl (some (.int (nI (tPushEach T).2)))) (FH (remS c S) X R ((tPushEach T).1) P TU (remR c r) (remG c r G T) TN) := by
  refine zM.at (ls := [some (.ref 0)]) zy_X6_pushAll.2.2.2.2.2 (Nat.le_of_ble_eq_true rfl) rfl ?_
  refine z_aload_0 dX6_pushAll_0 ?_
  refine z_get (k := 1) dX6_pushAll_1 rfl rfl rfl (by decide) zf_X6_19 zw_in6 ?_
  refine z_aload_0 dX6_pushAll_4 ?_
  refine z_get (k := 0) dX6_pushAll_5 rfl rfl rfl (by decide) zf_X6_10 zw_in6 ?_
  refine z_remember hc h8 dX6_pushAll_8 zm_X6_88 (Nat.le_of_ble_eq_true rfl) (by decide) ?_
  refine z_aload_0 dX6_pushAll_11 ?_
  refine z_get (k := 0) dX6_pushAll_12 rfl rfl rfl (by decide) zf_X6_10 zw_in6 ?_
  refine z_tS (k_pushEach T) dX6_pushAll_15 zy_X5_pushEach zm_X6_130 rfl rfl rfl rfl (Nat.le_of_ble_eq_true rfl) (by decide) (by decide) ?_
  exact z_iret dX6_pushAll_18 rfl rfl rfl rfl
theorem k_f_appendElement (S X R : ZS) (T : TS) (P : ZS) (TU : TS) (r : Nat) (G : Nat → TS) (TN : TS) (c : Nat) (hc : S.1 1 = nI c) (h8 : c ≤ 8) (n : Nat) (hn : tn T = nI n) (h40 : n < 40) (v : Int32) (hv : -9999 ≤ v ∧ v ≤ 9999)  : zM sc yX6_appendElement cX6_appendElement 2 (some .int) 4 0 0 [.ref 0, .int v] (FH S X R T P TU r G TN) (.inl (some (.int (nI (n + 1))))) (FH (remS c S) X R (tBuild (tSz T (n + 1) (upd (tva T) n v))) P TU (remR c r) (remG c r G T) TN) := by
  refine zM.at (ls := [some (.ref 0), some (.int v)]) zy_X6_appendElement.2.2.2.2.2 (Nat.le_of_ble_eq_true rfl) rfl ?_
  refine z_aload_0 dX6_appendElement_0 ?_
  refine z_iload_1 dX6_appendElement_1 ?_
  refine Z.heap (h2 := qh S X R T ++ fr S P TU r G TN) rfl ?_
  refine Z.callPn (zRun.V (ρ := fun i => i) (k_c_6_checkValue v S X R T hv) dX6_appendElement_2 zy_X6_checkValue zm_X6_106 rfl rfl rfl rfl (Nat.le_of_ble_eq_true rfl) (by decide) (by decide)) (zlen2 14 rfl rfl) ?_
  refine Z.heap (h2 := FH S X R T P TU r G TN) rfl ?_
  refine z_aload_0 dX6_appendElement_5 ?_
  refine z_get (k := 0) dX6_appendElement_6 rfl rfl rfl (by decide) zf_X6_10 zw_in6 ?_
  refine z_tS (k_size T) dX6_appendElement_9 zy_X5_size zm_X6_99 rfl rfl rfl rfl (Nat.le_of_ble_eq_true rfl) (by decide) (by decide) ?_
  refine z_topi (w := nI n) hn ?_
  refine z_bipush (v := 40) dX6_appendElement_12 rfl ?_
  refine z_icmpN_lt_t (tgt := 27) dX6_appendElement_14 (by decide) (x := n) (z := 40) (by omega) (by decide) h40 ?_
  refine z_aload_0 dX6_appendElement_27 ?_
  refine z_get (k := 1) dX6_appendElement_28 rfl rfl rfl (by decide) zf_X6_19 zw_in6 ?_
  refine z_aload_0 dX6_appendElement_31 ?_
  refine z_get (k := 0) dX6_appendElement_32 rfl rfl rfl (by decide) zf_X6_10 zw_in6 ?_
  refine z_remember hc h8 dX6_appendElement_35 zm_X6_88 (Nat.le_of_ble_eq_true rfl) (by decide) ?_
  refine z_aload_0 dX6_appendElement_38 ?_
  refine z_get (k := 0) dX6_appendElement_39 rfl rfl rfl (by decide) zf_X6_10 zw_in6 ?_
  refine z_iload_1 dX6_appendElement_42 ?_
  refine z_tN (k_extend T n v hn h40) dX6_appendElement_43 zy_X5_extend zm_X6_135 rfl rfl rfl (Nat.le_of_ble_eq_true rfl) (by decide) (by decide) ?_
  refine z_aload_0 dX6_appendElement_46 ?_
  refine z_get (k := 0) dX6_appendElement_47 rfl rfl rfl (by decide) zf_X6_10 zw_in6 ?_
  refine z_tS (k_size (tBuild (tSz T (n + 1) (upd (tva T) n v)))) dX6_appendElement_50 zy_X5_size zm_X6_99 rfl rfl rfl rfl (Nat.le_of_ble_eq_true rfl) (by decide) (by decide) ?_
  refine z_topi (w := nI (n + 1)) (by rw [tn_build]; rfl) ?_
  exact z_iret dX6_appendElement_53 rfl rfl rfl rfl
theorem k_f_removeLast (S X R : ZS) (T : TS) (P : ZS) (TU : TS) (r : Nat) (G : Nat → TS) (TN : TS) (c : Nat) (hc : S.1 1 = nI c) (h8 : c ≤ 8) (n : Nat) (hn : tn T = nI (n + 1)) (h1 : 1 ≤ n) (h40 : n < 40)  : zM sc yX6_removeLast cX6_removeLast 2 (some .int) 4 0 0 [.ref 0] (FH S X R T P TU r G TN) (.inl (some (.int (tva T n)))) (FH (remS c S) X R (tBuild (tSz T n (tva T))) P TU (remR c r) (remG c r G T) TN) := by
  refine zM.at (ls := [some (.ref 0), none]) zy_X6_removeLast.2.2.2.2.2 (Nat.le_of_ble_eq_true rfl) rfl ?_
  refine z_aload_0 dX6_removeLast_0 ?_
  refine z_get (k := 0) dX6_removeLast_1 rfl rfl rfl (by decide) zf_X6_10 zw_in6 ?_
  refine z_tS (k_size T) dX6_removeLast_4 zy_X5_size zm_X6_99 rfl rfl rfl rfl (Nat.le_of_ble_eq_true rfl) (by decide) (by decide) ?_
  refine z_topi (w := nI (n + 1)) hn ?_
  refine z_iconst (v := 1) dX6_removeLast_7 rfl ?_
  refine z_icmpN_gt_t (tgt := 21) dX6_removeLast_8 (by decide) (x := n + 1) (z := 1) (by omega) (by decide) (by omega) ?_
  refine z_aload_0 dX6_removeLast_21 ?_
  refine z_get (k := 1) dX6_removeLast_22 rfl rfl rfl (by decide) zf_X6_19 zw_in6 ?_
  refine z_aload_0 dX6_removeLast_25 ?_
  refine z_get (k := 0) dX6_removeLast_26 rfl rfl rfl (by decide) zf_X6_10 zw_in6 ?_
  refine z_remember hc h8 dX6_removeLast_29 zm_X6_88 (Nat.le_of_ble_eq_true rfl) (by decide) ?_
  refine z_aload_0 dX6_removeLast_32 ?_
  refine z_get (k := 0) dX6_removeLast_33 rfl rfl rfl (by decide) zf_X6_10 zw_in6 ?_
  refine z_aload_0 dX6_removeLast_36 ?_
  refine z_get (k := 0) dX6_removeLast_37 rfl rfl rfl (by decide) zf_X6_10 zw_in6 ?_
  refine z_tS (k_size T) dX6_removeLast_40 zy_X5_size zm_X6_99 rfl rfl rfl rfl (Nat.le_of_ble_eq_true rfl) (by decide) (by decide) ?_
  refine z_topi (w := nI (n + 1)) hn ?_
  refine z_iconst (v := 1) dX6_removeLast_43 rfl ?_
  refine z_isub dX6_removeLast_44 ?_
  refine z_topi (w := nI n) (zsubE n 1) ?_
  refine z_tS (k_valueAt T n h40) dX6_removeLast_45 zy_X5_valueAt zm_X6_140 rfl rfl rfl rfl (Nat.le_of_ble_eq_true rfl) (by decide) (by decide) ?_
  refine z_istore_1 dX6_removeLast_48 rfl (by decide) ?_
  refine z_aload_0 dX6_removeLast_49 ?_
  refine z_get (k := 0) dX6_removeLast_50 rfl rfl rfl (by decide) zf_X6_10 zw_in6 ?_
  refine z_tN (k_shorten T n hn h1 h40) dX6_removeLast_53 zy_X5_shorten zm_X6_144 rfl rfl rfl (Nat.le_of_ble_eq_true rfl) (by decide) (by decide) ?_
  refine z_iload_1 dX6_removeLast_56 ?_
  exact z_iret dX6_removeLast_57 rfl rfl rfl rfl
theorem k_f_undo_ok (S X R : ZS) (T : TS) (P : ZS) (TU : TS) (r : Nat) (G : Nat → TS) (TN : TS) (c : Nat) (hc : S.1 1 = nI (c + 1)) (h8 : c < 8)  : zM sc yX6_undo cX6_undo 1 (some .int) 3 0 0 [.ref 0] (FH S X R T P TU r G TN) (.inl (some (.int (nI c)))) (FH (sI 1 (nI c) S) X R (tCopy (G ((c + r) % 8)) T) P TU r G TN) := by
  refine zM.at (ls := [some (.ref 0)]) zy_X6_undo.2.2.2.2.2 (Nat.le_of_ble_eq_true rfl) rfl ?_
  refine z_aload_0 dX6_undo_0 ?_
  refine z_get (k := 1) dX6_undo_1 rfl rfl rfl (by decide) zf_X6_19 zw_in6 ?_
  refine z_aload_0 dX6_undo_4 ?_
  refine z_get (k := 0) dX6_undo_5 rfl rfl rfl (by decide) zf_X6_10 zw_in6 ?_
  refine z_takeBack_ok hc h8 dX6_undo_8 zm_X6_146 (Nat.le_of_ble_eq_true rfl) (by decide) ?_
  refine z_if_eq_f 24 dX6_undo_11 (by decide) (by decide) ?_
  refine z_aload_0 dX6_undo_14 ?_
  refine z_get (k := 1) dX6_undo_15 rfl rfl rfl (by decide) zf_X6_19 zw_in6 ?_
  refine z_count dX6_undo_18 zm_X6_150 (Nat.le_of_ble_eq_true rfl) (by decide) ?_
  refine z_goto (tgt := 25) dX6_undo_21 (by decide) ?_
  exact z_iret dX6_undo_25 rfl rfl rfl rfl
theorem k_f_undoCount (S X R : ZS) (T : TS) (P : ZS) (TU : TS) (r : Nat) (G : Nat → TS) (TN : TS)  : zM sc yX6_undoCount cX6_undoCount 1 (some .int) 1 0 0 [.ref 0] (FH S X R T P TU r G TN) (.inl (some (.int (S.1 1)))) (FH S X R T P TU r G TN) := by
  refine zM.at (ls := [some (.ref 0)]) zy_X6_undoCount.2.2.2.2.2 (Nat.le_of_ble_eq_true rfl) rfl ?_
  refine z_aload_0 dX6_undoCount_0 ?_
  refine z_get (k := 1) dX6_undoCount_1 rfl rfl rfl (by decide) zf_X6_19 zw_in6 ?_
  refine z_count dX6_undoCount_4 zm_X6_150 (Nat.le_of_ble_eq_true rfl) (by decide) ?_
  exact z_iret dX6_undoCount_7 rfl rfl rfl rfl
