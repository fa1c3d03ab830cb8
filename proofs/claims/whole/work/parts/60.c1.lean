variable {sc : SC}

/-- the picture of a tree from number o on -/
def tho (o : Nat) (T : TS) : List zO := [.inr (5, [.int (tn T), .int (tu T), .int (tp T), .int (ta T), .ref (o + 1), .ref (o + 2), .ref (o + 3), .ref (o + 4), .ref (o + 5), .ref (o + 6), .ref (o + 7), .ref (o + 8)]), .inl (0, 128, .inl (tF T)), .inl (0, 128, .inl (tL T)), .inl (1, 128, .inr (.inl (tS T))), .inl (0, 128, .inl (tlo T)), .inl (0, 128, .inl (thi T)), .inl (0, 128, .inl (tfa T)), .inl (0, 128, .inl (tog T)), .inl (0, 40, .inl (tva T))]
/-- the pictures of the text, the report and the tokens, each from number o on -/
def xho (o : Nat) (S : ZS) : List zO := [.inr (3, [.ref (o + 1), .int (S.1 2)]), .inl (3, 600, .inl (S.2 0))]
def rho (o : Nat) (S : ZS) : List zO := [.inr (1, [.ref (o + 1), .int (S.1 3)]), .inl (3, 360, .inl (S.2 1))]
def kho (o : Nat) (S : ZS) : List zO := [.inr (4, [.ref (o + 1), .ref (o + 2), .ref (o + 3), .int (S.1 4)]), .inl (0, 601, .inl (S.2 2)), .inl (0, 601, .inl (S.2 3)), .inl (0, 601, .inl (S.2 4))]
/-- the script's own: its tree, its tokens, its rows -/
def sho (o : Nat) (S : ZS) (TU : TS) : List zO := .inr (2, [.ref (o + 1), .ref (o + 10), .ref (o + 14), .int (S.1 5), .int (S.1 6), .int (S.1 7), .int (S.1 8), .int (S.1 9), .ref (o + 15), .ref (o + 16), .ref (o + 17)]) :: (tho (o + 1) TU ++ (kho (o + 10) S ++ [.inl (0, 40, .inl (S.2 5)), .inl (0, 3, .inl (S.2 6)), .inl (0, 3, .inl (S.2 7)), .inl (0, 3, .inl (S.2 8))]))
/-- what most calls see: the class, its tree, its text, its report -/
def qh (S X R : ZS) (T : TS) : List zO := .inr (6, [.ref 1, .ref 32, .ref 106, .int (S.1 0), .ref 10, .ref 14, .ref 12]) :: (tho 1 T ++ (xho 10 X ++ rho 12 R))

noncomputable def g_c_3_length (S : ZS) : Int32 := S.1 2
theorem k_c_3_length (S : ZS)  : zM sc yX3_length cX3_length 1 (some .int) 0 0 0 [.ref 0] (xho 0 S) (.inl (some (.int (g_c_3_length S)))) (xho 0 S) := by
  refine zM.at (ls := [some (.ref 0)]) zy_X3_length.2.2.2.2.2 (Nat.le_of_ble_eq_true rfl) rfl ?_
  refine z_aload_0 dX3_length_0 ?_
  refine z_get (k := 1) (v := .int (S.1 2)) dX3_length_1 rfl rfl rfl (by decide) zf_X3_15 zw_in3 ?_
  rw [g_c_3_length]
  exact z_iret dX3_length_4 rfl rfl rfl rfl
noncomputable def g_c_3_shorten (_t : Nat) (k : Nat) (S : ZS) : ZS := (sI 2 (nI (k)) S)
theorem k_c_3_shorten (t : Nat) (k : Nat) (S : ZS) (ht : S.1 2 = nI t) (h6 : t ≤ 600) (hk : k ≤ t) : zM sc yX3_shorten cX3_shorten 2 none 0 0 0 [.ref 0, .int (nI (k))] (xho 0 S) (.inl none) (xho 0 (g_c_3_shorten t k S)) := by
  refine zM.at (ls := [some (.ref 0), some (.int (nI (k)))]) zy_X3_shorten.2.2.2.2.2 (Nat.le_of_ble_eq_true rfl) rfl ?_
  refine z_iload_1 dX3_shorten_0 ?_
  refine z_ifN_lt_f (tgt := 17) dX3_shorten_1 (by decide) (x := k) (by first | omega | assumption) (by omega) ?_
  refine z_iload_1 dX3_shorten_4 ?_
  refine z_aload_0 dX3_shorten_5 ?_
  refine z_get (k := 1) (v := .int (S.1 2)) dX3_shorten_6 rfl rfl rfl (by decide) zf_X3_15 zw_in3 ?_
  refine z_topi (w := nI (t)) ht ?_
  refine z_icmpN_gt_f (tgt := 17) dX3_shorten_9 (by decide) (x := k) (z := t) (by first | omega | assumption) (by first | omega | assumption) (by omega) ?_
  refine z_aload_0 dX3_shorten_12 ?_
  refine z_iload_1 dX3_shorten_13 ?_
  refine z_put (k := 1) (ty := tyX3) dX3_shorten_14 rfl rfl (by decide) zf_X3_15 zw_in3 tyX3_ok nmX3 rfl (fun _ => ⟨rfl, rfl⟩) (Nat.le_of_ble_eq_true rfl) ?_
  refine Z.heap (h2 := xho 0 (sI 2 (nI (k)) S)) rfl ?_
  rw [g_c_3_shorten]
  exact z_vret dX3_shorten_17 rfl rfl rfl
noncomputable def g_c_3_putInt (t : Nat) (v : Int32) (S : ZS) : ZS := (sI 2 (nI (t + 4)) (sA 0 (t + 3) (vp_nar .byte ((zshr (v) (0)).toInt8.toInt32)) (sI 2 (nI (t + 3)) (sA 0 (t + 2) (vp_nar .byte ((zshr (v) (8)).toInt8.toInt32)) (sI 2 (nI (t + 2)) (sA 0 (t + 1) (vp_nar .byte ((zshr (v) (16)).toInt8.toInt32)) (sI 2 (nI (t + 1)) (sA 0 (t) (vp_nar .byte ((zshr (v) (24)).toInt8.toInt32)) S))))))))
theorem k_c_3_putInt (t : Nat) (v : Int32) (S : ZS) (ht : S.1 2 = nI t) (h6 : t + 4 ≤ 600) : zM sc yX3_putInt cX3_putInt 3 none 0 0 0 [.ref 0, .int (v)] (xho 0 S) (.inl none) (xho 0 (g_c_3_putInt t v S)) := by
  refine zM.at (ls := [some (.ref 0), some (.int (v)), none]) zy_X3_putInt.2.2.2.2.2 (Nat.le_of_ble_eq_true rfl) rfl ?_
  refine z_bipush (v := 24) dX3_putInt_0 rfl ?_
  refine z_istore_2 dX3_putInt_2 rfl (by decide) ?_
  refine z_iload_2 dX3_putInt_3 ?_
  refine z_if_lt_f (tgt := 53) dX3_putInt_4 (by decide) (by decide) ?_
  refine z_aload_0 dX3_putInt_7 ?_
  refine z_get (k := 1) (v := .int (S.1 2)) dX3_putInt_8 rfl rfl rfl (by decide) zf_X3_15 zw_in3 ?_
  refine z_topi (w := nI (t)) ht ?_
  refine z_ifN_lt_f (tgt := 47) dX3_putInt_11 (by decide) (x := t) (by first | omega | assumption) (by omega) ?_
  refine z_aload_0 dX3_putInt_14 ?_
  refine z_get (k := 1) (v := .int (S.1 2)) dX3_putInt_15 rfl rfl rfl (by decide) zf_X3_15 zw_in3 ?_
  refine z_topi (w := nI (t)) ht ?_
  refine z_sipush (v := 600) dX3_putInt_18 rfl ?_
  refine z_icmpN_ge_f (tgt := 47) dX3_putInt_21 (by decide) (x := t) (z := 600) (by first | omega | assumption) (by first | omega | assumption) (by omega) ?_
  refine z_aload_0 dX3_putInt_24 ?_
  refine z_get (k := 0) (v := .ref 1) dX3_putInt_25 rfl rfl rfl (by decide) zf_X3_9 zw_in3 ?_
  refine z_aload_0 dX3_putInt_28 ?_
  refine z_get (k := 1) (v := .int (S.1 2)) dX3_putInt_29 rfl rfl rfl (by decide) zf_X3_15 zw_in3 ?_
  refine z_topi (w := nI (t)) ht ?_
  refine z_iload_1 dX3_putInt_32 ?_
  refine z_iload_2 dX3_putInt_33 ?_
  refine z_ishr dX3_putInt_34 ?_
  refine z_i2b dX3_putInt_35 ?_
  refine z_bastN (k := t) dX3_putInt_36 rfl (by first | omega | assumption) (by decide) ?_
  refine Z.heap (h2 := xho 0 (sA 0 (t) (vp_nar .byte ((zshr (v) (24)).toInt8.toInt32)) S)) rfl ?_
  refine z_aload_0 dX3_putInt_37 ?_
  refine z_dup dX3_putInt_38 rfl ?_
  refine z_get (k := 1) (v := .int (S.1 2)) dX3_putInt_39 rfl rfl rfl (by decide) zf_X3_15 zw_in3 ?_
  refine z_topi (w := nI (t)) ht ?_
  refine z_iconst (v := 1) dX3_putInt_42 rfl ?_
  refine z_iadd dX3_putInt_43 ?_
  refine z_topi (w := nI (t + 1)) (nI_add _ _) ?_
  refine z_put (k := 1) (ty := tyX3) dX3_putInt_44 rfl rfl (by decide) zf_X3_15 zw_in3 tyX3_ok nmX3 rfl (fun _ => ⟨rfl, rfl⟩) (Nat.le_of_ble_eq_true rfl) ?_
  refine Z.heap (h2 := xho 0 (sI 2 (nI (t + 1)) (sA 0 (t) (vp_nar .byte ((zshr (v) (24)).toInt8.toInt32)) S))) rfl ?_
  refine z_iinc_2 (v := 16) dX3_putInt_47 rfl rfl (by decide) ?_
  refine z_goto (tgt := 3) dX3_putInt_50 (by decide) ?_
  refine z_iload_2 dX3_putInt_3 ?_
  refine z_if_lt_f (tgt := 53) dX3_putInt_4 (by decide) (by decide) ?_
  refine z_aload_0 dX3_putInt_7 ?_
  refine z_get (k := 1) (v := .int (nI (t + 1))) dX3_putInt_8 rfl rfl rfl (by decide) zf_X3_15 zw_in3 ?_
  refine z_ifN_lt_f (tgt := 47) dX3_putInt_11 (by decide) (x := t + 1) (by first | omega | assumption) (by omega) ?_
  refine z_aload_0 dX3_putInt_14 ?_
  refine z_get (k := 1) (v := .int (nI (t + 1))) dX3_putInt_15 rfl rfl rfl (by decide) zf_X3_15 zw_in3 ?_
  refine z_sipush (v := 600) dX3_putInt_18 rfl ?_
  refine z_icmpN_ge_f (tgt := 47) dX3_putInt_21 (by decide) (x := t + 1) (z := 600) (by first | omega | assumption) (by first | omega | assumption) (by omega) ?_
  refine z_aload_0 dX3_putInt_24 ?_
  refine z_get (k := 0) (v := .ref 1) dX3_putInt_25 rfl rfl rfl (by decide) zf_X3_9 zw_in3 ?_
  refine z_aload_0 dX3_putInt_28 ?_
  refine z_get (k := 1) (v := .int (nI (t + 1))) dX3_putInt_29 rfl rfl rfl (by decide) zf_X3_15 zw_in3 ?_
  refine z_iload_1 dX3_putInt_32 ?_
  refine z_iload_2 dX3_putInt_33 ?_
  refine z_ishr dX3_putInt_34 ?_
  refine z_i2b dX3_putInt_35 ?_
  refine z_bastN (k := (t + 1)) dX3_putInt_36 rfl (by first | omega | assumption) (by decide) ?_
  refine Z.heap (h2 := xho 0 (sA 0 (t + 1) (vp_nar .byte ((zshr (v) (16)).toInt8.toInt32)) (sI 2 (nI (t + 1)) (sA 0 (t) (vp_nar .byte ((zshr (v) (24)).toInt8.toInt32)) S)))) rfl ?_
  refine z_aload_0 dX3_putInt_37 ?_
  refine z_dup dX3_putInt_38 rfl ?_
  refine z_get (k := 1) (v := .int (nI (t + 1))) dX3_putInt_39 rfl rfl rfl (by decide) zf_X3_15 zw_in3 ?_
  refine z_iconst (v := 1) dX3_putInt_42 rfl ?_
  refine z_iadd dX3_putInt_43 ?_
  refine z_topi (w := nI (t + 2)) (nI_add _ _) ?_
  refine z_put (k := 1) (ty := tyX3) dX3_putInt_44 rfl rfl (by decide) zf_X3_15 zw_in3 tyX3_ok nmX3 rfl (fun _ => ⟨rfl, rfl⟩) (Nat.le_of_ble_eq_true rfl) ?_
  refine Z.heap (h2 := xho 0 (sI 2 (nI (t + 2)) (sA 0 (t + 1) (vp_nar .byte ((zshr (v) (16)).toInt8.toInt32)) (sI 2 (nI (t + 1)) (sA 0 (t) (vp_nar .byte ((zshr (v) (24)).toInt8.toInt32)) S))))) rfl ?_
  refine z_iinc_2 (v := 8) dX3_putInt_47 rfl rfl (by decide) ?_
  refine z_goto (tgt := 3) dX3_putInt_50 (by decide) ?_
  refine z_iload_2 dX3_putInt_3 ?_
  refine z_if_lt_f (tgt := 53) dX3_putInt_4 (by decide) (by decide) ?_
  refine z_aload_0 dX3_putInt_7 ?_
  refine z_get (k := 1) (v := .int (nI (t + 2))) dX3_putInt_8 rfl rfl rfl (by decide) zf_X3_15 zw_in3 ?_
  refine z_ifN_lt_f (tgt := 47) dX3_putInt_11 (by decide) (x := t + 2) (by first | omega | assumption) (by omega) ?_
  refine z_aload_0 dX3_putInt_14 ?_
  refine z_get (k := 1) (v := .int (nI (t + 2))) dX3_putInt_15 rfl rfl rfl (by decide) zf_X3_15 zw_in3 ?_
  refine z_sipush (v := 600) dX3_putInt_18 rfl ?_
  refine z_icmpN_ge_f (tgt := 47) dX3_putInt_21 (by decide) (x := t + 2) (z := 600) (by first | omega | assumption) (by first | omega | assumption) (by omega) ?_
  refine z_aload_0 dX3_putInt_24 ?_
  refine z_get (k := 0) (v := .ref 1) dX3_putInt_25 rfl rfl rfl (by decide) zf_X3_9 zw_in3 ?_
  refine z_aload_0 dX3_putInt_28 ?_
  refine z_get (k := 1) (v := .int (nI (t + 2))) dX3_putInt_29 rfl rfl rfl (by decide) zf_X3_15 zw_in3 ?_
  refine z_iload_1 dX3_putInt_32 ?_
  refine z_iload_2 dX3_putInt_33 ?_
  refine z_ishr dX3_putInt_34 ?_
  refine z_i2b dX3_putInt_35 ?_
  refine z_bastN (k := (t + 2)) dX3_putInt_36 rfl (by first | omega | assumption) (by decide) ?_
  refine Z.heap (h2 := xho 0 (sA 0 (t + 2) (vp_nar .byte ((zshr (v) (8)).toInt8.toInt32)) (sI 2 (nI (t + 2)) (sA 0 (t + 1) (vp_nar .byte ((zshr (v) (16)).toInt8.toInt32)) (sI 2 (nI (t + 1)) (sA 0 (t) (vp_nar .byte ((zshr (v) (24)).toInt8.toInt32)) S)))))) rfl ?_
  refine z_aload_0 dX3_putInt_37 ?_
  refine z_dup dX3_putInt_38 rfl ?_
  refine z_get (k := 1) (v := .int (nI (t + 2))) dX3_putInt_39 rfl rfl rfl (by decide) zf_X3_15 zw_in3 ?_
  refine z_iconst (v := 1) dX3_putInt_42 rfl ?_
  refine z_iadd dX3_putInt_43 ?_
  refine z_topi (w := nI (t + 3)) (nI_add _ _) ?_
  refine z_put (k := 1) (ty := tyX3) dX3_putInt_44 rfl rfl (by decide) zf_X3_15 zw_in3 tyX3_ok nmX3 rfl (fun _ => ⟨rfl, rfl⟩) (Nat.le_of_ble_eq_true rfl) ?_
  refine Z.heap (h2 := xho 0 (sI 2 (nI (t + 3)) (sA 0 (t + 2) (vp_nar .byte ((zshr (v) (8)).toInt8.toInt32)) (sI 2 (nI (t + 2)) (sA 0 (t + 1) (vp_nar .byte ((zshr (v) (16)).toInt8.toInt32)) (sI 2 (nI (t + 1)) (sA 0 (t) (vp_nar .byte ((zshr (v) (24)).toInt8.toInt32)) S))))))) rfl ?_
  refine z_iinc_2 (v := 0) dX3_putInt_47 rfl rfl (by decide) ?_
  refine z_goto (tgt := 3) dX3_putInt_50 (by decide) ?_
  refine z_iload_2 dX3_putInt_3 ?_
  refine z_if_lt_f (tgt := 53) dX3_putInt_4 (by decide) (by decide) ?_
  refine z_aload_0 dX3_putInt_7 ?_
  refine z_get (k := 1) (v := .int (nI (t + 3))) dX3_putInt_8 rfl rfl rfl (by decide) zf_X3_15 zw_in3 ?_
  refine z_ifN_lt_f (tgt := 47) dX3_putInt_11 (by decide) (x := t + 3) (by first | omega | assumption) (by omega) ?_
  refine z_aload_0 dX3_putInt_14 ?_
  refine z_get (k := 1) (v := .int (nI (t + 3))) dX3_putInt_15 rfl rfl rfl (by decide) zf_X3_15 zw_in3 ?_
  refine z_sipush (v := 600) dX3_putInt_18 rfl ?_
  refine z_icmpN_ge_f (tgt := 47) dX3_putInt_21 (by decide) (x := t + 3) (z := 600) (by first | omega | assumption) (by first | omega | assumption) (by omega) ?_
  refine z_aload_0 dX3_putInt_24 ?_
  refine z_get (k := 0) (v := .ref 1) dX3_putInt_25 rfl rfl rfl (by decide) zf_X3_9 zw_in3 ?_
  refine z_aload_0 dX3_putInt_28 ?_
  refine z_get (k := 1) (v := .int (nI (t + 3))) dX3_putInt_29 rfl rfl rfl (by decide) zf_X3_15 zw_in3 ?_
  refine z_iload_1 dX3_putInt_32 ?_
  refine z_iload_2 dX3_putInt_33 ?_
  refine z_ishr dX3_putInt_34 ?_
  refine z_i2b dX3_putInt_35 ?_
  refine z_bastN (k := (t + 3)) dX3_putInt_36 rfl (by first | omega | assumption) (by decide) ?_
  refine Z.heap (h2 := xho 0 (sA 0 (t + 3) (vp_nar .byte ((zshr (v) (0)).toInt8.toInt32)) (sI 2 (nI (t + 3)) (sA 0 (t + 2) (vp_nar .byte ((zshr (v) (8)).toInt8.toInt32)) (sI 2 (nI (t + 2)) (sA 0 (t + 1) (vp_nar .byte ((zshr (v) (16)).toInt8.toInt32)) (sI 2 (nI (t + 1)) (sA 0 (t) (vp_nar .byte ((zshr (v) (24)).toInt8.toInt32)) S)))))))) rfl ?_
  refine z_aload_0 dX3_putInt_37 ?_
  refine z_dup dX3_putInt_38 rfl ?_
  refine z_get (k := 1) (v := .int (nI (t + 3))) dX3_putInt_39 rfl rfl rfl (by decide) zf_X3_15 zw_in3 ?_
  refine z_iconst (v := 1) dX3_putInt_42 rfl ?_
  refine z_iadd dX3_putInt_43 ?_
  refine z_topi (w := nI (t + 4)) (nI_add _ _) ?_
  refine z_put (k := 1) (ty := tyX3) dX3_putInt_44 rfl rfl (by decide) zf_X3_15 zw_in3 tyX3_ok nmX3 rfl (fun _ => ⟨rfl, rfl⟩) (Nat.le_of_ble_eq_true rfl) ?_
  refine Z.heap (h2 := xho 0 (sI 2 (nI (t + 4)) (sA 0 (t + 3) (vp_nar .byte ((zshr (v) (0)).toInt8.toInt32)) (sI 2 (nI (t + 3)) (sA 0 (t + 2) (vp_nar .byte ((zshr (v) (8)).toInt8.toInt32)) (sI 2 (nI (t + 2)) (sA 0 (t + 1) (vp_nar .byte ((zshr (v) (16)).toInt8.toInt32)) (sI 2 (nI (t + 1)) (sA 0 (t) (vp_nar .byte ((zshr (v) (24)).toInt8.toInt32)) S))))))))) rfl ?_
  refine z_iinc_2 (v := (-8)) dX3_putInt_47 rfl rfl (by decide) ?_
  refine z_goto (tgt := 3) dX3_putInt_50 (by decide) ?_
  refine z_iload_2 dX3_putInt_3 ?_
  refine z_if_lt_t (tgt := 53) dX3_putInt_4 (by decide) (by decide) ?_
  rw [g_c_3_putInt]
  exact z_vret dX3_putInt_53 rfl rfl rfl
noncomputable def g_c_3_byteAt (t : Nat) (k : Nat) (S : ZS) : Int32 := (if t ≤ k then (-1) else (S.2 0 (k)) &&& 255)
theorem k_c_3_byteAt (t : Nat) (k : Nat) (S : ZS) (ht : S.1 2 = nI t) (h6 : t ≤ 600) (hk : k < 2 ^ 31) : zM sc yX3_byteAt cX3_byteAt 2 (some .int) 0 0 0 [.ref 0, .int (nI (k))] (xho 0 S) (.inl (some (.int (g_c_3_byteAt t k S)))) (xho 0 S) := by
  refine zM.at (ls := [some (.ref 0), some (.int (nI (k)))]) zy_X3_byteAt.2.2.2.2.2 (Nat.le_of_ble_eq_true rfl) rfl ?_
  refine z_iload_1 dX3_byteAt_0 ?_
  refine z_ifN_lt_f (tgt := 32) dX3_byteAt_1 (by decide) (x := k) (by first | omega | assumption) (by omega) ?_
  refine z_iload_1 dX3_byteAt_4 ?_
  refine z_aload_0 dX3_byteAt_5 ?_
  refine z_get (k := 1) (v := .int (S.1 2)) dX3_byteAt_6 rfl rfl rfl (by decide) zf_X3_15 zw_in3 ?_
  refine z_topi (w := nI (t)) ht ?_
  refine z_icmpN_ge (tgt := 32) dX3_byteAt_9 (by decide) (x := k) (z := t) (by first | omega | assumption) (by first | omega | assumption) (fun c9 => ?_) (fun c9 => ?_)
  · refine z_iconst (v := (-1)) dX3_byteAt_32 rfl ?_
    rw [g_c_3_byteAt, if_pos c9]
    exact z_iret dX3_byteAt_33 rfl rfl rfl rfl
  · refine z_iload_1 dX3_byteAt_12 ?_
    refine z_sipush (v := 600) dX3_byteAt_13 rfl ?_
    refine z_icmpN_ge_f (tgt := 32) dX3_byteAt_16 (by decide) (x := k) (z := 600) (by first | omega | assumption) (by first | omega | assumption) (by omega) ?_
    refine z_aload_0 dX3_byteAt_19 ?_
    refine z_get (k := 0) (v := .ref 1) dX3_byteAt_20 rfl rfl rfl (by decide) zf_X3_9 zw_in3 ?_
    refine z_iload_1 dX3_byteAt_23 ?_
    refine z_baldN (k := k) dX3_byteAt_24 rfl (by first | omega | assumption) (by decide) ?_
    refine z_topi (w := S.2 0 (k)) rfl ?_
    refine z_sipush (v := 255) dX3_byteAt_25 rfl ?_
    refine z_iand dX3_byteAt_28 ?_
    refine z_goto (tgt := 33) dX3_byteAt_29 (by decide) ?_
    rw [g_c_3_byteAt, if_neg c9]
    exact z_iret dX3_byteAt_33 rfl rfl rfl rfl
noncomputable def g_c_1_length (S : ZS) : Int32 := S.1 3
theorem k_c_1_length (S : ZS)  : zM sc yX1_length cX1_length 1 (some .int) 0 0 0 [.ref 0] (rho 0 S) (.inl (some (.int (g_c_1_length S)))) (rho 0 S) := by
  refine zM.at (ls := [some (.ref 0)]) zy_X1_length.2.2.2.2.2 (Nat.le_of_ble_eq_true rfl) rfl ?_
  refine z_aload_0 dX1_length_0 ?_
  refine z_get (k := 1) (v := .int (S.1 3)) dX1_length_1 rfl rfl rfl (by decide) zf_X1_15 zw_in1 ?_
  rw [g_c_1_length]
  exact z_iret dX1_length_4 rfl rfl rfl rfl
noncomputable def g_c_1_clear (S : ZS) : ZS := (sI 3 (0) S)
theorem k_c_1_clear (S : ZS)  : zM sc yX1_clear cX1_clear 1 none 0 0 0 [.ref 0] (rho 0 S) (.inl none) (rho 0 (g_c_1_clear S)) := by
  refine zM.at (ls := [some (.ref 0)]) zy_X1_clear.2.2.2.2.2 (Nat.le_of_ble_eq_true rfl) rfl ?_
  refine z_aload_0 dX1_clear_0 ?_
  refine z_iconst (v := 0) dX1_clear_1 rfl ?_
  refine z_put (k := 1) (ty := tyX1) dX1_clear_2 rfl rfl (by decide) zf_X1_15 zw_in1 tyX1_ok nmX1 rfl (fun _ => ⟨rfl, rfl⟩) (Nat.le_of_ble_eq_true rfl) ?_
  refine Z.heap (h2 := rho 0 (sI 3 (0) S)) rfl ?_
  rw [g_c_1_clear]
  exact z_vret dX1_clear_5 rfl rfl rfl
noncomputable def g_c_1_put (r : Nat) (c : Int32) (S : ZS) : ZS := (sI 3 (nI (r + 1)) (sA 1 (r) (vp_nar .byte ((c).toInt8.toInt32)) S))
theorem k_c_1_put (r : Nat) (c : Int32) (S : ZS) (hr : S.1 3 = nI r) (h3 : r < 360) : zM sc yX1_put cX1_put 2 none 0 0 0 [.ref 0, .int (c)] (rho 0 S) (.inl none) (rho 0 (g_c_1_put r c S)) := by
  refine zM.at (ls := [some (.ref 0), some (.int (c))]) zy_X1_put.2.2.2.2.2 (Nat.le_of_ble_eq_true rfl) rfl ?_
  refine z_aload_0 dX1_put_0 ?_
  refine z_get (k := 1) (v := .int (S.1 3)) dX1_put_1 rfl rfl rfl (by decide) zf_X1_15 zw_in1 ?_
  refine z_topi (w := nI (r)) hr ?_
  refine z_ifN_lt_f (tgt := 38) dX1_put_4 (by decide) (x := r) (by first | omega | assumption) (by omega) ?_
  refine z_aload_0 dX1_put_7 ?_
  refine z_get (k := 1) (v := .int (S.1 3)) dX1_put_8 rfl rfl rfl (by decide) zf_X1_15 zw_in1 ?_
  refine z_topi (w := nI (r)) hr ?_
  refine z_sipush (v := 360) dX1_put_11 rfl ?_
  refine z_icmpN_ge_f (tgt := 38) dX1_put_14 (by decide) (x := r) (z := 360) (by first | omega | assumption) (by first | omega | assumption) (by omega) ?_
  refine z_aload_0 dX1_put_17 ?_
  refine z_get (k := 0) (v := .ref 1) dX1_put_18 rfl rfl rfl (by decide) zf_X1_11 zw_in1 ?_
  refine z_aload_0 dX1_put_21 ?_
  refine z_get (k := 1) (v := .int (S.1 3)) dX1_put_22 rfl rfl rfl (by decide) zf_X1_15 zw_in1 ?_
  refine z_topi (w := nI (r)) hr ?_
  refine z_iload_1 dX1_put_25 ?_
  refine z_i2b dX1_put_26 ?_
  refine z_bastN (k := r) dX1_put_27 rfl (by first | omega | assumption) (by decide) ?_
  refine Z.heap (h2 := rho 0 (sA 1 (r) (vp_nar .byte ((c).toInt8.toInt32)) S)) rfl ?_
  refine z_aload_0 dX1_put_28 ?_
  refine z_dup dX1_put_29 rfl ?_
  refine z_get (k := 1) (v := .int (S.1 3)) dX1_put_30 rfl rfl rfl (by decide) zf_X1_15 zw_in1 ?_
  refine z_topi (w := nI (r)) hr ?_
  refine z_iconst (v := 1) dX1_put_33 rfl ?_
  refine z_iadd dX1_put_34 ?_
  refine z_topi (w := nI (r + 1)) (nI_add _ _) ?_
  refine z_put (k := 1) (ty := tyX1) dX1_put_35 rfl rfl (by decide) zf_X1_15 zw_in1 tyX1_ok nmX1 rfl (fun _ => ⟨rfl, rfl⟩) (Nat.le_of_ble_eq_true rfl) ?_
  refine Z.heap (h2 := rho 0 (sI 3 (nI (r + 1)) (sA 1 (r) (vp_nar .byte ((c).toInt8.toInt32)) S))) rfl ?_
  rw [g_c_1_put]
  exact z_vret dX1_put_38 rfl rfl rfl
noncomputable def g_c_4_isBlank (c : Int32) : Bool := (if c = 32 then true else (if c = 10 then true else false))
theorem k_c_4_isBlank (c : Int32)  : zM sc yX4_isBlank cX4_isBlank 1 (some .boolean) 0 0 0 [.int (c)] ([]) (.inl (some (.int (zb (g_c_4_isBlank c))))) ([]) := by
  refine zM.at (ls := [some (.int (c))]) zy_X4_isBlank.2.2.2.2 (Nat.le_of_ble_eq_true rfl) rfl ?_
  refine z_iload_0 dX4_isBlank_0 ?_
  refine z_bipush (v := 32) dX4_isBlank_1 rfl ?_
  refine z_icmp_eq (tgt := 12) dX4_isBlank_3 (by decide) (fun c3 => ?_) (fun c3 => ?_)
  · refine z_iconst (v := 1) dX4_isBlank_12 rfl ?_
    refine z_goto (tgt := 17) dX4_isBlank_13 (by decide) ?_
    rw [g_c_4_isBlank, if_pos c3]
    exact z_iret dX4_isBlank_17 rfl rfl rfl rfl
  · refine z_iload_0 dX4_isBlank_6 ?_
    refine z_bipush (v := 10) dX4_isBlank_7 rfl ?_
    refine z_icmp_ne (tgt := 16) dX4_isBlank_9 (by decide) (fun c9 => ?_) (fun c9 => ?_)
    · refine z_iconst (v := 0) dX4_isBlank_16 rfl ?_
      rw [g_c_4_isBlank, if_neg c3, if_neg c9]
      exact z_iret dX4_isBlank_17 rfl rfl rfl rfl
    · refine z_iconst (v := 1) dX4_isBlank_12 rfl ?_
      refine z_goto (tgt := 17) dX4_isBlank_13 (by decide) ?_
      rw [g_c_4_isBlank, if_neg c3, if_pos c9]
      exact z_iret dX4_isBlank_17 rfl rfl rfl rfl
noncomputable def g_c_4_isLetter (c : Int32) : Bool := (if c < 97 then false else (if 122 < c then false else true))
theorem k_c_4_isLetter (c : Int32)  : zM sc yX4_isLetter cX4_isLetter 1 (some .boolean) 0 0 0 [.int (c)] ([]) (.inl (some (.int (zb (g_c_4_isLetter c))))) ([]) := by
  refine zM.at (ls := [some (.int (c))]) zy_X4_isLetter.2.2.2.2 (Nat.le_of_ble_eq_true rfl) rfl ?_
  refine z_iload_0 dX4_isLetter_0 ?_
  refine z_bipush (v := 97) dX4_isLetter_1 rfl ?_
  refine z_icmp_lt (tgt := 16) dX4_isLetter_3 (by decide) (fun c3 => ?_) (fun c3 => ?_)
  · refine z_iconst (v := 0) dX4_isLetter_16 rfl ?_
    rw [g_c_4_isLetter, if_pos c3]
    exact z_iret dX4_isLetter_17 rfl rfl rfl rfl
  · refine z_iload_0 dX4_isLetter_6 ?_
    refine z_bipush (v := 122) dX4_isLetter_7 rfl ?_
    refine z_icmp_gt (tgt := 16) dX4_isLetter_9 (by decide) (fun c9 => ?_) (fun c9 => ?_)
    · refine z_iconst (v := 0) dX4_isLetter_16 rfl ?_
      rw [g_c_4_isLetter, if_neg c3, if_pos c9]
      exact z_iret dX4_isLetter_17 rfl rfl rfl rfl
    · refine z_iconst (v := 1) dX4_isLetter_12 rfl ?_
      refine z_goto (tgt := 17) dX4_isLetter_13 (by decide) ?_
      rw [g_c_4_isLetter, if_neg c3, if_neg c9]
      exact z_iret dX4_isLetter_17 rfl rfl rfl rfl
noncomputable def g_c_4_isDigit (c : Int32) : Bool := (if c < 48 then false else (if 57 < c then false else true))
theorem k_c_4_isDigit (c : Int32)  : zM sc yX4_isDigit cX4_isDigit 1 (some .boolean) 0 0 0 [.int (c)] ([]) (.inl (some (.int (zb (g_c_4_isDigit c))))) ([]) := by
  refine zM.at (ls := [some (.int (c))]) zy_X4_isDigit.2.2.2.2 (Nat.le_of_ble_eq_true rfl) rfl ?_
  refine z_iload_0 dX4_isDigit_0 ?_
  refine z_bipush (v := 48) dX4_isDigit_1 rfl ?_
  refine z_icmp_lt (tgt := 16) dX4_isDigit_3 (by decide) (fun c3 => ?_) (fun c3 => ?_)
  · refine z_iconst (v := 0) dX4_isDigit_16 rfl ?_
    rw [g_c_4_isDigit, if_pos c3]
    exact z_iret dX4_isDigit_17 rfl rfl rfl rfl
  · refine z_iload_0 dX4_isDigit_6 ?_
    refine z_bipush (v := 57) dX4_isDigit_7 rfl ?_
    refine z_icmp_gt (tgt := 16) dX4_isDigit_9 (by decide) (fun c9 => ?_) (fun c9 => ?_)
    · refine z_iconst (v := 0) dX4_isDigit_16 rfl ?_
      rw [g_c_4_isDigit, if_neg c3, if_pos c9]
      exact z_iret dX4_isDigit_17 rfl rfl rfl rfl
    · refine z_iconst (v := 1) dX4_isDigit_12 rfl ?_
      refine z_goto (tgt := 17) dX4_isDigit_13 (by decide) ?_
      rw [g_c_4_isDigit, if_neg c3, if_neg c9]
      exact z_iret dX4_isDigit_17 rfl rfl rfl rfl
noncomputable def g_c_4_codeOfSign (c : Int32) : Int32 := (if c = 40 then 4 else (if c = 41 then 5 else (if c = 45 then 3 else (if c = 59 then 6 else 1))))
theorem k_c_4_codeOfSign (c : Int32)  : zM sc yX4_codeOfSign cX4_codeOfSign 1 (some .int) 0 0 0 [.int (c)] ([]) (.inl (some (.int (g_c_4_codeOfSign c)))) ([]) := by
  refine zM.at (ls := [some (.int (c))]) zy_X4_codeOfSign.2.2.2.2 (Nat.le_of_ble_eq_true rfl) rfl ?_
  refine z_iload_0 dX4_codeOfSign_0 ?_
  by_cases cW0 : c = 40
  · refine z_lookup (off := 45) (tgt := 46) dX4_codeOfSign_1 (by decide) (by show Op.lookupswitch.offset [(40, 45), (41, 47), (45, 43), (59, 49)] 52 (c).toInt = 45; rw [cW0]; decide) (by decide) ?_
    refine z_iconst (v := 4) dX4_codeOfSign_46 rfl ?_
    rw [g_c_4_codeOfSign, if_pos cW0]
    exact z_iret dX4_codeOfSign_47 rfl rfl rfl rfl
  · by_cases cW1 : c = 41
    · refine z_lookup (off := 47) (tgt := 48) dX4_codeOfSign_1 (by decide) (by show Op.lookupswitch.offset [(40, 45), (41, 47), (45, 43), (59, 49)] 52 (c).toInt = 47; rw [lv_osw (a := 40) (k := 40) cW0 (by decide), cW1]; decide) (by decide) ?_
      refine z_iconst (v := 5) dX4_codeOfSign_48 rfl ?_
      rw [g_c_4_codeOfSign, if_neg cW0, if_pos cW1]
      exact z_iret dX4_codeOfSign_49 rfl rfl rfl rfl
    · by_cases cW2 : c = 45
      · refine z_lookup (off := 43) (tgt := 44) dX4_codeOfSign_1 (by decide) (by show Op.lookupswitch.offset [(40, 45), (41, 47), (45, 43), (59, 49)] 52 (c).toInt = 43; rw [lv_osw (a := 40) (k := 40) cW0 (by decide), lv_osw (a := 41) (k := 41) cW1 (by decide), cW2]; decide) (by decide) ?_
        refine z_iconst (v := 3) dX4_codeOfSign_44 rfl ?_
        rw [g_c_4_codeOfSign, if_neg cW0, if_neg cW1, if_pos cW2]
        exact z_iret dX4_codeOfSign_45 rfl rfl rfl rfl
      · by_cases cW3 : c = 59
        · refine z_lookup (off := 49) (tgt := 50) dX4_codeOfSign_1 (by decide) (by show Op.lookupswitch.offset [(40, 45), (41, 47), (45, 43), (59, 49)] 52 (c).toInt = 49; rw [lv_osw (a := 40) (k := 40) cW0 (by decide), lv_osw (a := 41) (k := 41) cW1 (by decide), lv_osw (a := 45) (k := 45) cW2 (by decide), cW3]; decide) (by decide) ?_
          refine z_bipush (v := 6) dX4_codeOfSign_50 rfl ?_
          rw [g_c_4_codeOfSign, if_neg cW0, if_neg cW1, if_neg cW2, if_pos cW3]
          exact z_iret dX4_codeOfSign_52 rfl rfl rfl rfl
        · refine z_lookup (off := 52) (tgt := 53) dX4_codeOfSign_1 (by decide) (by show Op.lookupswitch.offset [(40, 45), (41, 47), (45, 43), (59, 49)] 52 (c).toInt = 52; rw [lv_osw (a := 40) (k := 40) cW0 (by decide), lv_osw (a := 41) (k := 41) cW1 (by decide), lv_osw (a := 45) (k := 45) cW2 (by decide), lv_osw (a := 59) (k := 59) cW3 (by decide)]; rfl) (by decide) ?_
          refine z_iconst (v := 1) dX4_codeOfSign_53 rfl ?_
          rw [g_c_4_codeOfSign, if_neg cW0, if_neg cW1, if_neg cW2, if_neg cW3]
          exact z_iret dX4_codeOfSign_54 rfl rfl rfl rfl
noncomputable def g_c_4_put (c : Nat) (x : Int32) (f : Int32) (v : Int32) (S : ZS) : ZS := (sI 4 (nI (c + 1)) (sA 4 (c) (v) (sA 3 (c) (f) (sA 2 (c) (x) S))))
theorem k_c_4_put (c : Nat) (x : Int32) (f : Int32) (v : Int32) (S : ZS) (hc : S.1 4 = nI c) (hc6 : c < 601) : zM sc yX4_put cX4_put 4 none 0 0 0 [.ref 0, .int (x), .int (f), .int (v)] (kho 0 S) (.inl none) (kho 0 (g_c_4_put c x f v S)) := by
  refine zM.at (ls := [some (.ref 0), some (.int (x)), some (.int (f)), some (.int (v))]) zy_X4_put.2.2.2.2.2 (Nat.le_of_ble_eq_true rfl) rfl ?_
  refine z_aload_0 dX4_put_0 ?_
  refine z_get (k := 3) (v := .int (S.1 4)) dX4_put_1 rfl rfl rfl (by decide) zf_X4_21 zw_in4 ?_
  refine z_topi (w := nI (c)) hc ?_
  refine z_ifN_lt_f (tgt := 57) dX4_put_4 (by decide) (x := c) (by first | omega | assumption) (by omega) ?_
  refine z_aload_0 dX4_put_7 ?_
  refine z_get (k := 3) (v := .int (S.1 4)) dX4_put_8 rfl rfl rfl (by decide) zf_X4_21 zw_in4 ?_
  refine z_topi (w := nI (c)) hc ?_
  refine z_sipush (v := 601) dX4_put_11 rfl ?_
  refine z_icmpN_ge_f (tgt := 57) dX4_put_14 (by decide) (x := c) (z := 601) (by first | omega | assumption) (by first | omega | assumption) (by omega) ?_
  refine z_aload_0 dX4_put_17 ?_
  refine z_get (k := 0) (v := .ref 1) dX4_put_18 rfl rfl rfl (by decide) zf_X4_11 zw_in4 ?_
  refine z_aload_0 dX4_put_21 ?_
  refine z_get (k := 3) (v := .int (S.1 4)) dX4_put_22 rfl rfl rfl (by decide) zf_X4_21 zw_in4 ?_
  refine z_topi (w := nI (c)) hc ?_
  refine z_iload_1 dX4_put_25 ?_
  refine z_iastN (k := c) dX4_put_26 rfl (by first | omega | assumption) (by decide) ?_
  refine Z.heap (h2 := kho 0 (sA 2 (c) (x) S)) rfl ?_
  refine z_aload_0 dX4_put_27 ?_
  refine z_get (k := 1) (v := .ref 2) dX4_put_28 rfl rfl rfl (by decide) zf_X4_15 zw_in4 ?_
  refine z_aload_0 dX4_put_31 ?_
  refine z_get (k := 3) (v := .int (S.1 4)) dX4_put_32 rfl rfl rfl (by decide) zf_X4_21 zw_in4 ?_
  refine z_topi (w := nI (c)) hc ?_
  refine z_iload_2 dX4_put_35 ?_
  refine z_iastN (k := c) dX4_put_36 rfl (by first | omega | assumption) (by decide) ?_
  refine Z.heap (h2 := kho 0 (sA 3 (c) (f) (sA 2 (c) (x) S))) rfl ?_
  refine z_aload_0 dX4_put_37 ?_
  refine z_get (k := 2) (v := .ref 3) dX4_put_38 rfl rfl rfl (by decide) zf_X4_18 zw_in4 ?_
  refine z_aload_0 dX4_put_41 ?_
  refine z_get (k := 3) (v := .int (S.1 4)) dX4_put_42 rfl rfl rfl (by decide) zf_X4_21 zw_in4 ?_
  refine z_topi (w := nI (c)) hc ?_
  refine z_iload_3 dX4_put_45 ?_
  refine z_iastN (k := c) dX4_put_46 rfl (by first | omega | assumption) (by decide) ?_
  refine Z.heap (h2 := kho 0 (sA 4 (c) (v) (sA 3 (c) (f) (sA 2 (c) (x) S)))) rfl ?_
  refine z_aload_0 dX4_put_47 ?_
  refine z_dup dX4_put_48 rfl ?_
  refine z_get (k := 3) (v := .int (S.1 4)) dX4_put_49 rfl rfl rfl (by decide) zf_X4_21 zw_in4 ?_
  refine z_topi (w := nI (c)) hc ?_
  refine z_iconst (v := 1) dX4_put_52 rfl ?_
  refine z_iadd dX4_put_53 ?_
  refine z_topi (w := nI (c + 1)) (nI_add _ _) ?_
  refine z_put (k := 3) (ty := tyX4) dX4_put_54 rfl rfl (by decide) zf_X4_21 zw_in4 tyX4_ok nmX4 rfl (fun _ => ⟨rfl, rfl⟩) (Nat.le_of_ble_eq_true rfl) ?_
  refine Z.heap (h2 := kho 0 (sI 4 (nI (c + 1)) (sA 4 (c) (v) (sA 3 (c) (f) (sA 2 (c) (x) S))))) rfl ?_
  rw [g_c_4_put]
  exact z_vret dX4_put_57 rfl rfl rfl
noncomputable def g_c_4_codeAt (c : Nat) (k : Nat) (S : ZS) : Int32 := (if c ≤ k then 0 else S.2 2 (k))
theorem k_c_4_codeAt (c : Nat) (k : Nat) (S : ZS) (hc : S.1 4 = nI c) (hc6 : c ≤ 601) (hk : k < 2 ^ 31) : zM sc yX4_codeAt cX4_codeAt 2 (some .int) 0 0 0 [.ref 0, .int (nI (k))] (kho 0 S) (.inl (some (.int (g_c_4_codeAt c k S)))) (kho 0 S) := by
  refine zM.at (ls := [some (.ref 0), some (.int (nI (k)))]) zy_X4_codeAt.2.2.2.2.2 (Nat.le_of_ble_eq_true rfl) rfl ?_
  refine z_iload_1 dX4_codeAt_0 ?_
  refine z_ifN_lt_f (tgt := 28) dX4_codeAt_1 (by decide) (x := k) (by first | omega | assumption) (by omega) ?_
  refine z_iload_1 dX4_codeAt_4 ?_
  refine z_aload_0 dX4_codeAt_5 ?_
  refine z_get (k := 3) (v := .int (S.1 4)) dX4_codeAt_6 rfl rfl rfl (by decide) zf_X4_21 zw_in4 ?_
  refine z_topi (w := nI (c)) hc ?_
  refine z_icmpN_ge (tgt := 28) dX4_codeAt_9 (by decide) (x := k) (z := c) (by first | omega | assumption) (by first | omega | assumption) (fun c9 => ?_) (fun c9 => ?_)
  · refine z_iconst (v := 0) dX4_codeAt_28 rfl ?_
    rw [g_c_4_codeAt, if_pos c9]
    exact z_iret dX4_codeAt_29 rfl rfl rfl rfl
  · refine z_iload_1 dX4_codeAt_12 ?_
    refine z_sipush (v := 601) dX4_codeAt_13 rfl ?_
    refine z_icmpN_ge_f (tgt := 28) dX4_codeAt_16 (by decide) (x := k) (z := 601) (by first | omega | assumption) (by first | omega | assumption) (by omega) ?_
    refine z_aload_0 dX4_codeAt_19 ?_
    refine z_get (k := 0) (v := .ref 1) dX4_codeAt_20 rfl rfl rfl (by decide) zf_X4_11 zw_in4 ?_
    refine z_iload_1 dX4_codeAt_23 ?_
    refine z_ialdN (k := k) dX4_codeAt_24 rfl (by first | omega | assumption) (by decide) ?_
    refine z_topi (w := S.2 2 (k)) rfl ?_
    refine z_goto (tgt := 29) dX4_codeAt_25 (by decide) ?_
    rw [g_c_4_codeAt, if_neg c9]
    exact z_iret dX4_codeAt_29 rfl rfl rfl rfl
noncomputable def g_c_4_offsetAt (c : Nat) (k : Nat) (S : ZS) : Int32 := (if c ≤ k then (-1) else S.2 3 (k))
theorem k_c_4_offsetAt (c : Nat) (k : Nat) (S : ZS) (hc : S.1 4 = nI c) (hc6 : c ≤ 601) (hk : k < 2 ^ 31) : zM sc yX4_offsetAt cX4_offsetAt 2 (some .int) 0 0 0 [.ref 0, .int (nI (k))] (kho 0 S) (.inl (some (.int (g_c_4_offsetAt c k S)))) (kho 0 S) := by
  refine zM.at (ls := [some (.ref 0), some (.int (nI (k)))]) zy_X4_offsetAt.2.2.2.2.2 (Nat.le_of_ble_eq_true rfl) rfl ?_
  refine z_iload_1 dX4_offsetAt_0 ?_
  refine z_ifN_lt_f (tgt := 28) dX4_offsetAt_1 (by decide) (x := k) (by first | omega | assumption) (by omega) ?_
  refine z_iload_1 dX4_offsetAt_4 ?_
  refine z_aload_0 dX4_offsetAt_5 ?_
  refine z_get (k := 3) (v := .int (S.1 4)) dX4_offsetAt_6 rfl rfl rfl (by decide) zf_X4_21 zw_in4 ?_
  refine z_topi (w := nI (c)) hc ?_
  refine z_icmpN_ge (tgt := 28) dX4_offsetAt_9 (by decide) (x := k) (z := c) (by first | omega | assumption) (by first | omega | assumption) (fun c9 => ?_) (fun c9 => ?_)
  · refine z_iconst (v := (-1)) dX4_offsetAt_28 rfl ?_
    rw [g_c_4_offsetAt, if_pos c9]
    exact z_iret dX4_offsetAt_29 rfl rfl rfl rfl
  · refine z_iload_1 dX4_offsetAt_12 ?_
    refine z_sipush (v := 601) dX4_offsetAt_13 rfl ?_
    refine z_icmpN_ge_f (tgt := 28) dX4_offsetAt_16 (by decide) (x := k) (z := 601) (by first | omega | assumption) (by first | omega | assumption) (by omega) ?_
    refine z_aload_0 dX4_offsetAt_19 ?_
    refine z_get (k := 1) (v := .ref 2) dX4_offsetAt_20 rfl rfl rfl (by decide) zf_X4_15 zw_in4 ?_
    refine z_iload_1 dX4_offsetAt_23 ?_
    refine z_ialdN (k := k) dX4_offsetAt_24 rfl (by first | omega | assumption) (by decide) ?_
    refine z_topi (w := S.2 3 (k)) rfl ?_
    refine z_goto (tgt := 29) dX4_offsetAt_25 (by decide) ?_
    rw [g_c_4_offsetAt, if_neg c9]
    exact z_iret dX4_offsetAt_29 rfl rfl rfl rfl
noncomputable def g_c_4_numberAt (c : Nat) (k : Nat) (S : ZS) : Int32 := (if c ≤ k then 0 else S.2 4 (k))
theorem k_c_4_numberAt (c : Nat) (k : Nat) (S : ZS) (hc : S.1 4 = nI c) (hc6 : c ≤ 601) (hk : k < 2 ^ 31) : zM sc yX4_numberAt cX4_numberAt 2 (some .int) 0 0 0 [.ref 0, .int (nI (k))] (kho 0 S) (.inl (some (.int (g_c_4_numberAt c k S)))) (kho 0 S) := by
  refine zM.at (ls := [some (.ref 0), some (.int (nI (k)))]) zy_X4_numberAt.2.2.2.2.2 (Nat.le_of_ble_eq_true rfl) rfl ?_
  refine z_iload_1 dX4_numberAt_0 ?_
  refine z_ifN_lt_f (tgt := 28) dX4_numberAt_1 (by decide) (x := k) (by first | omega | assumption) (by omega) ?_
  refine z_iload_1 dX4_numberAt_4 ?_
  refine z_aload_0 dX4_numberAt_5 ?_
  refine z_get (k := 3) (v := .int (S.1 4)) dX4_numberAt_6 rfl rfl rfl (by decide) zf_X4_21 zw_in4 ?_
  refine z_topi (w := nI (c)) hc ?_
  refine z_icmpN_ge (tgt := 28) dX4_numberAt_9 (by decide) (x := k) (z := c) (by first | omega | assumption) (by first | omega | assumption) (fun c9 => ?_) (fun c9 => ?_)
  · refine z_iconst (v := 0) dX4_numberAt_28 rfl ?_
    rw [g_c_4_numberAt, if_pos c9]
    exact z_iret dX4_numberAt_29 rfl rfl rfl rfl
  · refine z_iload_1 dX4_numberAt_12 ?_
    refine z_sipush (v := 601) dX4_numberAt_13 rfl ?_
    refine z_icmpN_ge_f (tgt := 28) dX4_numberAt_16 (by decide) (x := k) (z := 601) (by first | omega | assumption) (by first | omega | assumption) (by omega) ?_
    refine z_aload_0 dX4_numberAt_19 ?_
    refine z_get (k := 2) (v := .ref 3) dX4_numberAt_20 rfl rfl rfl (by decide) zf_X4_18 zw_in4 ?_
    refine z_iload_1 dX4_numberAt_23 ?_
    refine z_ialdN (k := k) dX4_numberAt_24 rfl (by first | omega | assumption) (by decide) ?_
    refine z_topi (w := S.2 4 (k)) rfl ?_
    refine z_goto (tgt := 29) dX4_numberAt_25 (by decide) ?_
    rw [g_c_4_numberAt, if_neg c9]
    exact z_iret dX4_numberAt_29 rfl rfl rfl rfl
