noncomputable def g_m_type (ty : Nat) (x : Int32) (S : ZS) : ZS := (sI 9 (nI (ty + 4)) (sA 5 (ty + 3) ((zshr (x) (0)) &&& 255) (sI 9 (nI (ty + 3)) (sA 5 (ty + 2) ((zshr (x) (8)) &&& 255) (sI 9 (nI (ty + 2)) (sA 5 (ty + 1) ((zshr (x) (16)) &&& 255) (sI 9 (nI (ty + 1)) (sA 5 (ty) ((zshr (x) (24)) &&& 255) S))))))))
theorem k_m_type (ty : Nat) (x : Int32) (S : ZS) (h9 : S.1 9 = nI ty) (h6 : ty + 4 ≤ 600) : zM yX7_type cX7_type 3 none 0 0 0 [.ref 0, .int (x)] (mh S) (.inl none) (mh (g_m_type ty x S)) := by
  refine zM.at (ls := [some (.ref 0), some (.int (x)), none]) zy_X7_type.2.2.2.2.2 (Nat.le_of_ble_eq_true rfl) rfl ?_
  refine z_bipush (v := 24) dX7_type_0 rfl ?_
  refine z_istore_2 dX7_type_2 rfl (by decide) ?_
  refine z_iload_2 dX7_type_3 ?_
  refine z_if_lt_f (tgt := 39) dX7_type_4 (by decide) (by decide) ?_
  refine z_aload_0 dX7_type_7 ?_
  refine z_get (k := 7) (v := .ref 6) dX7_type_8 rfl rfl rfl (by decide) zf_X7_25 zw_in7 ?_
  refine z_aload_0 dX7_type_11 ?_
  refine z_get (k := 9) (v := .int (S.1 9)) dX7_type_12 rfl rfl rfl (by decide) zf_X7_277 zw_in7 ?_
  refine z_topi (w := nI (ty)) h9 ?_
  refine z_iload_1 dX7_type_15 ?_
  refine z_iload_2 dX7_type_16 ?_
  refine z_ishr dX7_type_17 ?_
  refine z_sipush (v := 255) dX7_type_18 rfl ?_
  refine z_iand dX7_type_21 ?_
  refine z_iastN (k := ty) dX7_type_22 rfl (by first | omega | assumption) (by decide) ?_
  refine Z.heap (h2 := mh (sA 5 (ty) ((zshr (x) (24)) &&& 255) S)) rfl ?_
  refine z_aload_0 dX7_type_23 ?_
  refine z_dup dX7_type_24 rfl ?_
  refine z_get (k := 9) (v := .int (S.1 9)) dX7_type_25 rfl rfl rfl (by decide) zf_X7_277 zw_in7 ?_
  refine z_topi (w := nI (ty)) h9 ?_
  refine z_iconst (v := 1) dX7_type_28 rfl ?_
  refine z_iadd dX7_type_29 ?_
  refine z_topi (w := nI (ty + 1)) (nI_add _ _) ?_
  refine z_put (k := 9) (ty := tyX7) dX7_type_30 rfl rfl (by decide) zf_X7_277 zw_in7 tyX7_ok nmX7 rfl (fun _ => ⟨rfl, rfl⟩) (Nat.le_of_ble_eq_true rfl) ?_
  refine Z.heap (h2 := mh (sI 9 (nI (ty + 1)) (sA 5 (ty) ((zshr (x) (24)) &&& 255) S))) rfl ?_
  refine z_iinc_2 (v := 16) dX7_type_33 rfl rfl (by decide) ?_
  refine z_goto (tgt := 3) dX7_type_36 (by decide) ?_
  refine z_iload_2 dX7_type_3 ?_
  refine z_if_lt_f (tgt := 39) dX7_type_4 (by decide) (by decide) ?_
  refine z_aload_0 dX7_type_7 ?_
  refine z_get (k := 7) (v := .ref 6) dX7_type_8 rfl rfl rfl (by decide) zf_X7_25 zw_in7 ?_
  refine z_aload_0 dX7_type_11 ?_
  refine z_get (k := 9) (v := .int (nI (ty + 1))) dX7_type_12 rfl rfl rfl (by decide) zf_X7_277 zw_in7 ?_
  refine z_iload_1 dX7_type_15 ?_
  refine z_iload_2 dX7_type_16 ?_
  refine z_ishr dX7_type_17 ?_
  refine z_sipush (v := 255) dX7_type_18 rfl ?_
  refine z_iand dX7_type_21 ?_
  refine z_iastN (k := (ty + 1)) dX7_type_22 rfl (by first | omega | assumption) (by decide) ?_
  refine Z.heap (h2 := mh (sA 5 (ty + 1) ((zshr (x) (16)) &&& 255) (sI 9 (nI (ty + 1)) (sA 5 (ty) ((zshr (x) (24)) &&& 255) S)))) rfl ?_
  refine z_aload_0 dX7_type_23 ?_
  refine z_dup dX7_type_24 rfl ?_
  refine z_get (k := 9) (v := .int (nI (ty + 1))) dX7_type_25 rfl rfl rfl (by decide) zf_X7_277 zw_in7 ?_
  refine z_iconst (v := 1) dX7_type_28 rfl ?_
  refine z_iadd dX7_type_29 ?_
  refine z_topi (w := nI (ty + 2)) (nI_add _ _) ?_
  refine z_put (k := 9) (ty := tyX7) dX7_type_30 rfl rfl (by decide) zf_X7_277 zw_in7 tyX7_ok nmX7 rfl (fun _ => ⟨rfl, rfl⟩) (Nat.le_of_ble_eq_true rfl) ?_
  refine Z.heap (h2 := mh (sI 9 (nI (ty + 2)) (sA 5 (ty + 1) ((zshr (x) (16)) &&& 255) (sI 9 (nI (ty + 1)) (sA 5 (ty) ((zshr (x) (24)) &&& 255) S))))) rfl ?_
  refine z_iinc_2 (v := 8) dX7_type_33 rfl rfl (by decide) ?_
  refine z_goto (tgt := 3) dX7_type_36 (by decide) ?_
  refine z_iload_2 dX7_type_3 ?_
  refine z_if_lt_f (tgt := 39) dX7_type_4 (by decide) (by decide) ?_
  refine z_aload_0 dX7_type_7 ?_
  refine z_get (k := 7) (v := .ref 6) dX7_type_8 rfl rfl rfl (by decide) zf_X7_25 zw_in7 ?_
  refine z_aload_0 dX7_type_11 ?_
  refine z_get (k := 9) (v := .int (nI (ty + 2))) dX7_type_12 rfl rfl rfl (by decide) zf_X7_277 zw_in7 ?_
  refine z_iload_1 dX7_type_15 ?_
  refine z_iload_2 dX7_type_16 ?_
  refine z_ishr dX7_type_17 ?_
  refine z_sipush (v := 255) dX7_type_18 rfl ?_
  refine z_iand dX7_type_21 ?_
  refine z_iastN (k := (ty + 2)) dX7_type_22 rfl (by first | omega | assumption) (by decide) ?_
  refine Z.heap (h2 := mh (sA 5 (ty + 2) ((zshr (x) (8)) &&& 255) (sI 9 (nI (ty + 2)) (sA 5 (ty + 1) ((zshr (x) (16)) &&& 255) (sI 9 (nI (ty + 1)) (sA 5 (ty) ((zshr (x) (24)) &&& 255) S)))))) rfl ?_
  refine z_aload_0 dX7_type_23 ?_
  refine z_dup dX7_type_24 rfl ?_
  refine z_get (k := 9) (v := .int (nI (ty + 2))) dX7_type_25 rfl rfl rfl (by decide) zf_X7_277 zw_in7 ?_
  refine z_iconst (v := 1) dX7_type_28 rfl ?_
  refine z_iadd dX7_type_29 ?_
  refine z_topi (w := nI (ty + 3)) (nI_add _ _) ?_
  refine z_put (k := 9) (ty := tyX7) dX7_type_30 rfl rfl (by decide) zf_X7_277 zw_in7 tyX7_ok nmX7 rfl (fun _ => ⟨rfl, rfl⟩) (Nat.le_of_ble_eq_true rfl) ?_
  refine Z.heap (h2 := mh (sI 9 (nI (ty + 3)) (sA 5 (ty + 2) ((zshr (x) (8)) &&& 255) (sI 9 (nI (ty + 2)) (sA 5 (ty + 1) ((zshr (x) (16)) &&& 255) (sI 9 (nI (ty + 1)) (sA 5 (ty) ((zshr (x) (24)) &&& 255) S))))))) rfl ?_
  refine z_iinc_2 (v := 0) dX7_type_33 rfl rfl (by decide) ?_
  refine z_goto (tgt := 3) dX7_type_36 (by decide) ?_
  refine z_iload_2 dX7_type_3 ?_
  refine z_if_lt_f (tgt := 39) dX7_type_4 (by decide) (by decide) ?_
  refine z_aload_0 dX7_type_7 ?_
  refine z_get (k := 7) (v := .ref 6) dX7_type_8 rfl rfl rfl (by decide) zf_X7_25 zw_in7 ?_
  refine z_aload_0 dX7_type_11 ?_
  refine z_get (k := 9) (v := .int (nI (ty + 3))) dX7_type_12 rfl rfl rfl (by decide) zf_X7_277 zw_in7 ?_
  refine z_iload_1 dX7_type_15 ?_
  refine z_iload_2 dX7_type_16 ?_
  refine z_ishr dX7_type_17 ?_
  refine z_sipush (v := 255) dX7_type_18 rfl ?_
  refine z_iand dX7_type_21 ?_
  refine z_iastN (k := (ty + 3)) dX7_type_22 rfl (by first | omega | assumption) (by decide) ?_
  refine Z.heap (h2 := mh (sA 5 (ty + 3) ((zshr (x) (0)) &&& 255) (sI 9 (nI (ty + 3)) (sA 5 (ty + 2) ((zshr (x) (8)) &&& 255) (sI 9 (nI (ty + 2)) (sA 5 (ty + 1) ((zshr (x) (16)) &&& 255) (sI 9 (nI (ty + 1)) (sA 5 (ty) ((zshr (x) (24)) &&& 255) S)))))))) rfl ?_
  refine z_aload_0 dX7_type_23 ?_
  refine z_dup dX7_type_24 rfl ?_
  refine z_get (k := 9) (v := .int (nI (ty + 3))) dX7_type_25 rfl rfl rfl (by decide) zf_X7_277 zw_in7 ?_
  refine z_iconst (v := 1) dX7_type_28 rfl ?_
  refine z_iadd dX7_type_29 ?_
  refine z_topi (w := nI (ty + 4)) (nI_add _ _) ?_
  refine z_put (k := 9) (ty := tyX7) dX7_type_30 rfl rfl (by decide) zf_X7_277 zw_in7 tyX7_ok nmX7 rfl (fun _ => ⟨rfl, rfl⟩) (Nat.le_of_ble_eq_true rfl) ?_
  refine Z.heap (h2 := mh (sI 9 (nI (ty + 4)) (sA 5 (ty + 3) ((zshr (x) (0)) &&& 255) (sI 9 (nI (ty + 3)) (sA 5 (ty + 2) ((zshr (x) (8)) &&& 255) (sI 9 (nI (ty + 2)) (sA 5 (ty + 1) ((zshr (x) (16)) &&& 255) (sI 9 (nI (ty + 1)) (sA 5 (ty) ((zshr (x) (24)) &&& 255) S))))))))) rfl ?_
  refine z_iinc_2 (v := (-8)) dX7_type_33 rfl rfl (by decide) ?_
  refine z_goto (tgt := 3) dX7_type_36 (by decide) ?_
  refine z_iload_2 dX7_type_3 ?_
  refine z_if_lt_t (tgt := 39) dX7_type_4 (by decide) (by decide) ?_
  rw [g_m_type]
  exact z_vret dX7_type_39 rfl rfl rfl
theorem type_9 (ty : Nat) (x : Int32) (S : ZS) : (g_m_type ty x S).1 9 = nI (ty + 4) := rfl
