variable {sc : SC}
theorem k_init_X5 : zM sc yX5_init cX5_init 1 none 1 8 936 [.ref 0] [.inr (5, [.int 0, .int 0, .int 0, .int 0, .null, .null, .null, .null, .null, .null, .null, .null])] (.inl none) [.inr (5, [.int 0, .int 0, .int 0, .int 0, .ref 1, .ref 2, .ref 3, .ref 4, .ref 5, .ref 6, .ref 7, .ref 8]), .inl (0, 128, .inl (fun _ => 0)), .inl (0, 128, .inl (fun _ => 0)), .inl (1, 128, .inr (.inl (fun _ => 0))), .inl (0, 128, .inl (fun _ => 0)), .inl (0, 128, .inl (fun _ => 0)), .inl (0, 128, .inl (fun _ => 0)), .inl (0, 128, .inl (fun _ => 0)), .inl (0, 40, .inl (fun _ => 0))] := by
  refine zM.at (ls := [some (.ref 0)]) zy_X5_init.2.2.2.2.2 (Nat.le_of_ble_eq_true rfl) rfl ?_
  refine z_aload_0 dX5_init_0 ?_
  refine z_objI dX5_init_1 zoi_X5 (by decide) (Nat.le_of_ble_eq_true rfl) ?_
  refine z_aload_0 dX5_init_4 ?_
  refine z_iconst (v := 0) dX5_init_5 rfl ?_
  refine z_put (k := 0) (ty := tyX5) dX5_init_6 rfl rfl (by decide) zf_X5_11 zw_in5 tyX5_ok nmX5 rfl (fun _ => ⟨rfl, rfl⟩) (Nat.le_of_ble_eq_true rfl) ?_
  refine Z.heap (h2 := [.inr (5, [.int 0, .int 0, .int 0, .int 0, .null, .null, .null, .null, .null, .null, .null, .null])]) rfl ?_
  refine z_aload_0 dX5_init_9 ?_
  refine z_iconst (v := 0) dX5_init_10 rfl ?_
  refine z_put (k := 1) (ty := tyX5) dX5_init_11 rfl rfl (by decide) zf_X5_15 zw_in5 tyX5_ok nmX5 rfl (fun _ => ⟨rfl, rfl⟩) (Nat.le_of_ble_eq_true rfl) ?_
  refine Z.heap (h2 := [.inr (5, [.int 0, .int 0, .int 0, .int 0, .null, .null, .null, .null, .null, .null, .null, .null])]) rfl ?_
  refine z_aload_0 dX5_init_14 ?_
  refine z_iconst (v := 0) dX5_init_15 rfl ?_
  refine z_put (k := 2) (ty := tyX5) dX5_init_16 rfl rfl (by decide) zf_X5_18 zw_in5 tyX5_ok nmX5 rfl (fun _ => ⟨rfl, rfl⟩) (Nat.le_of_ble_eq_true rfl) ?_
  refine Z.heap (h2 := [.inr (5, [.int 0, .int 0, .int 0, .int 0, .null, .null, .null, .null, .null, .null, .null, .null])]) rfl ?_
  refine z_aload_0 dX5_init_19 ?_
  refine z_iconst (v := 0) dX5_init_20 rfl ?_
  refine z_put (k := 3) (ty := tyX5) dX5_init_21 rfl rfl (by decide) zf_X5_21 zw_in5 tyX5_ok nmX5 rfl (fun _ => ⟨rfl, rfl⟩) (Nat.le_of_ble_eq_true rfl) ?_
  refine Z.heap (h2 := [.inr (5, [.int 0, .int 0, .int 0, .int 0, .null, .null, .null, .null, .null, .null, .null, .null])]) rfl ?_
  refine z_aload_0 dX5_init_24 ?_
  refine z_sipush (v := 128) dX5_init_25 rfl ?_
  refine z_newa (t := 0) (x := (128, .inl (fun _ => 0))) (N := 128) dX5_init_28 zar_int rfl (fun _ z => by cases z) (fun _ => rfl) (fun _ => rfl) (fun _ => rfl) (by decide) (by decide) (by decide) (zbh_of rfl) (fun _ => trivial) (zbl_of rfl) (zbs_of rfl) (Nat.le_of_ble_eq_true rfl) (Nat.le_of_ble_eq_true rfl) ?_
  refine Z.heap (h2 := [.inr (5, [.int 0, .int 0, .int 0, .int 0, .null, .null, .null, .null, .null, .null, .null, .null]), .inl (0, 128, .inl (fun _ => 0))]) rfl ?_
  show Z sc _ _ _ _ _ _ _ _ _ (.ref 1 :: .ref 0 :: []) _ _ _
  refine z_putF (k := 4) (ty := tyX5) dX5_init_30 rfl rfl (by decide) zf_X5_24 zw_in5 tyX5_ok nmX5 rfl rfl rfl (fun _ => ⟨rfl, rfl⟩) (Nat.le_of_ble_eq_true rfl) ?_
  refine Z.heap (h2 := [.inr (5, [.int 0, .int 0, .int 0, .int 0, .ref 1, .null, .null, .null, .null, .null, .null, .null]), .inl (0, 128, .inl (fun _ => 0))]) rfl ?_
  refine z_aload_0 dX5_init_33 ?_
  refine z_sipush (v := 128) dX5_init_34 rfl ?_
  refine z_newa (t := 0) (x := (128, .inl (fun _ => 0))) (N := 128) dX5_init_37 zar_int rfl (fun _ z => by cases z) (fun _ => rfl) (fun _ => rfl) (fun _ => rfl) (by decide) (by decide) (by decide) (zbh_of rfl) (fun _ => trivial) (zbl_of rfl) (zbs_of rfl) (Nat.le_of_ble_eq_true rfl) (Nat.le_of_ble_eq_true rfl) ?_
  refine Z.heap (h2 := [.inr (5, [.int 0, .int 0, .int 0, .int 0, .ref 1, .null, .null, .null, .null, .null, .null, .null]), .inl (0, 128, .inl (fun _ => 0)), .inl (0, 128, .inl (fun _ => 0))]) rfl ?_
  show Z sc _ _ _ _ _ _ _ _ _ (.ref 2 :: .ref 0 :: []) _ _ _
  refine z_putF (k := 5) (ty := tyX5) dX5_init_39 rfl rfl (by decide) zf_X5_28 zw_in5 tyX5_ok nmX5 rfl rfl rfl (fun _ => ⟨rfl, rfl⟩) (Nat.le_of_ble_eq_true rfl) ?_
  refine Z.heap (h2 := [.inr (5, [.int 0, .int 0, .int 0, .int 0, .ref 1, .ref 2, .null, .null, .null, .null, .null, .null]), .inl (0, 128, .inl (fun _ => 0)), .inl (0, 128, .inl (fun _ => 0))]) rfl ?_
  refine z_aload_0 dX5_init_42 ?_
  refine z_sipush (v := 128) dX5_init_43 rfl ?_
  refine z_newa (t := 1) (x := (128, .inr (.inl (fun _ => 0)))) (N := 128) dX5_init_46 zar_long rfl (fun _ z => by cases z) (fun _ => rfl) (fun _ => rfl) (fun _ => rfl) (by decide) (by decide) (by decide) (zbh_of rfl) (fun _ => trivial) (zbl_of rfl) (zbs_of rfl) (Nat.le_of_ble_eq_true rfl) (Nat.le_of_ble_eq_true rfl) ?_
  refine Z.heap (h2 := [.inr (5, [.int 0, .int 0, .int 0, .int 0, .ref 1, .ref 2, .null, .null, .null, .null, .null, .null]), .inl (0, 128, .inl (fun _ => 0)), .inl (0, 128, .inl (fun _ => 0)), .inl (1, 128, .inr (.inl (fun _ => 0)))]) rfl ?_
  show Z sc _ _ _ _ _ _ _ _ _ (.ref 3 :: .ref 0 :: []) _ _ _
  refine z_putF (k := 6) (ty := tyX5) dX5_init_48 rfl rfl (by decide) zf_X5_31 zw_in5 tyX5_ok nmX5 rfl rfl rfl (fun _ => ⟨rfl, rfl⟩) (Nat.le_of_ble_eq_true rfl) ?_
  refine Z.heap (h2 := [.inr (5, [.int 0, .int 0, .int 0, .int 0, .ref 1, .ref 2, .ref 3, .null, .null, .null, .null, .null]), .inl (0, 128, .inl (fun _ => 0)), .inl (0, 128, .inl (fun _ => 0)), .inl (1, 128, .inr (.inl (fun _ => 0)))]) rfl ?_
  refine z_aload_0 dX5_init_51 ?_
  refine z_sipush (v := 128) dX5_init_52 rfl ?_
  refine z_newa (t := 0) (x := (128, .inl (fun _ => 0))) (N := 128) dX5_init_55 zar_int rfl (fun _ z => by cases z) (fun _ => rfl) (fun _ => rfl) (fun _ => rfl) (by decide) (by decide) (by decide) (zbh_of rfl) (fun _ => trivial) (zbl_of rfl) (zbs_of rfl) (Nat.le_of_ble_eq_true rfl) (Nat.le_of_ble_eq_true rfl) ?_
  refine Z.heap (h2 := [.inr (5, [.int 0, .int 0, .int 0, .int 0, .ref 1, .ref 2, .ref 3, .null, .null, .null, .null, .null]), .inl (0, 128, .inl (fun _ => 0)), .inl (0, 128, .inl (fun _ => 0)), .inl (1, 128, .inr (.inl (fun _ => 0))), .inl (0, 128, .inl (fun _ => 0))]) rfl ?_
  show Z sc _ _ _ _ _ _ _ _ _ (.ref 4 :: .ref 0 :: []) _ _ _
  refine z_putF (k := 7) (ty := tyX5) dX5_init_57 rfl rfl (by decide) zf_X5_35 zw_in5 tyX5_ok nmX5 rfl rfl rfl (fun _ => ⟨rfl, rfl⟩) (Nat.le_of_ble_eq_true rfl) ?_
  refine Z.heap (h2 := [.inr (5, [.int 0, .int 0, .int 0, .int 0, .ref 1, .ref 2, .ref 3, .ref 4, .null, .null, .null, .null]), .inl (0, 128, .inl (fun _ => 0)), .inl (0, 128, .inl (fun _ => 0)), .inl (1, 128, .inr (.inl (fun _ => 0))), .inl (0, 128, .inl (fun _ => 0))]) rfl ?_
  refine z_aload_0 dX5_init_60 ?_
  refine z_sipush (v := 128) dX5_init_61 rfl ?_
  refine z_newa (t := 0) (x := (128, .inl (fun _ => 0))) (N := 128) dX5_init_64 zar_int rfl (fun _ z => by cases z) (fun _ => rfl) (fun _ => rfl) (fun _ => rfl) (by decide) (by decide) (by decide) (zbh_of rfl) (fun _ => trivial) (zbl_of rfl) (zbs_of rfl) (Nat.le_of_ble_eq_true rfl) (Nat.le_of_ble_eq_true rfl) ?_
  refine Z.heap (h2 := [.inr (5, [.int 0, .int 0, .int 0, .int 0, .ref 1, .ref 2, .ref 3, .ref 4, .null, .null, .null, .null]), .inl (0, 128, .inl (fun _ => 0)), .inl (0, 128, .inl (fun _ => 0)), .inl (1, 128, .inr (.inl (fun _ => 0))), .inl (0, 128, .inl (fun _ => 0)), .inl (0, 128, .inl (fun _ => 0))]) rfl ?_
  show Z sc _ _ _ _ _ _ _ _ _ (.ref 5 :: .ref 0 :: []) _ _ _
  refine z_putF (k := 8) (ty := tyX5) dX5_init_66 rfl rfl (by decide) zf_X5_38 zw_in5 tyX5_ok nmX5 rfl rfl rfl (fun _ => ⟨rfl, rfl⟩) (Nat.le_of_ble_eq_true rfl) ?_
  refine Z.heap (h2 := [.inr (5, [.int 0, .int 0, .int 0, .int 0, .ref 1, .ref 2, .ref 3, .ref 4, .ref 5, .null, .null, .null]), .inl (0, 128, .inl (fun _ => 0)), .inl (0, 128, .inl (fun _ => 0)), .inl (1, 128, .inr (.inl (fun _ => 0))), .inl (0, 128, .inl (fun _ => 0)), .inl (0, 128, .inl (fun _ => 0))]) rfl ?_
  refine z_aload_0 dX5_init_69 ?_
  refine z_sipush (v := 128) dX5_init_70 rfl ?_
  refine z_newa (t := 0) (x := (128, .inl (fun _ => 0))) (N := 128) dX5_init_73 zar_int rfl (fun _ z => by cases z) (fun _ => rfl) (fun _ => rfl) (fun _ => rfl) (by decide) (by decide) (by decide) (zbh_of rfl) (fun _ => trivial) (zbl_of rfl) (zbs_of rfl) (Nat.le_of_ble_eq_true rfl) (Nat.le_of_ble_eq_true rfl) ?_
  refine Z.heap (h2 := [.inr (5, [.int 0, .int 0, .int 0, .int 0, .ref 1, .ref 2, .ref 3, .ref 4, .ref 5, .null, .null, .null]), .inl (0, 128, .inl (fun _ => 0)), .inl (0, 128, .inl (fun _ => 0)), .inl (1, 128, .inr (.inl (fun _ => 0))), .inl (0, 128, .inl (fun _ => 0)), .inl (0, 128, .inl (fun _ => 0)), .inl (0, 128, .inl (fun _ => 0))]) rfl ?_
  show Z sc _ _ _ _ _ _ _ _ _ (.ref 6 :: .ref 0 :: []) _ _ _
  refine z_putF (k := 9) (ty := tyX5) dX5_init_75 rfl rfl (by decide) zf_X5_41 zw_in5 tyX5_ok nmX5 rfl rfl rfl (fun _ => ⟨rfl, rfl⟩) (Nat.le_of_ble_eq_true rfl) ?_
  refine Z.heap (h2 := [.inr (5, [.int 0, .int 0, .int 0, .int 0, .ref 1, .ref 2, .ref 3, .ref 4, .ref 5, .ref 6, .null, .null]), .inl (0, 128, .inl (fun _ => 0)), .inl (0, 128, .inl (fun _ => 0)), .inl (1, 128, .inr (.inl (fun _ => 0))), .inl (0, 128, .inl (fun _ => 0)), .inl (0, 128, .inl (fun _ => 0)), .inl (0, 128, .inl (fun _ => 0))]) rfl ?_
  refine z_aload_0 dX5_init_78 ?_
  refine z_sipush (v := 128) dX5_init_79 rfl ?_
  refine z_newa (t := 0) (x := (128, .inl (fun _ => 0))) (N := 128) dX5_init_82 zar_int rfl (fun _ z => by cases z) (fun _ => rfl) (fun _ => rfl) (fun _ => rfl) (by decide) (by decide) (by decide) (zbh_of rfl) (fun _ => trivial) (zbl_of rfl) (zbs_of rfl) (Nat.le_of_ble_eq_true rfl) (Nat.le_of_ble_eq_true rfl) ?_
  refine Z.heap (h2 := [.inr (5, [.int 0, .int 0, .int 0, .int 0, .ref 1, .ref 2, .ref 3, .ref 4, .ref 5, .ref 6, .null, .null]), .inl (0, 128, .inl (fun _ => 0)), .inl (0, 128, .inl (fun _ => 0)), .inl (1, 128, .inr (.inl (fun _ => 0))), .inl (0, 128, .inl (fun _ => 0)), .inl (0, 128, .inl (fun _ => 0)), .inl (0, 128, .inl (fun _ => 0)), .inl (0, 128, .inl (fun _ => 0))]) rfl ?_
  show Z sc _ _ _ _ _ _ _ _ _ (.ref 7 :: .ref 0 :: []) _ _ _
  refine z_putF (k := 10) (ty := tyX5) dX5_init_84 rfl rfl (by decide) zf_X5_44 zw_in5 tyX5_ok nmX5 rfl rfl rfl (fun _ => ⟨rfl, rfl⟩) (Nat.le_of_ble_eq_true rfl) ?_
  refine Z.heap (h2 := [.inr (5, [.int 0, .int 0, .int 0, .int 0, .ref 1, .ref 2, .ref 3, .ref 4, .ref 5, .ref 6, .ref 7, .null]), .inl (0, 128, .inl (fun _ => 0)), .inl (0, 128, .inl (fun _ => 0)), .inl (1, 128, .inr (.inl (fun _ => 0))), .inl (0, 128, .inl (fun _ => 0)), .inl (0, 128, .inl (fun _ => 0)), .inl (0, 128, .inl (fun _ => 0)), .inl (0, 128, .inl (fun _ => 0))]) rfl ?_
  refine z_aload_0 dX5_init_87 ?_
  refine z_bipush (v := 40) dX5_init_88 rfl ?_
  refine z_newa (t := 0) (x := (40, .inl (fun _ => 0))) (N := 40) dX5_init_90 zar_int rfl (fun _ z => by cases z) (fun _ => rfl) (fun _ => rfl) (fun _ => rfl) (by decide) (by decide) (by decide) (zbh_of rfl) (fun _ => trivial) (zbl_of rfl) (zbs_of rfl) (Nat.le_of_ble_eq_true rfl) (Nat.le_of_ble_eq_true rfl) ?_
  refine Z.heap (h2 := [.inr (5, [.int 0, .int 0, .int 0, .int 0, .ref 1, .ref 2, .ref 3, .ref 4, .ref 5, .ref 6, .ref 7, .null]), .inl (0, 128, .inl (fun _ => 0)), .inl (0, 128, .inl (fun _ => 0)), .inl (1, 128, .inr (.inl (fun _ => 0))), .inl (0, 128, .inl (fun _ => 0)), .inl (0, 128, .inl (fun _ => 0)), .inl (0, 128, .inl (fun _ => 0)), .inl (0, 128, .inl (fun _ => 0)), .inl (0, 40, .inl (fun _ => 0))]) rfl ?_
  show Z sc _ _ _ _ _ _ _ _ _ (.ref 8 :: .ref 0 :: []) _ _ _
  refine z_putF (k := 11) (ty := tyX5) dX5_init_92 rfl rfl (by decide) zf_X5_47 zw_in5 tyX5_ok nmX5 rfl rfl rfl (fun _ => ⟨rfl, rfl⟩) (Nat.le_of_ble_eq_true rfl) ?_
  refine Z.heap (h2 := [.inr (5, [.int 0, .int 0, .int 0, .int 0, .ref 1, .ref 2, .ref 3, .ref 4, .ref 5, .ref 6, .ref 7, .ref 8]), .inl (0, 128, .inl (fun _ => 0)), .inl (0, 128, .inl (fun _ => 0)), .inl (1, 128, .inr (.inl (fun _ => 0))), .inl (0, 128, .inl (fun _ => 0)), .inl (0, 128, .inl (fun _ => 0)), .inl (0, 128, .inl (fun _ => 0)), .inl (0, 128, .inl (fun _ => 0)), .inl (0, 40, .inl (fun _ => 0))]) rfl ?_
  exact z_vret dX5_init_95 rfl rfl rfl
theorem k_init_X3 : zM sc yX3_init cX3_init 1 none 1 1 600 [.ref 0] [.inr (3, [.null, .int 0])] (.inl none) [.inr (3, [.ref 1, .int 0]), .inl (3, 600, .inl (fun _ => 0))] := by
  refine zM.at (ls := [some (.ref 0)]) zy_X3_init.2.2.2.2.2 (Nat.le_of_ble_eq_true rfl) rfl ?_
  refine z_aload_0 dX3_init_0 ?_
  refine z_objI dX3_init_1 zoi_X3 (by decide) (Nat.le_of_ble_eq_true rfl) ?_
  refine z_aload_0 dX3_init_4 ?_
  refine z_sipush (v := 600) dX3_init_5 rfl ?_
  refine z_newa (t := 3) (x := (600, .inl (fun _ => 0))) (N := 600) dX3_init_8 zar_byte rfl (fun _ z => by cases z) (fun _ => rfl) (fun _ => rfl) (fun _ => rfl) (by decide) (by decide) (by decide) (zbh_of rfl) (fun _ => trivial) (zbl_of rfl) (zbs_of rfl) (Nat.le_of_ble_eq_true rfl) (Nat.le_of_ble_eq_true rfl) ?_
  refine Z.heap (h2 := [.inr (3, [.null, .int 0]), .inl (3, 600, .inl (fun _ => 0))]) rfl ?_
  show Z sc _ _ _ _ _ _ _ _ _ (.ref 1 :: .ref 0 :: []) _ _ _
  refine z_putF (k := 0) (ty := tyX3) dX3_init_10 rfl rfl (by decide) zf_X3_9 zw_in3 tyX3_ok nmX3 rfl rfl rfl (fun _ => ⟨rfl, rfl⟩) (Nat.le_of_ble_eq_true rfl) ?_
  refine Z.heap (h2 := [.inr (3, [.ref 1, .int 0]), .inl (3, 600, .inl (fun _ => 0))]) rfl ?_
  refine z_aload_0 dX3_init_13 ?_
  refine z_iconst (v := 0) dX3_init_14 rfl ?_
  refine z_put (k := 1) (ty := tyX3) dX3_init_15 rfl rfl (by decide) zf_X3_15 zw_in3 tyX3_ok nmX3 rfl (fun _ => ⟨rfl, rfl⟩) (Nat.le_of_ble_eq_true rfl) ?_
  refine Z.heap (h2 := [.inr (3, [.ref 1, .int 0]), .inl (3, 600, .inl (fun _ => 0))]) rfl ?_
  exact z_vret dX3_init_18 rfl rfl rfl
theorem k_init_X1 : zM sc yX1_init cX1_init 1 none 1 1 360 [.ref 0] [.inr (1, [.null, .int 0])] (.inl none) [.inr (1, [.ref 1, .int 0]), .inl (3, 360, .inl (fun _ => 0))] := by
  refine zM.at (ls := [some (.ref 0)]) zy_X1_init.2.2.2.2.2 (Nat.le_of_ble_eq_true rfl) rfl ?_
  refine z_aload_0 dX1_init_0 ?_
  refine z_objI dX1_init_1 zoi_X1 (by decide) (Nat.le_of_ble_eq_true rfl) ?_
  refine z_aload_0 dX1_init_4 ?_
  refine z_sipush (v := 360) dX1_init_5 rfl ?_
  refine z_newa (t := 3) (x := (360, .inl (fun _ => 0))) (N := 360) dX1_init_8 zar_byte rfl (fun _ z => by cases z) (fun _ => rfl) (fun _ => rfl) (fun _ => rfl) (by decide) (by decide) (by decide) (zbh_of rfl) (fun _ => trivial) (zbl_of rfl) (zbs_of rfl) (Nat.le_of_ble_eq_true rfl) (Nat.le_of_ble_eq_true rfl) ?_
  refine Z.heap (h2 := [.inr (1, [.null, .int 0]), .inl (3, 360, .inl (fun _ => 0))]) rfl ?_
  show Z sc _ _ _ _ _ _ _ _ _ (.ref 1 :: .ref 0 :: []) _ _ _
  refine z_putF (k := 0) (ty := tyX1) dX1_init_10 rfl rfl (by decide) zf_X1_11 zw_in1 tyX1_ok nmX1 rfl rfl rfl (fun _ => ⟨rfl, rfl⟩) (Nat.le_of_ble_eq_true rfl) ?_
  refine Z.heap (h2 := [.inr (1, [.ref 1, .int 0]), .inl (3, 360, .inl (fun _ => 0))]) rfl ?_
  refine z_aload_0 dX1_init_13 ?_
  refine z_iconst (v := 0) dX1_init_14 rfl ?_
  refine z_put (k := 1) (ty := tyX1) dX1_init_15 rfl rfl (by decide) zf_X1_15 zw_in1 tyX1_ok nmX1 rfl (fun _ => ⟨rfl, rfl⟩) (Nat.le_of_ble_eq_true rfl) ?_
  refine Z.heap (h2 := [.inr (1, [.ref 1, .int 0]), .inl (3, 360, .inl (fun _ => 0))]) rfl ?_
  exact z_vret dX1_init_18 rfl rfl rfl
theorem k_init_X4 : zM sc yX4_init cX4_init 1 none 1 3 1803 [.ref 0] [.inr (4, [.null, .null, .null, .int 0])] (.inl none) [.inr (4, [.ref 1, .ref 2, .ref 3, .int 0]), .inl (0, 601, .inl (fun _ => 0)), .inl (0, 601, .inl (fun _ => 0)), .inl (0, 601, .inl (fun _ => 0))] := by
  refine zM.at (ls := [some (.ref 0)]) zy_X4_init.2.2.2.2.2 (Nat.le_of_ble_eq_true rfl) rfl ?_
  refine z_aload_0 dX4_init_0 ?_
  refine z_objI dX4_init_1 zoi_X4 (by decide) (Nat.le_of_ble_eq_true rfl) ?_
  refine z_aload_0 dX4_init_4 ?_
  refine z_sipush (v := 601) dX4_init_5 rfl ?_
  refine z_newa (t := 0) (x := (601, .inl (fun _ => 0))) (N := 601) dX4_init_8 zar_int rfl (fun _ z => by cases z) (fun _ => rfl) (fun _ => rfl) (fun _ => rfl) (by decide) (by decide) (by decide) (zbh_of rfl) (fun _ => trivial) (zbl_of rfl) (zbs_of rfl) (Nat.le_of_ble_eq_true rfl) (Nat.le_of_ble_eq_true rfl) ?_
  refine Z.heap (h2 := [.inr (4, [.null, .null, .null, .int 0]), .inl (0, 601, .inl (fun _ => 0))]) rfl ?_
  show Z sc _ _ _ _ _ _ _ _ _ (.ref 1 :: .ref 0 :: []) _ _ _
  refine z_putF (k := 0) (ty := tyX4) dX4_init_10 rfl rfl (by decide) zf_X4_11 zw_in4 tyX4_ok nmX4 rfl rfl rfl (fun _ => ⟨rfl, rfl⟩) (Nat.le_of_ble_eq_true rfl) ?_
  refine Z.heap (h2 := [.inr (4, [.ref 1, .null, .null, .int 0]), .inl (0, 601, .inl (fun _ => 0))]) rfl ?_
  refine z_aload_0 dX4_init_13 ?_
  refine z_sipush (v := 601) dX4_init_14 rfl ?_
  refine z_newa (t := 0) (x := (601, .inl (fun _ => 0))) (N := 601) dX4_init_17 zar_int rfl (fun _ z => by cases z) (fun _ => rfl) (fun _ => rfl) (fun _ => rfl) (by decide) (by decide) (by decide) (zbh_of rfl) (fun _ => trivial) (zbl_of rfl) (zbs_of rfl) (Nat.le_of_ble_eq_true rfl) (Nat.le_of_ble_eq_true rfl) ?_
  refine Z.heap (h2 := [.inr (4, [.ref 1, .null, .null, .int 0]), .inl (0, 601, .inl (fun _ => 0)), .inl (0, 601, .inl (fun _ => 0))]) rfl ?_
  show Z sc _ _ _ _ _ _ _ _ _ (.ref 2 :: .ref 0 :: []) _ _ _
  refine z_putF (k := 1) (ty := tyX4) dX4_init_19 rfl rfl (by decide) zf_X4_15 zw_in4 tyX4_ok nmX4 rfl rfl rfl (fun _ => ⟨rfl, rfl⟩) (Nat.le_of_ble_eq_true rfl) ?_
  refine Z.heap (h2 := [.inr (4, [.ref 1, .ref 2, .null, .int 0]), .inl (0, 601, .inl (fun _ => 0)), .inl (0, 601, .inl (fun _ => 0))]) rfl ?_
  refine z_aload_0 dX4_init_22 ?_
  refine z_sipush (v := 601) dX4_init_23 rfl ?_
  refine z_newa (t := 0) (x := (601, .inl (fun _ => 0))) (N := 601) dX4_init_26 zar_int rfl (fun _ z => by cases z) (fun _ => rfl) (fun _ => rfl) (fun _ => rfl) (by decide) (by decide) (by decide) (zbh_of rfl) (fun _ => trivial) (zbl_of rfl) (zbs_of rfl) (Nat.le_of_ble_eq_true rfl) (Nat.le_of_ble_eq_true rfl) ?_
  refine Z.heap (h2 := [.inr (4, [.ref 1, .ref 2, .null, .int 0]), .inl (0, 601, .inl (fun _ => 0)), .inl (0, 601, .inl (fun _ => 0)), .inl (0, 601, .inl (fun _ => 0))]) rfl ?_
  show Z sc _ _ _ _ _ _ _ _ _ (.ref 3 :: .ref 0 :: []) _ _ _
  refine z_putF (k := 2) (ty := tyX4) dX4_init_28 rfl rfl (by decide) zf_X4_18 zw_in4 tyX4_ok nmX4 rfl rfl rfl (fun _ => ⟨rfl, rfl⟩) (Nat.le_of_ble_eq_true rfl) ?_
  refine Z.heap (h2 := [.inr (4, [.ref 1, .ref 2, .ref 3, .int 0]), .inl (0, 601, .inl (fun _ => 0)), .inl (0, 601, .inl (fun _ => 0)), .inl (0, 601, .inl (fun _ => 0))]) rfl ?_
  refine z_aload_0 dX4_init_31 ?_
  refine z_iconst (v := 0) dX4_init_32 rfl ?_
  refine z_put (k := 3) (ty := tyX4) dX4_init_33 rfl rfl (by decide) zf_X4_21 zw_in4 tyX4_ok nmX4 rfl (fun _ => ⟨rfl, rfl⟩) (Nat.le_of_ble_eq_true rfl) ?_
  refine Z.heap (h2 := [.inr (4, [.ref 1, .ref 2, .ref 3, .int 0]), .inl (0, 601, .inl (fun _ => 0)), .inl (0, 601, .inl (fun _ => 0)), .inl (0, 601, .inl (fun _ => 0))]) rfl ?_
  exact z_vret dX4_init_36 rfl rfl rfl
theorem k_init_X2 : zM sc yX2_init cX2_init 1 none 2 17 2804 [.ref 0] [.inr (2, [.null, .null, .null, .int 0, .int 0, .int 0, .int 0, .int 0, .null, .null, .null])] (.inl none) [.inr (2, [.ref 1, .ref 10, .ref 14, .int 0, .int 0, .int 0, .int 0, .int 0, .ref 15, .ref 16, .ref 17]), .inr (5, [.int 0, .int 0, .int 0, .int 0, .ref 2, .ref 3, .ref 4, .ref 5, .ref 6, .ref 7, .ref 8, .ref 9]), .inl (0, 128, .inl (fun _ => 0)), .inl (0, 128, .inl (fun _ => 0)), .inl (1, 128, .inr (.inl (fun _ => 0))), .inl (0, 128, .inl (fun _ => 0)), .inl (0, 128, .inl (fun _ => 0)), .inl (0, 128, .inl (fun _ => 0)), .inl (0, 128, .inl (fun _ => 0)), .inl (0, 40, .inl (fun _ => 0)), .inr (4, [.ref 11, .ref 12, .ref 13, .int 0]), .inl (0, 601, .inl (fun _ => 0)), .inl (0, 601, .inl (fun _ => 0)), .inl (0, 601, .inl (fun _ => 0)), .inl (0, 40, .inl (fun _ => 0)), .inl (0, 3, .inl (fun _ => 0)), .inl (0, 3, .inl (fun _ => 0)), .inl (0, 3, .inl (fun _ => 0))] := by
  refine zM.at (ls := [some (.ref 0)]) zy_X2_init.2.2.2.2.2 (Nat.le_of_ble_eq_true rfl) rfl ?_
  refine z_aload_0 dX2_init_0 ?_
  refine z_objI dX2_init_1 zoi_X2 (by decide) (Nat.le_of_ble_eq_true rfl) ?_
  refine z_aload_0 dX2_init_4 ?_
  refine z_new (fs := [.int 0, .int 0, .int 0, .int 0, .null, .null, .null, .null, .null, .null, .null, .null]) (ty := tyX5) dX2_init_5 zcl_X2_9 zns_X5 zini_RX5 (ci := 5) rfl zw_in5 tyX5_ok (by decide) (by intro v hv a e; simp only [List.mem_cons, List.not_mem_nil, or_false] at hv; rcases hv with rfl | rfl | rfl | rfl | rfl | rfl | rfl | rfl | rfl | rfl | rfl | rfl <;> cases e) (zbh_of rfl) (zbl_of rfl) (zbs_of rfl) (Nat.le_of_ble_eq_true rfl) (Nat.le_of_ble_eq_true rfl) ?_
  refine Z.heap (h2 := [.inr (2, [.null, .null, .null, .int 0, .int 0, .int 0, .int 0, .int 0, .null, .null, .null]), .inr (5, [.int 0, .int 0, .int 0, .int 0, .null, .null, .null, .null, .null, .null, .null, .null])]) rfl ?_
  show Z sc _ _ _ _ _ _ _ _ _ (.ref 1 :: .ref 0 :: []) _ _ _
  refine z_dup dX2_init_8 rfl ?_
  refine Z.callG (A0 := [.inr (2, [.null, .null, .null, .int 0, .int 0, .int 0, .int 0, .int 0, .null, .null, .null])]) (x := .inr (5, [.int 0, .int 0, .int 0, .int 0, .null, .null, .null, .null, .null, .null, .null, .null])) (hc' := [.inr (5, [.int 0, .int 0, .int 0, .int 0, .ref 1, .ref 2, .ref 3, .ref 4, .ref 5, .ref 6, .ref 7, .ref 8]), .inl (0, 128, .inl (fun _ => 0)), .inl (0, 128, .inl (fun _ => 0)), .inl (1, 128, .inr (.inl (fun _ => 0))), .inl (0, 128, .inl (fun _ => 0)), .inl (0, 128, .inl (fun _ => 0)), .inl (0, 128, .inl (fun _ => 0)), .inl (0, 128, .inl (fun _ => 0)), .inl (0, 40, .inl (fun _ => 0))]) (zRun.IN (b := 0) (As := []) k_init_X5 dX2_init_9 zy_X5_init znl_X2_11 rfl rfl (Nat.le_of_ble_eq_true rfl) (by decide) (by decide) (zs1_fix _)) (Nat.le_of_ble_eq_true rfl) (Nat.le_of_ble_eq_true rfl) (zbh_of rfl) (zbh_of rfl) (zbl_of rfl) (zbs_of rfl) (Nat.le_of_ble_eq_true rfl) ?_
  refine Z.heap (h2 := [.inr (2, [.null, .null, .null, .int 0, .int 0, .int 0, .int 0, .int 0, .null, .null, .null]), .inr (5, [.int 0, .int 0, .int 0, .int 0, .ref 2, .ref 3, .ref 4, .ref 5, .ref 6, .ref 7, .ref 8, .ref 9]), .inl (0, 128, .inl (fun _ => 0)), .inl (0, 128, .inl (fun _ => 0)), .inl (1, 128, .inr (.inl (fun _ => 0))), .inl (0, 128, .inl (fun _ => 0)), .inl (0, 128, .inl (fun _ => 0)), .inl (0, 128, .inl (fun _ => 0)), .inl (0, 128, .inl (fun _ => 0)), .inl (0, 40, .inl (fun _ => 0))]) rfl ?_
  refine z_putF (k := 0) (ty := tyX2) dX2_init_12 rfl rfl (by decide) zf_X2_12 zw_in2 tyX2_ok nmX2 rfl rfl rfl (fun _ => ⟨rfl, rfl⟩) (Nat.le_of_ble_eq_true rfl) ?_
  refine Z.heap (h2 := [.inr (2, [.ref 1, .null, .null, .int 0, .int 0, .int 0, .int 0, .int 0, .null, .null, .null]), .inr (5, [.int 0, .int 0, .int 0, .int 0, .ref 2, .ref 3, .ref 4, .ref 5, .ref 6, .ref 7, .ref 8, .ref 9]), .inl (0, 128, .inl (fun _ => 0)), .inl (0, 128, .inl (fun _ => 0)), .inl (1, 128, .inr (.inl (fun _ => 0))), .inl (0, 128, .inl (fun _ => 0)), .inl (0, 128, .inl (fun _ => 0)), .inl (0, 128, .inl (fun _ => 0)), .inl (0, 128, .inl (fun _ => 0)), .inl (0, 40, .inl (fun _ => 0))]) rfl ?_
  refine z_aload_0 dX2_init_15 ?_
  refine z_new (fs := [.null, .null, .null, .int 0]) (ty := tyX4) dX2_init_16 zcl_X2_18 zns_X4 zini_RX4 (ci := 4) rfl zw_in4 tyX4_ok (by decide) (by intro v hv a e; simp only [List.mem_cons, List.not_mem_nil, or_false] at hv; rcases hv with rfl | rfl | rfl | rfl <;> cases e) (zbh_of rfl) (zbl_of rfl) (zbs_of rfl) (Nat.le_of_ble_eq_true rfl) (Nat.le_of_ble_eq_true rfl) ?_
  refine Z.heap (h2 := [.inr (2, [.ref 1, .null, .null, .int 0, .int 0, .int 0, .int 0, .int 0, .null, .null, .null]), .inr (5, [.int 0, .int 0, .int 0, .int 0, .ref 2, .ref 3, .ref 4, .ref 5, .ref 6, .ref 7, .ref 8, .ref 9]), .inl (0, 128, .inl (fun _ => 0)), .inl (0, 128, .inl (fun _ => 0)), .inl (1, 128, .inr (.inl (fun _ => 0))), .inl (0, 128, .inl (fun _ => 0)), .inl (0, 128, .inl (fun _ => 0)), .inl (0, 128, .inl (fun _ => 0)), .inl (0, 128, .inl (fun _ => 0)), .inl (0, 40, .inl (fun _ => 0)), .inr (4, [.null, .null, .null, .int 0])]) rfl ?_
  show Z sc _ _ _ _ _ _ _ _ _ (.ref 10 :: .ref 0 :: []) _ _ _
  refine z_dup dX2_init_19 rfl ?_
  refine Z.callG (A0 := [.inr (2, [.ref 1, .null, .null, .int 0, .int 0, .int 0, .int 0, .int 0, .null, .null, .null]), .inr (5, [.int 0, .int 0, .int 0, .int 0, .ref 2, .ref 3, .ref 4, .ref 5, .ref 6, .ref 7, .ref 8, .ref 9]), .inl (0, 128, .inl (fun _ => 0)), .inl (0, 128, .inl (fun _ => 0)), .inl (1, 128, .inr (.inl (fun _ => 0))), .inl (0, 128, .inl (fun _ => 0)), .inl (0, 128, .inl (fun _ => 0)), .inl (0, 128, .inl (fun _ => 0)), .inl (0, 128, .inl (fun _ => 0)), .inl (0, 40, .inl (fun _ => 0))]) (x := .inr (4, [.null, .null, .null, .int 0])) (hc' := [.inr (4, [.ref 1, .ref 2, .ref 3, .int 0]), .inl (0, 601, .inl (fun _ => 0)), .inl (0, 601, .inl (fun _ => 0)), .inl (0, 601, .inl (fun _ => 0))]) (zRun.IN (b := 0) (As := []) k_init_X4 dX2_init_20 zy_X4_init znl_X2_20 rfl rfl (Nat.le_of_ble_eq_true rfl) (by decide) (by decide) (zs1_fix _)) (Nat.le_of_ble_eq_true rfl) (Nat.le_of_ble_eq_true rfl) (zbh_of rfl) (zbh_of rfl) (zbl_of rfl) (zbs_of rfl) (Nat.le_of_ble_eq_true rfl) ?_
  refine Z.heap (h2 := [.inr (2, [.ref 1, .null, .null, .int 0, .int 0, .int 0, .int 0, .int 0, .null, .null, .null]), .inr (5, [.int 0, .int 0, .int 0, .int 0, .ref 2, .ref 3, .ref 4, .ref 5, .ref 6, .ref 7, .ref 8, .ref 9]), .inl (0, 128, .inl (fun _ => 0)), .inl (0, 128, .inl (fun _ => 0)), .inl (1, 128, .inr (.inl (fun _ => 0))), .inl (0, 128, .inl (fun _ => 0)), .inl (0, 128, .inl (fun _ => 0)), .inl (0, 128, .inl (fun _ => 0)), .inl (0, 128, .inl (fun _ => 0)), .inl (0, 40, .inl (fun _ => 0)), .inr (4, [.ref 11, .ref 12, .ref 13, .int 0]), .inl (0, 601, .inl (fun _ => 0)), .inl (0, 601, .inl (fun _ => 0)), .inl (0, 601, .inl (fun _ => 0))]) rfl ?_
  refine z_putF (k := 1) (ty := tyX2) dX2_init_23 rfl rfl (by decide) zf_X2_21 zw_in2 tyX2_ok nmX2 rfl rfl rfl (fun _ => ⟨rfl, rfl⟩) (Nat.le_of_ble_eq_true rfl) ?_
  refine Z.heap (h2 := [.inr (2, [.ref 1, .ref 10, .null, .int 0, .int 0, .int 0, .int 0, .int 0, .null, .null, .null]), .inr (5, [.int 0, .int 0, .int 0, .int 0, .ref 2, .ref 3, .ref 4, .ref 5, .ref 6, .ref 7, .ref 8, .ref 9]), .inl (0, 128, .inl (fun _ => 0)), .inl (0, 128, .inl (fun _ => 0)), .inl (1, 128, .inr (.inl (fun _ => 0))), .inl (0, 128, .inl (fun _ => 0)), .inl (0, 128, .inl (fun _ => 0)), .inl (0, 128, .inl (fun _ => 0)), .inl (0, 128, .inl (fun _ => 0)), .inl (0, 40, .inl (fun _ => 0)), .inr (4, [.ref 11, .ref 12, .ref 13, .int 0]), .inl (0, 601, .inl (fun _ => 0)), .inl (0, 601, .inl (fun _ => 0)), .inl (0, 601, .inl (fun _ => 0))]) rfl ?_
  refine z_aload_0 dX2_init_26 ?_
  refine z_bipush (v := 40) dX2_init_27 rfl ?_
  refine z_newa (t := 0) (x := (40, .inl (fun _ => 0))) (N := 40) dX2_init_29 zar_int rfl (fun _ z => by cases z) (fun _ => rfl) (fun _ => rfl) (fun _ => rfl) (by decide) (by decide) (by decide) (zbh_of rfl) (fun _ => trivial) (zbl_of rfl) (zbs_of rfl) (Nat.le_of_ble_eq_true rfl) (Nat.le_of_ble_eq_true rfl) ?_
  refine Z.heap (h2 := [.inr (2, [.ref 1, .ref 10, .null, .int 0, .int 0, .int 0, .int 0, .int 0, .null, .null, .null]), .inr (5, [.int 0, .int 0, .int 0, .int 0, .ref 2, .ref 3, .ref 4, .ref 5, .ref 6, .ref 7, .ref 8, .ref 9]), .inl (0, 128, .inl (fun _ => 0)), .inl (0, 128, .inl (fun _ => 0)), .inl (1, 128, .inr (.inl (fun _ => 0))), .inl (0, 128, .inl (fun _ => 0)), .inl (0, 128, .inl (fun _ => 0)), .inl (0, 128, .inl (fun _ => 0)), .inl (0, 128, .inl (fun _ => 0)), .inl (0, 40, .inl (fun _ => 0)), .inr (4, [.ref 11, .ref 12, .ref 13, .int 0]), .inl (0, 601, .inl (fun _ => 0)), .inl (0, 601, .inl (fun _ => 0)), .inl (0, 601, .inl (fun _ => 0)), .inl (0, 40, .inl (fun _ => 0))]) rfl ?_
  show Z sc _ _ _ _ _ _ _ _ _ (.ref 14 :: .ref 0 :: []) _ _ _
  refine z_putF (k := 2) (ty := tyX2) dX2_init_31 rfl rfl (by decide) zf_X2_25 zw_in2 tyX2_ok nmX2 rfl rfl rfl (fun _ => ⟨rfl, rfl⟩) (Nat.le_of_ble_eq_true rfl) ?_
  refine Z.heap (h2 := [.inr (2, [.ref 1, .ref 10, .ref 14, .int 0, .int 0, .int 0, .int 0, .int 0, .null, .null, .null]), .inr (5, [.int 0, .int 0, .int 0, .int 0, .ref 2, .ref 3, .ref 4, .ref 5, .ref 6, .ref 7, .ref 8, .ref 9]), .inl (0, 128, .inl (fun _ => 0)), .inl (0, 128, .inl (fun _ => 0)), .inl (1, 128, .inr (.inl (fun _ => 0))), .inl (0, 128, .inl (fun _ => 0)), .inl (0, 128, .inl (fun _ => 0)), .inl (0, 128, .inl (fun _ => 0)), .inl (0, 128, .inl (fun _ => 0)), .inl (0, 40, .inl (fun _ => 0)), .inr (4, [.ref 11, .ref 12, .ref 13, .int 0]), .inl (0, 601, .inl (fun _ => 0)), .inl (0, 601, .inl (fun _ => 0)), .inl (0, 601, .inl (fun _ => 0)), .inl (0, 40, .inl (fun _ => 0))]) rfl ?_
  refine z_aload_0 dX2_init_34 ?_
  refine z_iconst (v := 0) dX2_init_35 rfl ?_
  refine z_put (k := 3) (ty := tyX2) dX2_init_36 rfl rfl (by decide) zf_X2_29 zw_in2 tyX2_ok nmX2 rfl (fun _ => ⟨rfl, rfl⟩) (Nat.le_of_ble_eq_true rfl) ?_
  refine Z.heap (h2 := [.inr (2, [.ref 1, .ref 10, .ref 14, .int 0, .int 0, .int 0, .int 0, .int 0, .null, .null, .null]), .inr (5, [.int 0, .int 0, .int 0, .int 0, .ref 2, .ref 3, .ref 4, .ref 5, .ref 6, .ref 7, .ref 8, .ref 9]), .inl (0, 128, .inl (fun _ => 0)), .inl (0, 128, .inl (fun _ => 0)), .inl (1, 128, .inr (.inl (fun _ => 0))), .inl (0, 128, .inl (fun _ => 0)), .inl (0, 128, .inl (fun _ => 0)), .inl (0, 128, .inl (fun _ => 0)), .inl (0, 128, .inl (fun _ => 0)), .inl (0, 40, .inl (fun _ => 0)), .inr (4, [.ref 11, .ref 12, .ref 13, .int 0]), .inl (0, 601, .inl (fun _ => 0)), .inl (0, 601, .inl (fun _ => 0)), .inl (0, 601, .inl (fun _ => 0)), .inl (0, 40, .inl (fun _ => 0))]) rfl ?_
  refine z_aload_0 dX2_init_39 ?_
  refine z_iconst (v := 0) dX2_init_40 rfl ?_
  refine z_put (k := 4) (ty := tyX2) dX2_init_41 rfl rfl (by decide) zf_X2_33 zw_in2 tyX2_ok nmX2 rfl (fun _ => ⟨rfl, rfl⟩) (Nat.le_of_ble_eq_true rfl) ?_
  refine Z.heap (h2 := [.inr (2, [.ref 1, .ref 10, .ref 14, .int 0, .int 0, .int 0, .int 0, .int 0, .null, .null, .null]), .inr (5, [.int 0, .int 0, .int 0, .int 0, .ref 2, .ref 3, .ref 4, .ref 5, .ref 6, .ref 7, .ref 8, .ref 9]), .inl (0, 128, .inl (fun _ => 0)), .inl (0, 128, .inl (fun _ => 0)), .inl (1, 128, .inr (.inl (fun _ => 0))), .inl (0, 128, .inl (fun _ => 0)), .inl (0, 128, .inl (fun _ => 0)), .inl (0, 128, .inl (fun _ => 0)), .inl (0, 128, .inl (fun _ => 0)), .inl (0, 40, .inl (fun _ => 0)), .inr (4, [.ref 11, .ref 12, .ref 13, .int 0]), .inl (0, 601, .inl (fun _ => 0)), .inl (0, 601, .inl (fun _ => 0)), .inl (0, 601, .inl (fun _ => 0)), .inl (0, 40, .inl (fun _ => 0))]) rfl ?_
  refine z_aload_0 dX2_init_44 ?_
  refine z_iconst (v := 0) dX2_init_45 rfl ?_
  refine z_put (k := 5) (ty := tyX2) dX2_init_46 rfl rfl (by decide) zf_X2_36 zw_in2 tyX2_ok nmX2 rfl (fun _ => ⟨rfl, rfl⟩) (Nat.le_of_ble_eq_true rfl) ?_
  refine Z.heap (h2 := [.inr (2, [.ref 1, .ref 10, .ref 14, .int 0, .int 0, .int 0, .int 0, .int 0, .null, .null, .null]), .inr (5, [.int 0, .int 0, .int 0, .int 0, .ref 2, .ref 3, .ref 4, .ref 5, .ref 6, .ref 7, .ref 8, .ref 9]), .inl (0, 128, .inl (fun _ => 0)), .inl (0, 128, .inl (fun _ => 0)), .inl (1, 128, .inr (.inl (fun _ => 0))), .inl (0, 128, .inl (fun _ => 0)), .inl (0, 128, .inl (fun _ => 0)), .inl (0, 128, .inl (fun _ => 0)), .inl (0, 128, .inl (fun _ => 0)), .inl (0, 40, .inl (fun _ => 0)), .inr (4, [.ref 11, .ref 12, .ref 13, .int 0]), .inl (0, 601, .inl (fun _ => 0)), .inl (0, 601, .inl (fun _ => 0)), .inl (0, 601, .inl (fun _ => 0)), .inl (0, 40, .inl (fun _ => 0))]) rfl ?_
  refine z_aload_0 dX2_init_49 ?_
  refine z_iconst (v := 0) dX2_init_50 rfl ?_
  refine z_put (k := 6) (ty := tyX2) dX2_init_51 rfl rfl (by decide) zf_X2_39 zw_in2 tyX2_ok nmX2 rfl (fun _ => ⟨rfl, rfl⟩) (Nat.le_of_ble_eq_true rfl) ?_
  refine Z.heap (h2 := [.inr (2, [.ref 1, .ref 10, .ref 14, .int 0, .int 0, .int 0, .int 0, .int 0, .null, .null, .null]), .inr (5, [.int 0, .int 0, .int 0, .int 0, .ref 2, .ref 3, .ref 4, .ref 5, .ref 6, .ref 7, .ref 8, .ref 9]), .inl (0, 128, .inl (fun _ => 0)), .inl (0, 128, .inl (fun _ => 0)), .inl (1, 128, .inr (.inl (fun _ => 0))), .inl (0, 128, .inl (fun _ => 0)), .inl (0, 128, .inl (fun _ => 0)), .inl (0, 128, .inl (fun _ => 0)), .inl (0, 128, .inl (fun _ => 0)), .inl (0, 40, .inl (fun _ => 0)), .inr (4, [.ref 11, .ref 12, .ref 13, .int 0]), .inl (0, 601, .inl (fun _ => 0)), .inl (0, 601, .inl (fun _ => 0)), .inl (0, 601, .inl (fun _ => 0)), .inl (0, 40, .inl (fun _ => 0))]) rfl ?_
  refine z_aload_0 dX2_init_54 ?_
  refine z_iconst (v := 0) dX2_init_55 rfl ?_
  refine z_put (k := 7) (ty := tyX2) dX2_init_56 rfl rfl (by decide) zf_X2_42 zw_in2 tyX2_ok nmX2 rfl (fun _ => ⟨rfl, rfl⟩) (Nat.le_of_ble_eq_true rfl) ?_
  refine Z.heap (h2 := [.inr (2, [.ref 1, .ref 10, .ref 14, .int 0, .int 0, .int 0, .int 0, .int 0, .null, .null, .null]), .inr (5, [.int 0, .int 0, .int 0, .int 0, .ref 2, .ref 3, .ref 4, .ref 5, .ref 6, .ref 7, .ref 8, .ref 9]), .inl (0, 128, .inl (fun _ => 0)), .inl (0, 128, .inl (fun _ => 0)), .inl (1, 128, .inr (.inl (fun _ => 0))), .inl (0, 128, .inl (fun _ => 0)), .inl (0, 128, .inl (fun _ => 0)), .inl (0, 128, .inl (fun _ => 0)), .inl (0, 128, .inl (fun _ => 0)), .inl (0, 40, .inl (fun _ => 0)), .inr (4, [.ref 11, .ref 12, .ref 13, .int 0]), .inl (0, 601, .inl (fun _ => 0)), .inl (0, 601, .inl (fun _ => 0)), .inl (0, 601, .inl (fun _ => 0)), .inl (0, 40, .inl (fun _ => 0))]) rfl ?_
  refine z_aload_0 dX2_init_59 ?_
  refine z_iconst (v := 3) dX2_init_60 rfl ?_
  refine z_newa (t := 0) (x := (3, .inl (fun _ => 0))) (N := 3) dX2_init_61 zar_int rfl (fun _ z => by cases z) (fun _ => rfl) (fun _ => rfl) (fun _ => rfl) (by decide) (by decide) (by decide) (zbh_of rfl) (fun _ => trivial) (zbl_of rfl) (zbs_of rfl) (Nat.le_of_ble_eq_true rfl) (Nat.le_of_ble_eq_true rfl) ?_
  refine Z.heap (h2 := [.inr (2, [.ref 1, .ref 10, .ref 14, .int 0, .int 0, .int 0, .int 0, .int 0, .null, .null, .null]), .inr (5, [.int 0, .int 0, .int 0, .int 0, .ref 2, .ref 3, .ref 4, .ref 5, .ref 6, .ref 7, .ref 8, .ref 9]), .inl (0, 128, .inl (fun _ => 0)), .inl (0, 128, .inl (fun _ => 0)), .inl (1, 128, .inr (.inl (fun _ => 0))), .inl (0, 128, .inl (fun _ => 0)), .inl (0, 128, .inl (fun _ => 0)), .inl (0, 128, .inl (fun _ => 0)), .inl (0, 128, .inl (fun _ => 0)), .inl (0, 40, .inl (fun _ => 0)), .inr (4, [.ref 11, .ref 12, .ref 13, .int 0]), .inl (0, 601, .inl (fun _ => 0)), .inl (0, 601, .inl (fun _ => 0)), .inl (0, 601, .inl (fun _ => 0)), .inl (0, 40, .inl (fun _ => 0)), .inl (0, 3, .inl (fun _ => 0))]) rfl ?_
  show Z sc _ _ _ _ _ _ _ _ _ (.ref 15 :: .ref 0 :: []) _ _ _
  refine z_putF (k := 8) (ty := tyX2) dX2_init_63 rfl rfl (by decide) zf_X2_45 zw_in2 tyX2_ok nmX2 rfl rfl rfl (fun _ => ⟨rfl, rfl⟩) (Nat.le_of_ble_eq_true rfl) ?_
  refine Z.heap (h2 := [.inr (2, [.ref 1, .ref 10, .ref 14, .int 0, .int 0, .int 0, .int 0, .int 0, .ref 15, .null, .null]), .inr (5, [.int 0, .int 0, .int 0, .int 0, .ref 2, .ref 3, .ref 4, .ref 5, .ref 6, .ref 7, .ref 8, .ref 9]), .inl (0, 128, .inl (fun _ => 0)), .inl (0, 128, .inl (fun _ => 0)), .inl (1, 128, .inr (.inl (fun _ => 0))), .inl (0, 128, .inl (fun _ => 0)), .inl (0, 128, .inl (fun _ => 0)), .inl (0, 128, .inl (fun _ => 0)), .inl (0, 128, .inl (fun _ => 0)), .inl (0, 40, .inl (fun _ => 0)), .inr (4, [.ref 11, .ref 12, .ref 13, .int 0]), .inl (0, 601, .inl (fun _ => 0)), .inl (0, 601, .inl (fun _ => 0)), .inl (0, 601, .inl (fun _ => 0)), .inl (0, 40, .inl (fun _ => 0)), .inl (0, 3, .inl (fun _ => 0))]) rfl ?_
  refine z_aload_0 dX2_init_66 ?_
  refine z_iconst (v := 3) dX2_init_67 rfl ?_
  refine z_newa (t := 0) (x := (3, .inl (fun _ => 0))) (N := 3) dX2_init_68 zar_int rfl (fun _ z => by cases z) (fun _ => rfl) (fun _ => rfl) (fun _ => rfl) (by decide) (by decide) (by decide) (zbh_of rfl) (fun _ => trivial) (zbl_of rfl) (zbs_of rfl) (Nat.le_of_ble_eq_true rfl) (Nat.le_of_ble_eq_true rfl) ?_
  refine Z.heap (h2 := [.inr (2, [.ref 1, .ref 10, .ref 14, .int 0, .int 0, .int 0, .int 0, .int 0, .ref 15, .null, .null]), .inr (5, [.int 0, .int 0, .int 0, .int 0, .ref 2, .ref 3, .ref 4, .ref 5, .ref 6, .ref 7, .ref 8, .ref 9]), .inl (0, 128, .inl (fun _ => 0)), .inl (0, 128, .inl (fun _ => 0)), .inl (1, 128, .inr (.inl (fun _ => 0))), .inl (0, 128, .inl (fun _ => 0)), .inl (0, 128, .inl (fun _ => 0)), .inl (0, 128, .inl (fun _ => 0)), .inl (0, 128, .inl (fun _ => 0)), .inl (0, 40, .inl (fun _ => 0)), .inr (4, [.ref 11, .ref 12, .ref 13, .int 0]), .inl (0, 601, .inl (fun _ => 0)), .inl (0, 601, .inl (fun _ => 0)), .inl (0, 601, .inl (fun _ => 0)), .inl (0, 40, .inl (fun _ => 0)), .inl (0, 3, .inl (fun _ => 0)), .inl (0, 3, .inl (fun _ => 0))]) rfl ?_
  show Z sc _ _ _ _ _ _ _ _ _ (.ref 16 :: .ref 0 :: []) _ _ _
  refine z_putF (k := 9) (ty := tyX2) dX2_init_70 rfl rfl (by decide) zf_X2_48 zw_in2 tyX2_ok nmX2 rfl rfl rfl (fun _ => ⟨rfl, rfl⟩) (Nat.le_of_ble_eq_true rfl) ?_
  refine Z.heap (h2 := [.inr (2, [.ref 1, .ref 10, .ref 14, .int 0, .int 0, .int 0, .int 0, .int 0, .ref 15, .ref 16, .null]), .inr (5, [.int 0, .int 0, .int 0, .int 0, .ref 2, .ref 3, .ref 4, .ref 5, .ref 6, .ref 7, .ref 8, .ref 9]), .inl (0, 128, .inl (fun _ => 0)), .inl (0, 128, .inl (fun _ => 0)), .inl (1, 128, .inr (.inl (fun _ => 0))), .inl (0, 128, .inl (fun _ => 0)), .inl (0, 128, .inl (fun _ => 0)), .inl (0, 128, .inl (fun _ => 0)), .inl (0, 128, .inl (fun _ => 0)), .inl (0, 40, .inl (fun _ => 0)), .inr (4, [.ref 11, .ref 12, .ref 13, .int 0]), .inl (0, 601, .inl (fun _ => 0)), .inl (0, 601, .inl (fun _ => 0)), .inl (0, 601, .inl (fun _ => 0)), .inl (0, 40, .inl (fun _ => 0)), .inl (0, 3, .inl (fun _ => 0)), .inl (0, 3, .inl (fun _ => 0))]) rfl ?_
  refine z_aload_0 dX2_init_73 ?_
  refine z_iconst (v := 3) dX2_init_74 rfl ?_
  refine z_newa (t := 0) (x := (3, .inl (fun _ => 0))) (N := 3) dX2_init_75 zar_int rfl (fun _ z => by cases z) (fun _ => rfl) (fun _ => rfl) (fun _ => rfl) (by decide) (by decide) (by decide) (zbh_of rfl) (fun _ => trivial) (zbl_of rfl) (zbs_of rfl) (Nat.le_of_ble_eq_true rfl) (Nat.le_of_ble_eq_true rfl) ?_
  refine Z.heap (h2 := [.inr (2, [.ref 1, .ref 10, .ref 14, .int 0, .int 0, .int 0, .int 0, .int 0, .ref 15, .ref 16, .null]), .inr (5, [.int 0, .int 0, .int 0, .int 0, .ref 2, .ref 3, .ref 4, .ref 5, .ref 6, .ref 7, .ref 8, .ref 9]), .inl (0, 128, .inl (fun _ => 0)), .inl (0, 128, .inl (fun _ => 0)), .inl (1, 128, .inr (.inl (fun _ => 0))), .inl (0, 128, .inl (fun _ => 0)), .inl (0, 128, .inl (fun _ => 0)), .inl (0, 128, .inl (fun _ => 0)), .inl (0, 128, .inl (fun _ => 0)), .inl (0, 40, .inl (fun _ => 0)), .inr (4, [.ref 11, .ref 12, .ref 13, .int 0]), .inl (0, 601, .inl (fun _ => 0)), .inl (0, 601, .inl (fun _ => 0)), .inl (0, 601, .inl (fun _ => 0)), .inl (0, 40, .inl (fun _ => 0)), .inl (0, 3, .inl (fun _ => 0)), .inl (0, 3, .inl (fun _ => 0)), .inl (0, 3, .inl (fun _ => 0))]) rfl ?_
  show Z sc _ _ _ _ _ _ _ _ _ (.ref 17 :: .ref 0 :: []) _ _ _
  refine z_putF (k := 10) (ty := tyX2) dX2_init_77 rfl rfl (by decide) zf_X2_51 zw_in2 tyX2_ok nmX2 rfl rfl rfl (fun _ => ⟨rfl, rfl⟩) (Nat.le_of_ble_eq_true rfl) ?_
  refine Z.heap (h2 := [.inr (2, [.ref 1, .ref 10, .ref 14, .int 0, .int 0, .int 0, .int 0, .int 0, .ref 15, .ref 16, .ref 17]), .inr (5, [.int 0, .int 0, .int 0, .int 0, .ref 2, .ref 3, .ref 4, .ref 5, .ref 6, .ref 7, .ref 8, .ref 9]), .inl (0, 128, .inl (fun _ => 0)), .inl (0, 128, .inl (fun _ => 0)), .inl (1, 128, .inr (.inl (fun _ => 0))), .inl (0, 128, .inl (fun _ => 0)), .inl (0, 128, .inl (fun _ => 0)), .inl (0, 128, .inl (fun _ => 0)), .inl (0, 128, .inl (fun _ => 0)), .inl (0, 40, .inl (fun _ => 0)), .inr (4, [.ref 11, .ref 12, .ref 13, .int 0]), .inl (0, 601, .inl (fun _ => 0)), .inl (0, 601, .inl (fun _ => 0)), .inl (0, 601, .inl (fun _ => 0)), .inl (0, 40, .inl (fun _ => 0)), .inl (0, 3, .inl (fun _ => 0)), .inl (0, 3, .inl (fun _ => 0)), .inl (0, 3, .inl (fun _ => 0))]) rfl ?_
  exact z_vret dX2_init_80 rfl rfl rfl
