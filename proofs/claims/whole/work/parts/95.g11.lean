variable {sc : SC}

/-- the reference as it begins: its fields, then the first text, then what it says -/
def mS0 : ZS := (fun k => if k = 12 then -1 else 0, fun _ _ => 0)
theorem tellL_f {tl i : Nat} : ∀ fu k p S, S.1 10 = nI p → (g_m_tell_L tl i fu k p S).1 10 = nI (p + fu) ∧ (∀ j, ¬ j = 10 → (g_m_tell_L tl i fu k p S).1 j = S.1 j) ∧ ∀ j, ¬ j = 6 → (g_m_tell_L tl i fu k p S).2 j = S.2 j := by
  intro fu
  induction fu with
  | zero => intro k p S h; exact ⟨h, fun _ _ => rfl, fun _ _ => rfl⟩
  | succ fu ih =>
    intro k p S h
    have h1 := ih (k + 1) (p + 1) (sI 10 (nI (p + 1)) (sA 6 p ((zby i).getD k 0) S)) rfl
    rw [g_m_tell_L]
    refine ⟨by rw [h1.1]; congr 1; omega, fun j hj => (h1.2.1 j hj).trans (sI_o hj), fun j hj => (h1.2.2 j hj).trans (sA_x hj)⟩
theorem tell_f {tl i : Nat} {S : ZS} (h : S.1 10 = nI tl) : (g_m_tell tl i S).1 10 = nI (tl + (zby i).length) ∧ (∀ j, ¬ j = 10 → (g_m_tell tl i S).1 j = S.1 j) ∧ ∀ j, ¬ j = 6 → (g_m_tell tl i S).2 j = S.2 j := by
  rw [g_m_tell]
  exact tellL_f _ _ _ _ h
noncomputable def mS1 : ZS := g_m_tell 0 19 mS0
noncomputable def mS2 : ZS := sI 15 0 (g_m_parses (0 + (zby 19).length) mS1).2
theorem mS1_10 : mS1.1 10 = nI (0 + (zby 19).length) := (tell_f (S := mS0) (tl := 0) rfl).1
theorem mS1_fg : mFg mS1 := by
  intro q h1 h40 e
  have e2 : mS1.1 19 = 0 := (tell_f (S := mS0) (tl := 0) rfl).2.1 19 (by decide)
  rw [e2] at e
  have e3 : nI 0 = nI q := e
  rw [zI_eq (by decide) (by omega)] at e3
  omega
theorem zby19 : (zby 19).length < 100 := zby_len (by decide)
theorem k_init_X7 : zM sc yX7_init cX7_init 1 none 22 13 5539 [.ref 0] [.inr (7, [.null, .null, .null, .null, .null, .int 0, .int 0, .null, .null, .int 0, .int 0, .int 0, .int 0, .null, .int 0, .int 0, .null, .null, .null, .int 0, .null, .int 0, .int 0, .int 0, .int 0, .int 0, .int 0, .int 0, .null])] (.inl none) (mh mS2) := by
  refine zM.at (ls := [some (.ref 0)]) zy_X7_init.2.2.2.2.2 (Nat.le_of_ble_eq_true rfl) rfl ?_
  refine z_aload_0 dX7_init_0 ?_
  refine z_objI dX7_init_1 zoi_X7 (by decide) (Nat.le_of_ble_eq_true rfl) ?_
  refine z_aload_0 dX7_init_4 ?_
  refine z_sipush (v := 300) dX7_init_5 rfl ?_
  refine z_newa (t := 0) (x := (300, .inl (fun _ => 0))) (N := 300) dX7_init_8 zar_int rfl (fun _ z => by cases z) (fun _ => rfl) (fun _ => rfl) (fun _ => rfl) (by decide) (by decide) (by decide) (zbh_of rfl) (fun _ => trivial) (zbl_of rfl) (zbs_of rfl) (Nat.le_of_ble_eq_true rfl) (Nat.le_of_ble_eq_true rfl) ?_
  refine Z.heap (h2 := [.inr (7, [.null, .null, .null, .null, .null, .int 0, .int 0, .null, .null, .int 0, .int 0, .int 0, .int 0, .null, .int 0, .int 0, .null, .null, .null, .int 0, .null, .int 0, .int 0, .int 0, .int 0, .int 0, .int 0, .int 0, .null]), .inl (0, 300, .inl (fun _ => 0))]) rfl ?_
  show Z sc _ _ _ _ _ _ _ _ _ (.ref 1 :: .ref 0 :: []) _ _ _
  refine z_putF (k := 0) (ty := tyX7) dX7_init_10 rfl rfl (by decide) zf_X7_7 zw_in7 tyX7_ok nmX7 rfl rfl rfl (fun _ => ⟨rfl, rfl⟩) (Nat.le_of_ble_eq_true rfl) ?_
  refine Z.heap (h2 := [.inr (7, [.ref 1, .null, .null, .null, .null, .int 0, .int 0, .null, .null, .int 0, .int 0, .int 0, .int 0, .null, .int 0, .int 0, .null, .null, .null, .int 0, .null, .int 0, .int 0, .int 0, .int 0, .int 0, .int 0, .int 0, .null]), .inl (0, 300, .inl (fun _ => 0))]) rfl ?_
  refine z_aload_0 dX7_init_13 ?_
  refine z_sipush (v := 300) dX7_init_14 rfl ?_
  refine z_newa (t := 0) (x := (300, .inl (fun _ => 0))) (N := 300) dX7_init_17 zar_int rfl (fun _ z => by cases z) (fun _ => rfl) (fun _ => rfl) (fun _ => rfl) (by decide) (by decide) (by decide) (zbh_of rfl) (fun _ => trivial) (zbl_of rfl) (zbs_of rfl) (Nat.le_of_ble_eq_true rfl) (Nat.le_of_ble_eq_true rfl) ?_
  refine Z.heap (h2 := [.inr (7, [.ref 1, .null, .null, .null, .null, .int 0, .int 0, .null, .null, .int 0, .int 0, .int 0, .int 0, .null, .int 0, .int 0, .null, .null, .null, .int 0, .null, .int 0, .int 0, .int 0, .int 0, .int 0, .int 0, .int 0, .null]), .inl (0, 300, .inl (fun _ => 0)), .inl (0, 300, .inl (fun _ => 0))]) rfl ?_
  show Z sc _ _ _ _ _ _ _ _ _ (.ref 2 :: .ref 0 :: []) _ _ _
  refine z_putF (k := 1) (ty := tyX7) dX7_init_19 rfl rfl (by decide) zf_X7_13 zw_in7 tyX7_ok nmX7 rfl rfl rfl (fun _ => ⟨rfl, rfl⟩) (Nat.le_of_ble_eq_true rfl) ?_
  refine Z.heap (h2 := [.inr (7, [.ref 1, .ref 2, .null, .null, .null, .int 0, .int 0, .null, .null, .int 0, .int 0, .int 0, .int 0, .null, .int 0, .int 0, .null, .null, .null, .int 0, .null, .int 0, .int 0, .int 0, .int 0, .int 0, .int 0, .int 0, .null]), .inl (0, 300, .inl (fun _ => 0)), .inl (0, 300, .inl (fun _ => 0))]) rfl ?_
  refine z_aload_0 dX7_init_22 ?_
  refine z_sipush (v := 300) dX7_init_23 rfl ?_
  refine z_newa (t := 0) (x := (300, .inl (fun _ => 0))) (N := 300) dX7_init_26 zar_int rfl (fun _ z => by cases z) (fun _ => rfl) (fun _ => rfl) (fun _ => rfl) (by decide) (by decide) (by decide) (zbh_of rfl) (fun _ => trivial) (zbl_of rfl) (zbs_of rfl) (Nat.le_of_ble_eq_true rfl) (Nat.le_of_ble_eq_true rfl) ?_
  refine Z.heap (h2 := [.inr (7, [.ref 1, .ref 2, .null, .null, .null, .int 0, .int 0, .null, .null, .int 0, .int 0, .int 0, .int 0, .null, .int 0, .int 0, .null, .null, .null, .int 0, .null, .int 0, .int 0, .int 0, .int 0, .int 0, .int 0, .int 0, .null]), .inl (0, 300, .inl (fun _ => 0)), .inl (0, 300, .inl (fun _ => 0)), .inl (0, 300, .inl (fun _ => 0))]) rfl ?_
  show Z sc _ _ _ _ _ _ _ _ _ (.ref 3 :: .ref 0 :: []) _ _ _
  refine z_putF (k := 2) (ty := tyX7) dX7_init_28 rfl rfl (by decide) zf_X7_16 zw_in7 tyX7_ok nmX7 rfl rfl rfl (fun _ => ⟨rfl, rfl⟩) (Nat.le_of_ble_eq_true rfl) ?_
  refine Z.heap (h2 := [.inr (7, [.ref 1, .ref 2, .ref 3, .null, .null, .int 0, .int 0, .null, .null, .int 0, .int 0, .int 0, .int 0, .null, .int 0, .int 0, .null, .null, .null, .int 0, .null, .int 0, .int 0, .int 0, .int 0, .int 0, .int 0, .int 0, .null]), .inl (0, 300, .inl (fun _ => 0)), .inl (0, 300, .inl (fun _ => 0)), .inl (0, 300, .inl (fun _ => 0))]) rfl ?_
  refine z_aload_0 dX7_init_31 ?_
  refine z_sipush (v := 2400) dX7_init_32 rfl ?_
  refine z_newa (t := 0) (x := (2400, .inl (fun _ => 0))) (N := 2400) dX7_init_35 zar_int rfl (fun _ z => by cases z) (fun _ => rfl) (fun _ => rfl) (fun _ => rfl) (by decide) (by decide) (by decide) (zbh_of rfl) (fun _ => trivial) (zbl_of rfl) (zbs_of rfl) (Nat.le_of_ble_eq_true rfl) (Nat.le_of_ble_eq_true rfl) ?_
  refine Z.heap (h2 := [.inr (7, [.ref 1, .ref 2, .ref 3, .null, .null, .int 0, .int 0, .null, .null, .int 0, .int 0, .int 0, .int 0, .null, .int 0, .int 0, .null, .null, .null, .int 0, .null, .int 0, .int 0, .int 0, .int 0, .int 0, .int 0, .int 0, .null]), .inl (0, 300, .inl (fun _ => 0)), .inl (0, 300, .inl (fun _ => 0)), .inl (0, 300, .inl (fun _ => 0)), .inl (0, 2400, .inl (fun _ => 0))]) rfl ?_
  show Z sc _ _ _ _ _ _ _ _ _ (.ref 4 :: .ref 0 :: []) _ _ _
  refine z_putF (k := 3) (ty := tyX7) dX7_init_37 rfl rfl (by decide) zf_X7_19 zw_in7 tyX7_ok nmX7 rfl rfl rfl (fun _ => ⟨rfl, rfl⟩) (Nat.le_of_ble_eq_true rfl) ?_
  refine Z.heap (h2 := [.inr (7, [.ref 1, .ref 2, .ref 3, .ref 4, .null, .int 0, .int 0, .null, .null, .int 0, .int 0, .int 0, .int 0, .null, .int 0, .int 0, .null, .null, .null, .int 0, .null, .int 0, .int 0, .int 0, .int 0, .int 0, .int 0, .int 0, .null]), .inl (0, 300, .inl (fun _ => 0)), .inl (0, 300, .inl (fun _ => 0)), .inl (0, 300, .inl (fun _ => 0)), .inl (0, 2400, .inl (fun _ => 0))]) rfl ?_
  refine z_aload_0 dX7_init_40 ?_
  refine z_sipush (v := 300) dX7_init_41 rfl ?_
  refine z_newa (t := 0) (x := (300, .inl (fun _ => 0))) (N := 300) dX7_init_44 zar_int rfl (fun _ z => by cases z) (fun _ => rfl) (fun _ => rfl) (fun _ => rfl) (by decide) (by decide) (by decide) (zbh_of rfl) (fun _ => trivial) (zbl_of rfl) (zbs_of rfl) (Nat.le_of_ble_eq_true rfl) (Nat.le_of_ble_eq_true rfl) ?_
  refine Z.heap (h2 := [.inr (7, [.ref 1, .ref 2, .ref 3, .ref 4, .null, .int 0, .int 0, .null, .null, .int 0, .int 0, .int 0, .int 0, .null, .int 0, .int 0, .null, .null, .null, .int 0, .null, .int 0, .int 0, .int 0, .int 0, .int 0, .int 0, .int 0, .null]), .inl (0, 300, .inl (fun _ => 0)), .inl (0, 300, .inl (fun _ => 0)), .inl (0, 300, .inl (fun _ => 0)), .inl (0, 2400, .inl (fun _ => 0)), .inl (0, 300, .inl (fun _ => 0))]) rfl ?_
  show Z sc _ _ _ _ _ _ _ _ _ (.ref 5 :: .ref 0 :: []) _ _ _
  refine z_putF (k := 4) (ty := tyX7) dX7_init_46 rfl rfl (by decide) zf_X7_22 zw_in7 tyX7_ok nmX7 rfl rfl rfl (fun _ => ⟨rfl, rfl⟩) (Nat.le_of_ble_eq_true rfl) ?_
  refine Z.heap (h2 := [.inr (7, [.ref 1, .ref 2, .ref 3, .ref 4, .ref 5, .int 0, .int 0, .null, .null, .int 0, .int 0, .int 0, .int 0, .null, .int 0, .int 0, .null, .null, .null, .int 0, .null, .int 0, .int 0, .int 0, .int 0, .int 0, .int 0, .int 0, .null]), .inl (0, 300, .inl (fun _ => 0)), .inl (0, 300, .inl (fun _ => 0)), .inl (0, 300, .inl (fun _ => 0)), .inl (0, 2400, .inl (fun _ => 0)), .inl (0, 300, .inl (fun _ => 0))]) rfl ?_
  refine z_aload_0 dX7_init_49 ?_
  refine z_sipush (v := 600) dX7_init_50 rfl ?_
  refine z_newa (t := 0) (x := (600, .inl (fun _ => 0))) (N := 600) dX7_init_53 zar_int rfl (fun _ z => by cases z) (fun _ => rfl) (fun _ => rfl) (fun _ => rfl) (by decide) (by decide) (by decide) (zbh_of rfl) (fun _ => trivial) (zbl_of rfl) (zbs_of rfl) (Nat.le_of_ble_eq_true rfl) (Nat.le_of_ble_eq_true rfl) ?_
  refine Z.heap (h2 := [.inr (7, [.ref 1, .ref 2, .ref 3, .ref 4, .ref 5, .int 0, .int 0, .null, .null, .int 0, .int 0, .int 0, .int 0, .null, .int 0, .int 0, .null, .null, .null, .int 0, .null, .int 0, .int 0, .int 0, .int 0, .int 0, .int 0, .int 0, .null]), .inl (0, 300, .inl (fun _ => 0)), .inl (0, 300, .inl (fun _ => 0)), .inl (0, 300, .inl (fun _ => 0)), .inl (0, 2400, .inl (fun _ => 0)), .inl (0, 300, .inl (fun _ => 0)), .inl (0, 600, .inl (fun _ => 0))]) rfl ?_
  show Z sc _ _ _ _ _ _ _ _ _ (.ref 6 :: .ref 0 :: []) _ _ _
  refine z_putF (k := 7) (ty := tyX7) dX7_init_55 rfl rfl (by decide) zf_X7_25 zw_in7 tyX7_ok nmX7 rfl rfl rfl (fun _ => ⟨rfl, rfl⟩) (Nat.le_of_ble_eq_true rfl) ?_
  refine Z.heap (h2 := [.inr (7, [.ref 1, .ref 2, .ref 3, .ref 4, .ref 5, .int 0, .int 0, .ref 6, .null, .int 0, .int 0, .int 0, .int 0, .null, .int 0, .int 0, .null, .null, .null, .int 0, .null, .int 0, .int 0, .int 0, .int 0, .int 0, .int 0, .int 0, .null]), .inl (0, 300, .inl (fun _ => 0)), .inl (0, 300, .inl (fun _ => 0)), .inl (0, 300, .inl (fun _ => 0)), .inl (0, 2400, .inl (fun _ => 0)), .inl (0, 300, .inl (fun _ => 0)), .inl (0, 600, .inl (fun _ => 0))]) rfl ?_
  refine z_aload_0 dX7_init_58 ?_
  refine z_sipush (v := 600) dX7_init_59 rfl ?_
  refine z_newa (t := 0) (x := (600, .inl (fun _ => 0))) (N := 600) dX7_init_62 zar_int rfl (fun _ z => by cases z) (fun _ => rfl) (fun _ => rfl) (fun _ => rfl) (by decide) (by decide) (by decide) (zbh_of rfl) (fun _ => trivial) (zbl_of rfl) (zbs_of rfl) (Nat.le_of_ble_eq_true rfl) (Nat.le_of_ble_eq_true rfl) ?_
  refine Z.heap (h2 := [.inr (7, [.ref 1, .ref 2, .ref 3, .ref 4, .ref 5, .int 0, .int 0, .ref 6, .null, .int 0, .int 0, .int 0, .int 0, .null, .int 0, .int 0, .null, .null, .null, .int 0, .null, .int 0, .int 0, .int 0, .int 0, .int 0, .int 0, .int 0, .null]), .inl (0, 300, .inl (fun _ => 0)), .inl (0, 300, .inl (fun _ => 0)), .inl (0, 300, .inl (fun _ => 0)), .inl (0, 2400, .inl (fun _ => 0)), .inl (0, 300, .inl (fun _ => 0)), .inl (0, 600, .inl (fun _ => 0)), .inl (0, 600, .inl (fun _ => 0))]) rfl ?_
  show Z sc _ _ _ _ _ _ _ _ _ (.ref 7 :: .ref 0 :: []) _ _ _
  refine z_putF (k := 8) (ty := tyX7) dX7_init_64 rfl rfl (by decide) zf_X7_28 zw_in7 tyX7_ok nmX7 rfl rfl rfl (fun _ => ⟨rfl, rfl⟩) (Nat.le_of_ble_eq_true rfl) ?_
  refine Z.heap (h2 := [.inr (7, [.ref 1, .ref 2, .ref 3, .ref 4, .ref 5, .int 0, .int 0, .ref 6, .ref 7, .int 0, .int 0, .int 0, .int 0, .null, .int 0, .int 0, .null, .null, .null, .int 0, .null, .int 0, .int 0, .int 0, .int 0, .int 0, .int 0, .int 0, .null]), .inl (0, 300, .inl (fun _ => 0)), .inl (0, 300, .inl (fun _ => 0)), .inl (0, 300, .inl (fun _ => 0)), .inl (0, 2400, .inl (fun _ => 0)), .inl (0, 300, .inl (fun _ => 0)), .inl (0, 600, .inl (fun _ => 0)), .inl (0, 600, .inl (fun _ => 0))]) rfl ?_
  refine z_aload_0 dX7_init_67 ?_
  refine z_iconst (v := (-1)) dX7_init_68 rfl ?_
  refine z_put (k := 12) (ty := tyX7) dX7_init_69 rfl rfl (by decide) zf_X7_31 zw_in7 tyX7_ok nmX7 rfl (fun _ => ⟨rfl, rfl⟩) (Nat.le_of_ble_eq_true rfl) ?_
  refine Z.heap (h2 := [.inr (7, [.ref 1, .ref 2, .ref 3, .ref 4, .ref 5, .int 0, .int 0, .ref 6, .ref 7, .int 0, .int 0, .int 0, .int (-1), .null, .int 0, .int 0, .null, .null, .null, .int 0, .null, .int 0, .int 0, .int 0, .int 0, .int 0, .int 0, .int 0, .null]), .inl (0, 300, .inl (fun _ => 0)), .inl (0, 300, .inl (fun _ => 0)), .inl (0, 300, .inl (fun _ => 0)), .inl (0, 2400, .inl (fun _ => 0)), .inl (0, 300, .inl (fun _ => 0)), .inl (0, 600, .inl (fun _ => 0)), .inl (0, 600, .inl (fun _ => 0))]) rfl ?_
  refine z_aload_0 dX7_init_72 ?_
  refine z_sipush (v := 400) dX7_init_73 rfl ?_
  refine z_newa (t := 4) (x := (400, .inl (fun _ => 0))) (N := 400) dX7_init_76 zar_char rfl (fun _ z => by cases z) (fun _ => rfl) (fun _ => rfl) (fun _ => rfl) (by decide) (by decide) (by decide) (zbh_of rfl) (fun _ => trivial) (zbl_of rfl) (zbs_of rfl) (Nat.le_of_ble_eq_true rfl) (Nat.le_of_ble_eq_true rfl) ?_
  refine Z.heap (h2 := [.inr (7, [.ref 1, .ref 2, .ref 3, .ref 4, .ref 5, .int 0, .int 0, .ref 6, .ref 7, .int 0, .int 0, .int 0, .int (-1), .null, .int 0, .int 0, .null, .null, .null, .int 0, .null, .int 0, .int 0, .int 0, .int 0, .int 0, .int 0, .int 0, .null]), .inl (0, 300, .inl (fun _ => 0)), .inl (0, 300, .inl (fun _ => 0)), .inl (0, 300, .inl (fun _ => 0)), .inl (0, 2400, .inl (fun _ => 0)), .inl (0, 300, .inl (fun _ => 0)), .inl (0, 600, .inl (fun _ => 0)), .inl (0, 600, .inl (fun _ => 0)), .inl (4, 400, .inl (fun _ => 0))]) rfl ?_
  show Z sc _ _ _ _ _ _ _ _ _ (.ref 8 :: .ref 0 :: []) _ _ _
  refine z_putF (k := 13) (ty := tyX7) dX7_init_78 rfl rfl (by decide) zf_X7_35 zw_in7 tyX7_ok nmX7 rfl rfl rfl (fun _ => ⟨rfl, rfl⟩) (Nat.le_of_ble_eq_true rfl) ?_
  refine Z.heap (h2 := [.inr (7, [.ref 1, .ref 2, .ref 3, .ref 4, .ref 5, .int 0, .int 0, .ref 6, .ref 7, .int 0, .int 0, .int 0, .int (-1), .ref 8, .int 0, .int 0, .null, .null, .null, .int 0, .null, .int 0, .int 0, .int 0, .int 0, .int 0, .int 0, .int 0, .null]), .inl (0, 300, .inl (fun _ => 0)), .inl (0, 300, .inl (fun _ => 0)), .inl (0, 300, .inl (fun _ => 0)), .inl (0, 2400, .inl (fun _ => 0)), .inl (0, 300, .inl (fun _ => 0)), .inl (0, 600, .inl (fun _ => 0)), .inl (0, 600, .inl (fun _ => 0)), .inl (4, 400, .inl (fun _ => 0))]) rfl ?_
  refine z_aload_0 dX7_init_81 ?_
  refine z_sipush (v := 128) dX7_init_82 rfl ?_
  refine z_newa (t := 0) (x := (128, .inl (fun _ => 0))) (N := 128) dX7_init_85 zar_int rfl (fun _ z => by cases z) (fun _ => rfl) (fun _ => rfl) (fun _ => rfl) (by decide) (by decide) (by decide) (zbh_of rfl) (fun _ => trivial) (zbl_of rfl) (zbs_of rfl) (Nat.le_of_ble_eq_true rfl) (Nat.le_of_ble_eq_true rfl) ?_
  refine Z.heap (h2 := [.inr (7, [.ref 1, .ref 2, .ref 3, .ref 4, .ref 5, .int 0, .int 0, .ref 6, .ref 7, .int 0, .int 0, .int 0, .int (-1), .ref 8, .int 0, .int 0, .null, .null, .null, .int 0, .null, .int 0, .int 0, .int 0, .int 0, .int 0, .int 0, .int 0, .null]), .inl (0, 300, .inl (fun _ => 0)), .inl (0, 300, .inl (fun _ => 0)), .inl (0, 300, .inl (fun _ => 0)), .inl (0, 2400, .inl (fun _ => 0)), .inl (0, 300, .inl (fun _ => 0)), .inl (0, 600, .inl (fun _ => 0)), .inl (0, 600, .inl (fun _ => 0)), .inl (4, 400, .inl (fun _ => 0)), .inl (0, 128, .inl (fun _ => 0))]) rfl ?_
  show Z sc _ _ _ _ _ _ _ _ _ (.ref 9 :: .ref 0 :: []) _ _ _
  refine z_putF (k := 16) (ty := tyX7) dX7_init_87 rfl rfl (by decide) zf_X7_39 zw_in7 tyX7_ok nmX7 rfl rfl rfl (fun _ => ⟨rfl, rfl⟩) (Nat.le_of_ble_eq_true rfl) ?_
  refine Z.heap (h2 := [.inr (7, [.ref 1, .ref 2, .ref 3, .ref 4, .ref 5, .int 0, .int 0, .ref 6, .ref 7, .int 0, .int 0, .int 0, .int (-1), .ref 8, .int 0, .int 0, .ref 9, .null, .null, .int 0, .null, .int 0, .int 0, .int 0, .int 0, .int 0, .int 0, .int 0, .null]), .inl (0, 300, .inl (fun _ => 0)), .inl (0, 300, .inl (fun _ => 0)), .inl (0, 300, .inl (fun _ => 0)), .inl (0, 2400, .inl (fun _ => 0)), .inl (0, 300, .inl (fun _ => 0)), .inl (0, 600, .inl (fun _ => 0)), .inl (0, 600, .inl (fun _ => 0)), .inl (4, 400, .inl (fun _ => 0)), .inl (0, 128, .inl (fun _ => 0))]) rfl ?_
  refine z_aload_0 dX7_init_90 ?_
  refine z_sipush (v := 128) dX7_init_91 rfl ?_
  refine z_newa (t := 0) (x := (128, .inl (fun _ => 0))) (N := 128) dX7_init_94 zar_int rfl (fun _ z => by cases z) (fun _ => rfl) (fun _ => rfl) (fun _ => rfl) (by decide) (by decide) (by decide) (zbh_of rfl) (fun _ => trivial) (zbl_of rfl) (zbs_of rfl) (Nat.le_of_ble_eq_true rfl) (Nat.le_of_ble_eq_true rfl) ?_
  refine Z.heap (h2 := [.inr (7, [.ref 1, .ref 2, .ref 3, .ref 4, .ref 5, .int 0, .int 0, .ref 6, .ref 7, .int 0, .int 0, .int 0, .int (-1), .ref 8, .int 0, .int 0, .ref 9, .null, .null, .int 0, .null, .int 0, .int 0, .int 0, .int 0, .int 0, .int 0, .int 0, .null]), .inl (0, 300, .inl (fun _ => 0)), .inl (0, 300, .inl (fun _ => 0)), .inl (0, 300, .inl (fun _ => 0)), .inl (0, 2400, .inl (fun _ => 0)), .inl (0, 300, .inl (fun _ => 0)), .inl (0, 600, .inl (fun _ => 0)), .inl (0, 600, .inl (fun _ => 0)), .inl (4, 400, .inl (fun _ => 0)), .inl (0, 128, .inl (fun _ => 0)), .inl (0, 128, .inl (fun _ => 0))]) rfl ?_
  show Z sc _ _ _ _ _ _ _ _ _ (.ref 10 :: .ref 0 :: []) _ _ _
  refine z_putF (k := 17) (ty := tyX7) dX7_init_96 rfl rfl (by decide) zf_X7_42 zw_in7 tyX7_ok nmX7 rfl rfl rfl (fun _ => ⟨rfl, rfl⟩) (Nat.le_of_ble_eq_true rfl) ?_
  refine Z.heap (h2 := [.inr (7, [.ref 1, .ref 2, .ref 3, .ref 4, .ref 5, .int 0, .int 0, .ref 6, .ref 7, .int 0, .int 0, .int 0, .int (-1), .ref 8, .int 0, .int 0, .ref 9, .ref 10, .null, .int 0, .null, .int 0, .int 0, .int 0, .int 0, .int 0, .int 0, .int 0, .null]), .inl (0, 300, .inl (fun _ => 0)), .inl (0, 300, .inl (fun _ => 0)), .inl (0, 300, .inl (fun _ => 0)), .inl (0, 2400, .inl (fun _ => 0)), .inl (0, 300, .inl (fun _ => 0)), .inl (0, 600, .inl (fun _ => 0)), .inl (0, 600, .inl (fun _ => 0)), .inl (4, 400, .inl (fun _ => 0)), .inl (0, 128, .inl (fun _ => 0)), .inl (0, 128, .inl (fun _ => 0))]) rfl ?_
  refine z_aload_0 dX7_init_99 ?_
  refine z_bipush (v := 40) dX7_init_100 rfl ?_
  refine z_newa (t := 0) (x := (40, .inl (fun _ => 0))) (N := 40) dX7_init_102 zar_int rfl (fun _ z => by cases z) (fun _ => rfl) (fun _ => rfl) (fun _ => rfl) (by decide) (by decide) (by decide) (zbh_of rfl) (fun _ => trivial) (zbl_of rfl) (zbs_of rfl) (Nat.le_of_ble_eq_true rfl) (Nat.le_of_ble_eq_true rfl) ?_
  refine Z.heap (h2 := [.inr (7, [.ref 1, .ref 2, .ref 3, .ref 4, .ref 5, .int 0, .int 0, .ref 6, .ref 7, .int 0, .int 0, .int 0, .int (-1), .ref 8, .int 0, .int 0, .ref 9, .ref 10, .null, .int 0, .null, .int 0, .int 0, .int 0, .int 0, .int 0, .int 0, .int 0, .null]), .inl (0, 300, .inl (fun _ => 0)), .inl (0, 300, .inl (fun _ => 0)), .inl (0, 300, .inl (fun _ => 0)), .inl (0, 2400, .inl (fun _ => 0)), .inl (0, 300, .inl (fun _ => 0)), .inl (0, 600, .inl (fun _ => 0)), .inl (0, 600, .inl (fun _ => 0)), .inl (4, 400, .inl (fun _ => 0)), .inl (0, 128, .inl (fun _ => 0)), .inl (0, 128, .inl (fun _ => 0)), .inl (0, 40, .inl (fun _ => 0))]) rfl ?_
  show Z sc _ _ _ _ _ _ _ _ _ (.ref 11 :: .ref 0 :: []) _ _ _
  refine z_putF (k := 18) (ty := tyX7) dX7_init_104 rfl rfl (by decide) zf_X7_45 zw_in7 tyX7_ok nmX7 rfl rfl rfl (fun _ => ⟨rfl, rfl⟩) (Nat.le_of_ble_eq_true rfl) ?_
  refine Z.heap (h2 := [.inr (7, [.ref 1, .ref 2, .ref 3, .ref 4, .ref 5, .int 0, .int 0, .ref 6, .ref 7, .int 0, .int 0, .int 0, .int (-1), .ref 8, .int 0, .int 0, .ref 9, .ref 10, .ref 11, .int 0, .null, .int 0, .int 0, .int 0, .int 0, .int 0, .int 0, .int 0, .null]), .inl (0, 300, .inl (fun _ => 0)), .inl (0, 300, .inl (fun _ => 0)), .inl (0, 300, .inl (fun _ => 0)), .inl (0, 2400, .inl (fun _ => 0)), .inl (0, 300, .inl (fun _ => 0)), .inl (0, 600, .inl (fun _ => 0)), .inl (0, 600, .inl (fun _ => 0)), .inl (4, 400, .inl (fun _ => 0)), .inl (0, 128, .inl (fun _ => 0)), .inl (0, 128, .inl (fun _ => 0)), .inl (0, 40, .inl (fun _ => 0))]) rfl ?_
  refine z_aload_0 dX7_init_107 ?_
  refine z_bipush (v := 40) dX7_init_108 rfl ?_
  refine z_newa (t := 0) (x := (40, .inl (fun _ => 0))) (N := 40) dX7_init_110 zar_int rfl (fun _ z => by cases z) (fun _ => rfl) (fun _ => rfl) (fun _ => rfl) (by decide) (by decide) (by decide) (zbh_of rfl) (fun _ => trivial) (zbl_of rfl) (zbs_of rfl) (Nat.le_of_ble_eq_true rfl) (Nat.le_of_ble_eq_true rfl) ?_
  refine Z.heap (h2 := [.inr (7, [.ref 1, .ref 2, .ref 3, .ref 4, .ref 5, .int 0, .int 0, .ref 6, .ref 7, .int 0, .int 0, .int 0, .int (-1), .ref 8, .int 0, .int 0, .ref 9, .ref 10, .ref 11, .int 0, .null, .int 0, .int 0, .int 0, .int 0, .int 0, .int 0, .int 0, .null]), .inl (0, 300, .inl (fun _ => 0)), .inl (0, 300, .inl (fun _ => 0)), .inl (0, 300, .inl (fun _ => 0)), .inl (0, 2400, .inl (fun _ => 0)), .inl (0, 300, .inl (fun _ => 0)), .inl (0, 600, .inl (fun _ => 0)), .inl (0, 600, .inl (fun _ => 0)), .inl (4, 400, .inl (fun _ => 0)), .inl (0, 128, .inl (fun _ => 0)), .inl (0, 128, .inl (fun _ => 0)), .inl (0, 40, .inl (fun _ => 0)), .inl (0, 40, .inl (fun _ => 0))]) rfl ?_
  show Z sc _ _ _ _ _ _ _ _ _ (.ref 12 :: .ref 0 :: []) _ _ _
  refine z_putF (k := 20) (ty := tyX7) dX7_init_112 rfl rfl (by decide) zf_X7_48 zw_in7 tyX7_ok nmX7 rfl rfl rfl (fun _ => ⟨rfl, rfl⟩) (Nat.le_of_ble_eq_true rfl) ?_
  refine Z.heap (h2 := [.inr (7, [.ref 1, .ref 2, .ref 3, .ref 4, .ref 5, .int 0, .int 0, .ref 6, .ref 7, .int 0, .int 0, .int 0, .int (-1), .ref 8, .int 0, .int 0, .ref 9, .ref 10, .ref 11, .int 0, .ref 12, .int 0, .int 0, .int 0, .int 0, .int 0, .int 0, .int 0, .null]), .inl (0, 300, .inl (fun _ => 0)), .inl (0, 300, .inl (fun _ => 0)), .inl (0, 300, .inl (fun _ => 0)), .inl (0, 2400, .inl (fun _ => 0)), .inl (0, 300, .inl (fun _ => 0)), .inl (0, 600, .inl (fun _ => 0)), .inl (0, 600, .inl (fun _ => 0)), .inl (4, 400, .inl (fun _ => 0)), .inl (0, 128, .inl (fun _ => 0)), .inl (0, 128, .inl (fun _ => 0)), .inl (0, 40, .inl (fun _ => 0)), .inl (0, 40, .inl (fun _ => 0))]) rfl ?_
  refine z_aload_0 dX7_init_115 ?_
  refine z_iconst (v := 3) dX7_init_116 rfl ?_
  refine z_newa (t := 0) (x := (3, .inl (fun _ => 0))) (N := 3) dX7_init_117 zar_int rfl (fun _ z => by cases z) (fun _ => rfl) (fun _ => rfl) (fun _ => rfl) (by decide) (by decide) (by decide) (zbh_of rfl) (fun _ => trivial) (zbl_of rfl) (zbs_of rfl) (Nat.le_of_ble_eq_true rfl) (Nat.le_of_ble_eq_true rfl) ?_
  refine Z.heap (h2 := [.inr (7, [.ref 1, .ref 2, .ref 3, .ref 4, .ref 5, .int 0, .int 0, .ref 6, .ref 7, .int 0, .int 0, .int 0, .int (-1), .ref 8, .int 0, .int 0, .ref 9, .ref 10, .ref 11, .int 0, .ref 12, .int 0, .int 0, .int 0, .int 0, .int 0, .int 0, .int 0, .null]), .inl (0, 300, .inl (fun _ => 0)), .inl (0, 300, .inl (fun _ => 0)), .inl (0, 300, .inl (fun _ => 0)), .inl (0, 2400, .inl (fun _ => 0)), .inl (0, 300, .inl (fun _ => 0)), .inl (0, 600, .inl (fun _ => 0)), .inl (0, 600, .inl (fun _ => 0)), .inl (4, 400, .inl (fun _ => 0)), .inl (0, 128, .inl (fun _ => 0)), .inl (0, 128, .inl (fun _ => 0)), .inl (0, 40, .inl (fun _ => 0)), .inl (0, 40, .inl (fun _ => 0)), .inl (0, 3, .inl (fun _ => 0))]) rfl ?_
  show Z sc _ _ _ _ _ _ _ _ _ (.ref 13 :: .ref 0 :: []) _ _ _
  refine z_putF (k := 28) (ty := tyX7) dX7_init_119 rfl rfl (by decide) zf_X7_51 zw_in7 tyX7_ok nmX7 rfl rfl rfl (fun _ => ⟨rfl, rfl⟩) (Nat.le_of_ble_eq_true rfl) ?_
  refine Z.heap (h2 := [.inr (7, [.ref 1, .ref 2, .ref 3, .ref 4, .ref 5, .int 0, .int 0, .ref 6, .ref 7, .int 0, .int 0, .int 0, .int (-1), .ref 8, .int 0, .int 0, .ref 9, .ref 10, .ref 11, .int 0, .ref 12, .int 0, .int 0, .int 0, .int 0, .int 0, .int 0, .int 0, .ref 13]), .inl (0, 300, .inl (fun _ => 0)), .inl (0, 300, .inl (fun _ => 0)), .inl (0, 300, .inl (fun _ => 0)), .inl (0, 2400, .inl (fun _ => 0)), .inl (0, 300, .inl (fun _ => 0)), .inl (0, 600, .inl (fun _ => 0)), .inl (0, 600, .inl (fun _ => 0)), .inl (4, 400, .inl (fun _ => 0)), .inl (0, 128, .inl (fun _ => 0)), .inl (0, 128, .inl (fun _ => 0)), .inl (0, 40, .inl (fun _ => 0)), .inl (0, 40, .inl (fun _ => 0)), .inl (0, 3, .inl (fun _ => 0))]) rfl ?_
  refine z_aload_0 dX7_init_122 ?_
  refine Z.heap (h2 := mh mS0) rfl ?_
  refine z_ldcStr (i := 19) dX7_init_123 rfl ?_
  refine Z.call0n (zRun.V (ρ := fun i => i) (k_m_tell 0 19 mS0 (by decide) rfl (by have := zby19; omega)) dX7_init_125 zy_X7_tell zm_X7_56 rfl rfl rfl rfl (Nat.le_of_ble_eq_true rfl) (by decide) (by decide)) (zlen2 14 rfl rfl) ?_
  refine Z.heap (h2 := mh mS1) rfl ?_
  refine z_aload_0 dX7_init_128 ?_
  refine Z.call0s (zRun.V (ρ := fun i => i) (k_m_parses (0 + (zby 19).length) mS1 mS1_10 (by have := zby19; omega) mS1_fg) dX7_init_129 zy_X7_parses zm_X7_60 rfl rfl rfl rfl (Nat.le_of_ble_eq_true rfl) (by decide) (by decide)) (zlen2 14 rfl rfl) ?_
  generalize eR : (g_m_parses (0 + (zby 19).length) mS1).2 = R
  rw [show mS2 = sI 15 0 R by rw [mS2, eR]]
  refine z_pop dX7_init_132 rfl ?_
  refine z_aload_0 dX7_init_133 ?_
  refine z_iconst (v := 0) dX7_init_134 rfl ?_
  refine z_put (k := 15) (ty := tyX7) dX7_init_135 rfl rfl (by decide) zf_X7_64 zw_in7 tyX7_ok nmX7 rfl (fun _ => ⟨rfl, rfl⟩) (Nat.le_of_ble_eq_true rfl) ?_
  exact z_vret dX7_init_138 rfl rfl rfl
