variable {sc : SC}

/-- open repeats; commands so far -/
def so (S : ZS) : Nat := (S.1 9).toNatClampNeg
def xe (S : ZS) : Nat := (S.1 6).toNatClampNeg
theorem so_nI {S : ZS} {p : Nat} (h : S.1 9 = nI p) (hp : p < 2 ^ 31) : so S = p := by rw [so, h, nI_clamp hp]
theorem num_f {c : Nat} {x z : Int32} {S : ZS} {TU : TS} : (g_c_2_readNumber c x z S TU).2.1 4 = S.1 4 ∧ (g_c_2_readNumber c x z S TU).2.1 6 = S.1 6 ∧ (g_c_2_readNumber c x z S TU).2.1 9 = S.1 9 ∧ (g_c_2_readNumber c x z S TU).2.2 = S.2 := by
  rw [g_c_2_readNumber]
  repeat' split
  all_goals first | exact exp_f | exact ⟨exp_f.1.trans fail_f.1, exp_f.2.1.trans fail_f.2.2.1, exp_f.2.2.1.trans fail_f.2.2.2.1, exp_f.2.2.2.trans fail_f.2.2.2.2⟩
theorem ends_f {c : Nat} {b : Bool} {S : ZS} {TU : TS} : (g_c_2_ends c b S TU).2.1 4 = S.1 4 ∧ (g_c_2_ends c b S TU).2.1 6 = S.1 6 ∧ (g_c_2_ends c b S TU).2.1 9 = S.1 9 ∧ (g_c_2_ends c b S TU).2.2 = S.2 := by
  rw [g_c_2_ends]
  repeat' split
  all_goals first | exact exp_f | exact ⟨exp_f.1.trans fail_f.1, exp_f.2.1.trans fail_f.2.2.1, exp_f.2.2.1.trans fail_f.2.2.2.1, exp_f.2.2.2.trans fail_f.2.2.2.2⟩
theorem val_f {c : Nat} {b : Bool} {S : ZS} {TU : TS} : (g_c_2_readValue c b S TU).2.1 4 = S.1 4 ∧ (g_c_2_readValue c b S TU).2.1 6 = S.1 6 ∧ (g_c_2_readValue c b S TU).2.1 9 = S.1 9 ∧ (g_c_2_readValue c b S TU).2.2 = S.2 := by
  rw [g_c_2_readValue]
  repeat' split
  all_goals first | exact exp_f | exact ⟨exp_f.1.trans fail_f.1, exp_f.2.1.trans fail_f.2.2.1, exp_f.2.2.1.trans fail_f.2.2.2.1, exp_f.2.2.2.trans fail_f.2.2.2.2⟩
noncomputable def g_c_2_openRepeat (c : Nat) (S : ZS) (TU : TS) : ZS := (if so S < 3 then (sI 9 (nI (so S + 1)) (sA 8 (so S) ((g_c_2_expect c (4) ((g_c_2_readNumber c (1) (20) (sI 5 (nI (sp S + 1)) S) TU).2) TU).1 6) (sA 7 (so S) ((g_c_2_expect c (4) ((g_c_2_readNumber c (1) (20) (sI 5 (nI (sp S + 1)) S) TU).2) TU).1 5) (sA 6 (so S) ((g_c_2_readNumber c (1) (20) (sI 5 (nI (sp S + 1)) S) TU).1) (g_c_2_expect c (4) ((g_c_2_readNumber c (1) (20) (sI 5 (nI (sp S + 1)) S) TU).2) TU))))) else (g_c_2_fail (5) S TU))
theorem k_c_2_openRepeat (c : Nat) (S : ZS) (TU : TS) (hS : scO c S) (ho : S.1 9 = nI (so S)) (ho3 : so S ≤ 3) (hr : sp S < c) : zM sc yX2_openRepeat cX2_openRepeat 2 none 3 0 0 [.ref 0] (sho 0 S TU) (.inl none) (sho 0 (g_c_2_openRepeat c S TU) TU) := by
  refine zM.at (ls := [some (.ref 0), none]) zy_X2_openRepeat.2.2.2.2.2 (Nat.le_of_ble_eq_true rfl) rfl ?_
  refine z_aload_0 dX2_openRepeat_0 ?_
  refine z_get (k := 7) (v := .int (S.1 9)) dX2_openRepeat_1 rfl rfl rfl (by decide) zf_X2_42 zw_in2 ?_
  refine z_topi (w := nI (so S)) ho ?_
  refine z_ifN_lt_f (tgt := 15) dX2_openRepeat_4 (by decide) (x := so S) (by first | omega | assumption) (by omega) ?_
  refine z_aload_0 dX2_openRepeat_7 ?_
  refine z_get (k := 7) (v := .int (S.1 9)) dX2_openRepeat_8 rfl rfl rfl (by decide) zf_X2_42 zw_in2 ?_
  refine z_topi (w := nI (so S)) ho ?_
  refine z_iconst (v := 3) dX2_openRepeat_11 rfl ?_
  refine z_icmpN_lt (tgt := 21) dX2_openRepeat_12 (by decide) (x := so S) (z := 3) (by first | omega | assumption) (by first | omega | assumption) (fun c12 => ?_) (fun c12 => ?_)
  · refine z_aload_0 dX2_openRepeat_21 ?_
    refine z_dup dX2_openRepeat_22 rfl ?_
    refine z_get (k := 3) (v := .int (S.1 5)) dX2_openRepeat_23 rfl rfl rfl (by decide) zf_X2_29 zw_in2 ?_
    refine z_topi (w := nI (sp S)) hS.2.2.1 ?_
    refine z_iconst (v := 1) dX2_openRepeat_26 rfl ?_
    refine z_iadd dX2_openRepeat_27 ?_
    refine z_topi (w := nI (sp S + 1)) (nI_add _ _) ?_
    refine z_put (k := 3) (ty := tyX2) dX2_openRepeat_28 rfl rfl (by decide) zf_X2_29 zw_in2 tyX2_ok nmX2 rfl (fun _ => ⟨rfl, rfl⟩) (Nat.le_of_ble_eq_true rfl) ?_
    refine Z.heap (h2 := sho 0 (sI 5 (nI (sp S + 1)) S) TU) rfl ?_
    refine z_aload_0 dX2_openRepeat_31 ?_
    refine z_iconst (v := 1) dX2_openRepeat_32 rfl ?_
    refine z_bipush (v := 20) dX2_openRepeat_33 rfl ?_
    refine Z.call0s (zRun.V (ρ := fun i => i) (k_c_2_readNumber c (1) (20) (sI 5 (nI (sp S + 1)) S) TU (adv_sc hS hr)) dX2_openRepeat_35 zy_X2_readNumber zm_X2_107 rfl rfl rfl rfl (Nat.le_of_ble_eq_true rfl) (by decide) (by decide)) (zlen2 18 rfl rfl) ?_
    obtain ⟨Sn1, en1⟩ : ∃ z, z = ((g_c_2_readNumber c (1) (20) (sI 5 (nI (sp S + 1)) S) TU).2) := ⟨_, rfl⟩
    rw [← en1]
    have hS1 : scO c Sn1 := by rw [en1]; exact num_sc (adv_sc hS hr)
    have o1 : Sn1.1 9 = nI (so S) := by rw [en1, num_f.2.2.1]; exact ho
    refine z_istore_1 dX2_openRepeat_38 rfl (by decide) ?_
    refine z_aload_0 dX2_openRepeat_39 ?_
    refine z_iconst (v := 4) dX2_openRepeat_40 rfl ?_
    refine Z.call0n (zRun.V (ρ := fun i => i) (k_c_2_expect c (4) Sn1 TU hS1) dX2_openRepeat_41 zy_X2_expect zm_X2_90 rfl rfl rfl rfl (Nat.le_of_ble_eq_true rfl) (by decide) (by decide)) (zlen2 18 rfl rfl) ?_
    obtain ⟨Sn2, en2⟩ : ∃ z, z = (g_c_2_expect c (4) Sn1 TU) := ⟨_, rfl⟩
    rw [← en2]
    have hS2 : scO c Sn2 := by rw [en2]; exact exp_sc hS1 (by decide)
    have o2 : Sn2.1 9 = nI (so S) := by rw [en2, exp_f.2.2.1]; exact o1
    refine z_aload_0 dX2_openRepeat_44 ?_
    refine z_get (k := 8) (v := .ref 15) dX2_openRepeat_45 rfl rfl rfl (by decide) zf_X2_45 zw_in2 ?_
    refine z_aload_0 dX2_openRepeat_48 ?_
    refine z_get (k := 7) (v := .int (Sn2.1 9)) dX2_openRepeat_49 rfl rfl rfl (by decide) zf_X2_42 zw_in2 ?_
    refine z_topi (w := nI (so S)) o2 ?_
    refine z_iload_1 dX2_openRepeat_52 ?_
    refine z_iastN (k := (so S)) dX2_openRepeat_53 rfl (by first | omega | assumption) (by decide) ?_
    refine Z.heap (h2 := sho 0 (sA 6 (so S) ((g_c_2_readNumber c (1) (20) (sI 5 (nI (sp S + 1)) S) TU).1) Sn2) TU) rfl ?_
    refine z_aload_0 dX2_openRepeat_54 ?_
    refine z_get (k := 9) (v := .ref 16) dX2_openRepeat_55 rfl rfl rfl (by decide) zf_X2_48 zw_in2 ?_
    refine z_aload_0 dX2_openRepeat_58 ?_
    refine z_get (k := 7) (v := .int (Sn2.1 9)) dX2_openRepeat_59 rfl rfl rfl (by decide) zf_X2_42 zw_in2 ?_
    refine z_topi (w := nI (so S)) o2 ?_
    refine z_aload_0 dX2_openRepeat_62 ?_
    refine z_get (k := 3) (v := .int (Sn2.1 5)) dX2_openRepeat_63 rfl rfl rfl (by decide) zf_X2_29 zw_in2 ?_
    refine z_iastN (k := (so S)) dX2_openRepeat_66 rfl (by first | omega | assumption) (by decide) ?_
    refine Z.heap (h2 := sho 0 (sA 7 (so S) (Sn2.1 5) (sA 6 (so S) ((g_c_2_readNumber c (1) (20) (sI 5 (nI (sp S + 1)) S) TU).1) Sn2)) TU) rfl ?_
    refine z_aload_0 dX2_openRepeat_67 ?_
    refine z_get (k := 10) (v := .ref 17) dX2_openRepeat_68 rfl rfl rfl (by decide) zf_X2_51 zw_in2 ?_
    refine z_aload_0 dX2_openRepeat_71 ?_
    refine z_get (k := 7) (v := .int (Sn2.1 9)) dX2_openRepeat_72 rfl rfl rfl (by decide) zf_X2_42 zw_in2 ?_
    refine z_topi (w := nI (so S)) o2 ?_
    refine z_aload_0 dX2_openRepeat_75 ?_
    refine z_get (k := 4) (v := .int (Sn2.1 6)) dX2_openRepeat_76 rfl rfl rfl (by decide) zf_X2_33 zw_in2 ?_
    refine z_iastN (k := (so S)) dX2_openRepeat_79 rfl (by first | omega | assumption) (by decide) ?_
    refine Z.heap (h2 := sho 0 (sA 8 (so S) (Sn2.1 6) (sA 7 (so S) (Sn2.1 5) (sA 6 (so S) ((g_c_2_readNumber c (1) (20) (sI 5 (nI (sp S + 1)) S) TU).1) Sn2))) TU) rfl ?_
    refine z_aload_0 dX2_openRepeat_80 ?_
    refine z_dup dX2_openRepeat_81 rfl ?_
    refine z_get (k := 7) (v := .int (Sn2.1 9)) dX2_openRepeat_82 rfl rfl rfl (by decide) zf_X2_42 zw_in2 ?_
    refine z_topi (w := nI (so S)) o2 ?_
    refine z_iconst (v := 1) dX2_openRepeat_85 rfl ?_
    refine z_iadd dX2_openRepeat_86 ?_
    refine z_topi (w := nI (so S + 1)) (nI_add _ _) ?_
    refine z_put (k := 7) (ty := tyX2) dX2_openRepeat_87 rfl rfl (by decide) zf_X2_42 zw_in2 tyX2_ok nmX2 rfl (fun _ => ⟨rfl, rfl⟩) (Nat.le_of_ble_eq_true rfl) ?_
    refine Z.heap (h2 := sho 0 (sI 9 (nI (so S + 1)) (sA 8 (so S) (Sn2.1 6) (sA 7 (so S) (Sn2.1 5) (sA 6 (so S) ((g_c_2_readNumber c (1) (20) (sI 5 (nI (sp S + 1)) S) TU).1) Sn2)))) TU) rfl ?_
    subst en2
    subst en1
    rw [g_c_2_openRepeat, if_pos c12]
    try dsimp only
    exact z_vret dX2_openRepeat_90 rfl rfl rfl
  · refine z_aload_0 dX2_openRepeat_15 ?_
    refine z_iconst (v := 5) dX2_openRepeat_16 rfl ?_
    refine Z.call0n (zRun.V (ρ := fun i => i) (k_c_2_fail (5) S TU ) dX2_openRepeat_17 zy_X2_fail zm_X2_83 rfl rfl rfl rfl (Nat.le_of_ble_eq_true rfl) (by decide) (by decide)) (zlen2 18 rfl rfl) ?_
    rw [g_c_2_openRepeat, if_neg c12]
    try dsimp only
    exact z_vret dX2_openRepeat_20 rfl rfl rfl
noncomputable def g_c_2_closeRepeat (c : Nat) (k : Nat) (S : ZS) (TU : TS) : ZS := (if (S.2 6 (k)) - 1 ≤ 0 then (g_c_2_expect c (6) (sI 5 (nI (sp S + 1)) (sI 9 (nI (k)) (sA 6 (k) ((S.2 6 (k)) - 1) S))) TU) else (if S.1 6 ≤ S.2 8 (k) then (g_c_2_expect c (6) (sI 5 (nI (sp S + 1)) (sI 9 (nI (k)) (sA 6 (k) ((S.2 6 (k)) - 1) S))) TU) else (sI 5 (S.2 7 (k)) (sA 8 (k) (S.1 6) (sA 6 (k) ((S.2 6 (k)) - 1) S)))))
theorem k_c_2_closeRepeat (c : Nat) (k : Nat) (S : ZS) (TU : TS) (hS : scO c S) (ho : S.1 9 = nI (k + 1)) (hk3 : k < 3) (hr : sp S < c) : zM sc yX2_closeRepeat cX2_closeRepeat 2 none 2 0 0 [.ref 0] (sho 0 S TU) (.inl none) (sho 0 (g_c_2_closeRepeat c k S TU) TU) := by
  refine zM.at (ls := [some (.ref 0), none]) zy_X2_closeRepeat.2.2.2.2.2 (Nat.le_of_ble_eq_true rfl) rfl ?_
  refine z_aload_0 dX2_closeRepeat_0 ?_
  refine z_get (k := 7) (v := .int (S.1 9)) dX2_closeRepeat_1 rfl rfl rfl (by decide) zf_X2_42 zw_in2 ?_
  refine z_topi (w := nI (k + 1)) ho ?_
  refine z_iconst (v := 1) dX2_closeRepeat_4 rfl ?_
  refine z_isub dX2_closeRepeat_5 ?_
  refine z_topi (w := nI (k)) (zsubE _ _) ?_
  refine z_istore_1 dX2_closeRepeat_6 rfl (by decide) ?_
  refine z_iload_1 dX2_closeRepeat_7 ?_
  refine z_ifN_lt_f (tgt := 16) dX2_closeRepeat_8 (by decide) (x := k) (by first | omega | assumption) (by omega) ?_
  refine z_iload_1 dX2_closeRepeat_11 ?_
  refine z_iconst (v := 3) dX2_closeRepeat_12 rfl ?_
  refine z_icmpN_lt_t (tgt := 17) dX2_closeRepeat_13 (by decide) (x := k) (z := 3) (by first | omega | assumption) (by first | omega | assumption) (by omega) ?_
  refine z_aload_0 dX2_closeRepeat_17 ?_
  refine z_get (k := 8) (v := .ref 15) dX2_closeRepeat_18 rfl rfl rfl (by decide) zf_X2_45 zw_in2 ?_
  refine z_iload_1 dX2_closeRepeat_21 ?_
  refine z_dup2 dX2_closeRepeat_22 rfl rfl ?_
  refine z_ialdN (k := k) dX2_closeRepeat_23 rfl (by first | omega | assumption) (by decide) ?_
  refine z_topi (w := S.2 6 (k)) rfl ?_
  refine z_iconst (v := 1) dX2_closeRepeat_24 rfl ?_
  refine z_isub dX2_closeRepeat_25 ?_
  refine z_iastN (k := k) dX2_closeRepeat_26 rfl (by first | omega | assumption) (by decide) ?_
  refine Z.heap (h2 := sho 0 (sA 6 (k) ((S.2 6 (k)) - 1) S) TU) rfl ?_
  refine z_aload_0 dX2_closeRepeat_27 ?_
  refine z_get (k := 8) (v := .ref 15) dX2_closeRepeat_28 rfl rfl rfl (by decide) zf_X2_45 zw_in2 ?_
  refine z_iload_1 dX2_closeRepeat_31 ?_
  refine z_ialdN (k := k) dX2_closeRepeat_32 rfl (by first | omega | assumption) (by decide) ?_
  refine z_topi (w := (S.2 6 (k)) - 1) (by rw [sA_same]) ?_
  refine z_if_le (tgt := 72) dX2_closeRepeat_33 (by decide) (fun c33 => ?_) (fun c33 => ?_)
  · refine z_aload_0 dX2_closeRepeat_72 ?_
    refine z_iload_1 dX2_closeRepeat_73 ?_
    refine z_put (k := 7) (ty := tyX2) dX2_closeRepeat_74 rfl rfl (by decide) zf_X2_42 zw_in2 tyX2_ok nmX2 rfl (fun _ => ⟨rfl, rfl⟩) (Nat.le_of_ble_eq_true rfl) ?_
    refine Z.heap (h2 := sho 0 (sI 9 (nI (k)) (sA 6 (k) ((S.2 6 (k)) - 1) S)) TU) rfl ?_
    refine z_aload_0 dX2_closeRepeat_77 ?_
    refine z_dup dX2_closeRepeat_78 rfl ?_
    refine z_get (k := 3) (v := .int (S.1 5)) dX2_closeRepeat_79 rfl rfl rfl (by decide) zf_X2_29 zw_in2 ?_
    refine z_topi (w := nI (sp S)) hS.2.2.1 ?_
    refine z_iconst (v := 1) dX2_closeRepeat_82 rfl ?_
    refine z_iadd dX2_closeRepeat_83 ?_
    refine z_topi (w := nI (sp S + 1)) (nI_add _ _) ?_
    refine z_put (k := 3) (ty := tyX2) dX2_closeRepeat_84 rfl rfl (by decide) zf_X2_29 zw_in2 tyX2_ok nmX2 rfl (fun _ => ⟨rfl, rfl⟩) (Nat.le_of_ble_eq_true rfl) ?_
    refine Z.heap (h2 := sho 0 (sI 5 (nI (sp S + 1)) (sI 9 (nI (k)) (sA 6 (k) ((S.2 6 (k)) - 1) S))) TU) rfl ?_
    refine z_aload_0 dX2_closeRepeat_87 ?_
    refine z_bipush (v := 6) dX2_closeRepeat_88 rfl ?_
    refine Z.call0n (zRun.V (ρ := fun i => i) (k_c_2_expect c (6) (sI 5 (nI (sp S + 1)) (sI 9 (nI (k)) (sA 6 (k) ((S.2 6 (k)) - 1) S))) TU (hS.adv hr rfl rfl)) dX2_closeRepeat_90 zy_X2_expect zm_X2_90 rfl rfl rfl rfl (Nat.le_of_ble_eq_true rfl) (by decide) (by decide)) (zlen2 18 rfl rfl) ?_
    rw [g_c_2_closeRepeat, if_pos c33]
    try dsimp only
    exact z_vret dX2_closeRepeat_93 rfl rfl rfl
  · refine z_aload_0 dX2_closeRepeat_36 ?_
    refine z_get (k := 4) (v := .int (S.1 6)) dX2_closeRepeat_37 rfl rfl rfl (by decide) zf_X2_33 zw_in2 ?_
    refine z_aload_0 dX2_closeRepeat_40 ?_
    refine z_get (k := 10) (v := .ref 17) dX2_closeRepeat_41 rfl rfl rfl (by decide) zf_X2_51 zw_in2 ?_
    refine z_iload_1 dX2_closeRepeat_44 ?_
    refine z_ialdN (k := k) dX2_closeRepeat_45 rfl (by first | omega | assumption) (by decide) ?_
    refine z_topi (w := S.2 8 (k)) (by rw [sA_x (by decide)]) ?_
    refine z_icmp_le (tgt := 72) dX2_closeRepeat_46 (by decide) (fun c46 => ?_) (fun c46 => ?_)
    · refine z_aload_0 dX2_closeRepeat_72 ?_
      refine z_iload_1 dX2_closeRepeat_73 ?_
      refine z_put (k := 7) (ty := tyX2) dX2_closeRepeat_74 rfl rfl (by decide) zf_X2_42 zw_in2 tyX2_ok nmX2 rfl (fun _ => ⟨rfl, rfl⟩) (Nat.le_of_ble_eq_true rfl) ?_
      refine Z.heap (h2 := sho 0 (sI 9 (nI (k)) (sA 6 (k) ((S.2 6 (k)) - 1) S)) TU) rfl ?_
      refine z_aload_0 dX2_closeRepeat_77 ?_
      refine z_dup dX2_closeRepeat_78 rfl ?_
      refine z_get (k := 3) (v := .int (S.1 5)) dX2_closeRepeat_79 rfl rfl rfl (by decide) zf_X2_29 zw_in2 ?_
      refine z_topi (w := nI (sp S)) hS.2.2.1 ?_
      refine z_iconst (v := 1) dX2_closeRepeat_82 rfl ?_
      refine z_iadd dX2_closeRepeat_83 ?_
      refine z_topi (w := nI (sp S + 1)) (nI_add _ _) ?_
      refine z_put (k := 3) (ty := tyX2) dX2_closeRepeat_84 rfl rfl (by decide) zf_X2_29 zw_in2 tyX2_ok nmX2 rfl (fun _ => ⟨rfl, rfl⟩) (Nat.le_of_ble_eq_true rfl) ?_
      refine Z.heap (h2 := sho 0 (sI 5 (nI (sp S + 1)) (sI 9 (nI (k)) (sA 6 (k) ((S.2 6 (k)) - 1) S))) TU) rfl ?_
      refine z_aload_0 dX2_closeRepeat_87 ?_
      refine z_bipush (v := 6) dX2_closeRepeat_88 rfl ?_
      refine Z.call0n (zRun.V (ρ := fun i => i) (k_c_2_expect c (6) (sI 5 (nI (sp S + 1)) (sI 9 (nI (k)) (sA 6 (k) ((S.2 6 (k)) - 1) S))) TU (hS.adv hr rfl rfl)) dX2_closeRepeat_90 zy_X2_expect zm_X2_90 rfl rfl rfl rfl (Nat.le_of_ble_eq_true rfl) (by decide) (by decide)) (zlen2 18 rfl rfl) ?_
      rw [g_c_2_closeRepeat, if_neg c33, if_pos c46]
      try dsimp only
      exact z_vret dX2_closeRepeat_93 rfl rfl rfl
    · refine z_aload_0 dX2_closeRepeat_49 ?_
      refine z_get (k := 10) (v := .ref 17) dX2_closeRepeat_50 rfl rfl rfl (by decide) zf_X2_51 zw_in2 ?_
      refine z_iload_1 dX2_closeRepeat_53 ?_
      refine z_aload_0 dX2_closeRepeat_54 ?_
      refine z_get (k := 4) (v := .int (S.1 6)) dX2_closeRepeat_55 rfl rfl rfl (by decide) zf_X2_33 zw_in2 ?_
      refine z_iastN (k := k) dX2_closeRepeat_58 rfl (by first | omega | assumption) (by decide) ?_
      refine Z.heap (h2 := sho 0 (sA 8 (k) (S.1 6) (sA 6 (k) ((S.2 6 (k)) - 1) S)) TU) rfl ?_
      refine z_aload_0 dX2_closeRepeat_59 ?_
      refine z_aload_0 dX2_closeRepeat_60 ?_
      refine z_get (k := 9) (v := .ref 16) dX2_closeRepeat_61 rfl rfl rfl (by decide) zf_X2_48 zw_in2 ?_
      refine z_iload_1 dX2_closeRepeat_64 ?_
      refine z_ialdN (k := k) dX2_closeRepeat_65 rfl (by first | omega | assumption) (by decide) ?_
      refine z_topi (w := S.2 7 (k)) (by rw [sA_x (by decide), sA_x (by decide)]) ?_
      refine z_put (k := 3) (ty := tyX2) dX2_closeRepeat_66 rfl rfl (by decide) zf_X2_29 zw_in2 tyX2_ok nmX2 rfl (fun _ => ⟨rfl, rfl⟩) (Nat.le_of_ble_eq_true rfl) ?_
      refine Z.heap (h2 := sho 0 (sI 5 (S.2 7 (k)) (sA 8 (k) (S.1 6) (sA 6 (k) ((S.2 6 (k)) - 1) S))) TU) rfl ?_
      refine z_goto (tgt := 93) dX2_closeRepeat_69 (by decide) ?_
      rw [g_c_2_closeRepeat, if_neg c33, if_neg c46]
      try dsimp only
      exact z_vret dX2_closeRepeat_93 rfl rfl rfl
noncomputable def g_c_2_readSequence_L (c : Nat) : Nat → Nat → Nat → ZS → TS → ZS × TS
  | 0, k, _, S, TU => (if ((g_c_2_expect c (6) S TU)).1 7 = 0 then ((g_c_2_expect c (6) S TU), (tBuild (tSz (tClear TU) k (va_cpy (((g_c_2_expect c (6) S TU)).2 5) (tva (tClear TU)) 0 0 k)))) else ((g_c_2_expect c (6) S TU), TU))
  | fu + 1, k, j, S, TU => (if S.1 7 = 0 then (if k ≤ 0 then (if 40 ≤ k then g_c_2_readSequence_L c fu k (j + 1) ((g_c_2_readValue c (false) S TU).2) TU else g_c_2_readSequence_L c fu (k + 1) (j + 1) (sA 5 (k) ((g_c_2_readValue c (true) S TU).1) (g_c_2_readValue c (true) S TU).2) TU) else (if ((g_c_2_isAt c (6) S TU)) = true then (if ((g_c_2_expect c (6) S TU)).1 7 = 0 then ((g_c_2_expect c (6) S TU), (tBuild (tSz (tClear TU) k (va_cpy (((g_c_2_expect c (6) S TU)).2 5) (tva (tClear TU)) 0 0 k)))) else ((g_c_2_expect c (6) S TU), TU)) else (if 40 ≤ k then g_c_2_readSequence_L c fu k (j + 1) ((g_c_2_readValue c (false) S TU).2) TU else g_c_2_readSequence_L c fu (k + 1) (j + 1) (sA 5 (k) ((g_c_2_readValue c (true) S TU).1) (g_c_2_readValue c (true) S TU).2) TU))) else (if ((g_c_2_expect c (6) S TU)).1 7 = 0 then ((g_c_2_expect c (6) S TU), (tBuild (tSz (tClear TU) k (va_cpy (((g_c_2_expect c (6) S TU)).2 5) (tva (tClear TU)) 0 0 k)))) else ((g_c_2_expect c (6) S TU), TU)))
theorem l_g_c_2_readSequence_L (c : Nat) : ∀ (fu : Nat) (k : Nat) (j : Nat) (S : ZS) (TU : TS) (j3 : Option Value), (scO c S) → (k ≤ 40) → (j + fu = 41) → (k = j ∨ 40 ≤ k) → Z sc yX2_readSequence cX2_readSequence 4 none 3 0 0 10 [some (.ref 0), some (.int (nI (k))), some (.int (nI (j))), j3] [] (sho 0 S TU) (.inl none) (sho 0 (g_c_2_readSequence_L c fu k j S TU).1 (g_c_2_readSequence_L c fu k j S TU).2) := by
  intro fu
  induction fu with
  | zero =>
    intro k j S TU j3 hS hk hj hkj
    refine z_iload_2 dX2_readSequence_10 ?_
    refine z_bipush (v := 40) dX2_readSequence_11 rfl ?_
    refine z_icmpN_gt_t (tgt := 77) dX2_readSequence_13 (by decide) (x := j) (z := 40) (by first | omega | assumption) (by first | omega | assumption) (by omega) ?_
    refine z_aload_0 dX2_readSequence_77 ?_
    refine z_bipush (v := 6) dX2_readSequence_78 rfl ?_
    refine Z.call0n (zRun.V (ρ := fun i => i) (k_c_2_expect c (6) S TU hS) dX2_readSequence_80 zy_X2_expect zm_X2_90 rfl rfl rfl rfl (Nat.le_of_ble_eq_true rfl) (by decide) (by decide)) (zlen2 18 rfl rfl) ?_
    refine z_aload_0 dX2_readSequence_83 ?_
    refine z_get (k := 5) (v := .int (((g_c_2_expect c (6) S TU)).1 7)) dX2_readSequence_84 rfl rfl rfl (by decide) zf_X2_36 zw_in2 ?_
    refine z_if_ne (tgt := 109) dX2_readSequence_87 (by decide) (fun c87 => ?_) (fun c87 => ?_)
    · rw [g_c_2_readSequence_L, if_neg c87]
      try dsimp only
      exact z_vret dX2_readSequence_109 rfl rfl rfl
    · refine z_aload_0 dX2_readSequence_90 ?_
      refine z_get (k := 0) (v := .ref 1) dX2_readSequence_91 rfl rfl rfl (by decide) zf_X2_12 zw_in2 ?_
      refine Z.shn (sho 0 (g_c_2_expect c (6) S TU) (tClear TU)) (zRun.V (ρ := zsh 1) (k_clearCounters TU) dX2_readSequence_94 zy_X5_clearCounters zm_X2_97 rfl rfl rfl rfl (Nat.le_of_ble_eq_true rfl) (by decide) (by decide) (zsh_fix 1)) (zsh_inj (Nat.le_of_ble_eq_true rfl)) ⟨rfl, rfl, rfl, rfl, rfl, rfl, rfl, rfl, rfl, trivial⟩ (zlen2 9 rfl rfl) rfl ?_
      refine z_aload_0 dX2_readSequence_97 ?_
      refine z_get (k := 0) (v := .ref 1) dX2_readSequence_98 rfl rfl rfl (by decide) zf_X2_12 zw_in2 ?_
      refine z_aload_0 dX2_readSequence_101 ?_
      refine z_get (k := 2) (v := .ref 14) dX2_readSequence_102 rfl rfl rfl (by decide) zf_X2_25 zw_in2 ?_
      refine z_iload_1 dX2_readSequence_105 ?_
      refine Z.shn (sho 0 (g_c_2_expect c (6) S TU) (tBuild (tSz (tClear TU) k (va_cpy (((g_c_2_expect c (6) S TU)).2 5) (tva (tClear TU)) 0 0 k)))) (zRun.V (ρ := zs3 9 1 14) (k_buildFrom (tClear TU) (((g_c_2_expect c (6) S TU)).2 5) k (by first | omega | exact absurd c87 (by rw [exp_err c20]; exact c20)) (by omega)) dX2_readSequence_106 zy_X5_build zm_X2_100 rfl rfl rfl rfl (Nat.le_of_ble_eq_true rfl) (by decide) (by decide) (fun i => zs3_fix _ _ i (by decide))) (zs3_inj (Nat.le_of_ble_eq_true rfl) (Nat.le_of_ble_eq_true rfl) (Or.inl (by decide))) ⟨rfl, rfl, rfl, rfl, rfl, rfl, rfl, rfl, rfl, rfl, trivial⟩ (zlen2 10 rfl rfl) rfl ?_
      rw [g_c_2_readSequence_L, if_pos c87]
      try dsimp only
      exact z_vret dX2_readSequence_109 rfl rfl rfl
  | succ fu ih =>
    intro k j S TU j3 hS hk hj hkj
    refine z_iload_2 dX2_readSequence_10 ?_
    refine z_bipush (v := 40) dX2_readSequence_11 rfl ?_
    refine z_icmpN_gt_f (tgt := 77) dX2_readSequence_13 (by decide) (x := j) (z := 40) (by first | omega | assumption) (by first | omega | assumption) (by omega) ?_
    refine z_aload_0 dX2_readSequence_16 ?_
    refine z_get (k := 5) (v := .int (S.1 7)) dX2_readSequence_17 rfl rfl rfl (by decide) zf_X2_36 zw_in2 ?_
    refine z_if_ne (tgt := 77) dX2_readSequence_20 (by decide) (fun c20 => ?_) (fun c20 => ?_)
    · refine z_aload_0 dX2_readSequence_77 ?_
      refine z_bipush (v := 6) dX2_readSequence_78 rfl ?_
      refine Z.call0n (zRun.V (ρ := fun i => i) (k_c_2_expect c (6) S TU hS) dX2_readSequence_80 zy_X2_expect zm_X2_90 rfl rfl rfl rfl (Nat.le_of_ble_eq_true rfl) (by decide) (by decide)) (zlen2 18 rfl rfl) ?_
      refine z_aload_0 dX2_readSequence_83 ?_
      refine z_get (k := 5) (v := .int (((g_c_2_expect c (6) S TU)).1 7)) dX2_readSequence_84 rfl rfl rfl (by decide) zf_X2_36 zw_in2 ?_
      refine z_if_ne (tgt := 109) dX2_readSequence_87 (by decide) (fun c87 => ?_) (fun c87 => ?_)
      · rw [g_c_2_readSequence_L, if_neg c20, if_neg c87]
        try dsimp only
        exact z_vret dX2_readSequence_109 rfl rfl rfl
      · refine z_aload_0 dX2_readSequence_90 ?_
        refine z_get (k := 0) (v := .ref 1) dX2_readSequence_91 rfl rfl rfl (by decide) zf_X2_12 zw_in2 ?_
        refine Z.shn (sho 0 (g_c_2_expect c (6) S TU) (tClear TU)) (zRun.V (ρ := zsh 1) (k_clearCounters TU) dX2_readSequence_94 zy_X5_clearCounters zm_X2_97 rfl rfl rfl rfl (Nat.le_of_ble_eq_true rfl) (by decide) (by decide) (zsh_fix 1)) (zsh_inj (Nat.le_of_ble_eq_true rfl)) ⟨rfl, rfl, rfl, rfl, rfl, rfl, rfl, rfl, rfl, trivial⟩ (zlen2 9 rfl rfl) rfl ?_
        refine z_aload_0 dX2_readSequence_97 ?_
        refine z_get (k := 0) (v := .ref 1) dX2_readSequence_98 rfl rfl rfl (by decide) zf_X2_12 zw_in2 ?_
        refine z_aload_0 dX2_readSequence_101 ?_
        refine z_get (k := 2) (v := .ref 14) dX2_readSequence_102 rfl rfl rfl (by decide) zf_X2_25 zw_in2 ?_
        refine z_iload_1 dX2_readSequence_105 ?_
        refine Z.shn (sho 0 (g_c_2_expect c (6) S TU) (tBuild (tSz (tClear TU) k (va_cpy (((g_c_2_expect c (6) S TU)).2 5) (tva (tClear TU)) 0 0 k)))) (zRun.V (ρ := zs3 9 1 14) (k_buildFrom (tClear TU) (((g_c_2_expect c (6) S TU)).2 5) k (by first | omega | exact absurd c87 (by rw [exp_err c20]; exact c20)) (by omega)) dX2_readSequence_106 zy_X5_build zm_X2_100 rfl rfl rfl rfl (Nat.le_of_ble_eq_true rfl) (by decide) (by decide) (fun i => zs3_fix _ _ i (by decide))) (zs3_inj (Nat.le_of_ble_eq_true rfl) (Nat.le_of_ble_eq_true rfl) (Or.inl (by decide))) ⟨rfl, rfl, rfl, rfl, rfl, rfl, rfl, rfl, rfl, rfl, trivial⟩ (zlen2 10 rfl rfl) rfl ?_
        rw [g_c_2_readSequence_L, if_neg c20, if_pos c87]
        try dsimp only
        exact z_vret dX2_readSequence_109 rfl rfl rfl
    · refine z_iload_1 dX2_readSequence_23 ?_
      refine z_ifN_le (tgt := 39) dX2_readSequence_24 (by decide) (x := k) (by first | omega | assumption) (fun c24 => ?_) (fun c24 => ?_)
      · refine z_aload_0 dX2_readSequence_39 ?_
        refine z_iload_1 dX2_readSequence_40 ?_
        refine z_bipush (v := 40) dX2_readSequence_41 rfl ?_
        refine z_icmpN_ge (tgt := 50) dX2_readSequence_43 (by decide) (x := k) (z := 40) (by first | omega | assumption) (by first | omega | assumption) (fun c43 => ?_) (fun c43 => ?_)
        · refine z_iconst (v := 0) dX2_readSequence_50 rfl ?_
          refine Z.call0s (zRun.V (ρ := fun i => i) (k_c_2_readValue c (false) S TU hS) dX2_readSequence_51 zy_X2_readValue zm_X2_93 rfl rfl rfl rfl (Nat.le_of_ble_eq_true rfl) (by decide) (by decide)) (zlen2 18 rfl rfl) ?_
          refine z_istore_3 dX2_readSequence_54 rfl (by decide) ?_
          refine z_iload_1 dX2_readSequence_55 ?_
          refine z_bipush (v := 40) dX2_readSequence_56 rfl ?_
          refine z_icmpN_ge_t (tgt := 71) dX2_readSequence_58 (by decide) (x := k) (z := 40) (by first | omega | assumption) (by first | omega | assumption) c43 ?_
          refine z_iinc_2 (v := nI (j + 1)) dX2_readSequence_71 (nI_add _ 1) rfl (by decide) ?_
          refine z_goto (tgt := 10) dX2_readSequence_74 (by decide) ?_
          rw [g_c_2_readSequence_L, if_pos c20, if_pos c24, if_pos c43]
          exact ih k (j + 1) ((g_c_2_readValue c (false) S TU).2) TU _ (by first | exact val_sc hS | exact (val_sc hS).of rfl rfl) (by first | omega | assumption) (by first | omega | assumption) (by first | omega | assumption)
        · refine z_iconst (v := 1) dX2_readSequence_46 rfl ?_
          refine z_goto (tgt := 51) dX2_readSequence_47 (by decide) ?_
          refine Z.call0s (zRun.V (ρ := fun i => i) (k_c_2_readValue c (true) S TU hS) dX2_readSequence_51 zy_X2_readValue zm_X2_93 rfl rfl rfl rfl (Nat.le_of_ble_eq_true rfl) (by decide) (by decide)) (zlen2 18 rfl rfl) ?_
          refine z_istore_3 dX2_readSequence_54 rfl (by decide) ?_
          refine z_iload_1 dX2_readSequence_55 ?_
          refine z_bipush (v := 40) dX2_readSequence_56 rfl ?_
          refine z_icmpN_ge_f (tgt := 71) dX2_readSequence_58 (by decide) (x := k) (z := 40) (by first | omega | assumption) (by first | omega | assumption) c43 ?_
          refine z_aload_0 dX2_readSequence_61 ?_
          refine z_get (k := 2) (v := .ref 14) dX2_readSequence_62 rfl rfl rfl (by decide) zf_X2_25 zw_in2 ?_
          refine z_iload_1 dX2_readSequence_65 ?_
          refine z_iload_3 dX2_readSequence_66 ?_
          refine z_iastN (k := k) dX2_readSequence_67 rfl (by first | omega | assumption) (by decide) ?_
          refine Z.heap (h2 := sho 0 (sA 5 (k) ((g_c_2_readValue c (true) S TU).1) (g_c_2_readValue c (true) S TU).2) TU) rfl ?_
          refine z_iinc_1 (v := nI (k + 1)) dX2_readSequence_68 (nI_add _ 1) rfl (by decide) ?_
          refine z_iinc_2 (v := nI (j + 1)) dX2_readSequence_71 (nI_add _ 1) rfl (by decide) ?_
          refine z_goto (tgt := 10) dX2_readSequence_74 (by decide) ?_
          rw [g_c_2_readSequence_L, if_pos c20, if_pos c24, if_neg c43]
          exact ih (k + 1) (j + 1) (sA 5 (k) ((g_c_2_readValue c (true) S TU).1) (g_c_2_readValue c (true) S TU).2) TU _ (by first | exact val_sc hS | exact (val_sc hS).of rfl rfl) (by first | omega | assumption) (by first | omega | assumption) (by first | omega | assumption)
      · refine z_aload_0 dX2_readSequence_27 ?_
        refine z_bipush (v := 6) dX2_readSequence_28 rfl ?_
        refine Z.call0s (zRun.V (ρ := fun i => i) (k_c_2_isAt c (6) S TU hS) dX2_readSequence_30 zy_X2_isAt zm_X2_86 rfl rfl rfl rfl (Nat.le_of_ble_eq_true rfl) (by decide) (by decide)) (zlen2 18 rfl rfl) ?_
        refine z_ifB_eq (tgt := 39) dX2_readSequence_33 (by decide) (fun c33 => ?_) (fun c33 => ?_)
        · refine z_aload_0 dX2_readSequence_39 ?_
          refine z_iload_1 dX2_readSequence_40 ?_
          refine z_bipush (v := 40) dX2_readSequence_41 rfl ?_
          refine z_icmpN_ge (tgt := 50) dX2_readSequence_43 (by decide) (x := k) (z := 40) (by first | omega | assumption) (by first | omega | assumption) (fun c43 => ?_) (fun c43 => ?_)
          · refine z_iconst (v := 0) dX2_readSequence_50 rfl ?_
            refine Z.call0s (zRun.V (ρ := fun i => i) (k_c_2_readValue c (false) S TU hS) dX2_readSequence_51 zy_X2_readValue zm_X2_93 rfl rfl rfl rfl (Nat.le_of_ble_eq_true rfl) (by decide) (by decide)) (zlen2 18 rfl rfl) ?_
            refine z_istore_3 dX2_readSequence_54 rfl (by decide) ?_
            refine z_iload_1 dX2_readSequence_55 ?_
            refine z_bipush (v := 40) dX2_readSequence_56 rfl ?_
            refine z_icmpN_ge_t (tgt := 71) dX2_readSequence_58 (by decide) (x := k) (z := 40) (by first | omega | assumption) (by first | omega | assumption) c43 ?_
            refine z_iinc_2 (v := nI (j + 1)) dX2_readSequence_71 (nI_add _ 1) rfl (by decide) ?_
            refine z_goto (tgt := 10) dX2_readSequence_74 (by decide) ?_
            rw [g_c_2_readSequence_L, if_pos c20, if_neg c24, if_neg c33, if_pos c43]
            exact ih k (j + 1) ((g_c_2_readValue c (false) S TU).2) TU _ (by first | exact val_sc hS | exact (val_sc hS).of rfl rfl) (by first | omega | assumption) (by first | omega | assumption) (by first | omega | assumption)
          · refine z_iconst (v := 1) dX2_readSequence_46 rfl ?_
            refine z_goto (tgt := 51) dX2_readSequence_47 (by decide) ?_
            refine Z.call0s (zRun.V (ρ := fun i => i) (k_c_2_readValue c (true) S TU hS) dX2_readSequence_51 zy_X2_readValue zm_X2_93 rfl rfl rfl rfl (Nat.le_of_ble_eq_true rfl) (by decide) (by decide)) (zlen2 18 rfl rfl) ?_
            refine z_istore_3 dX2_readSequence_54 rfl (by decide) ?_
            refine z_iload_1 dX2_readSequence_55 ?_
            refine z_bipush (v := 40) dX2_readSequence_56 rfl ?_
            refine z_icmpN_ge_f (tgt := 71) dX2_readSequence_58 (by decide) (x := k) (z := 40) (by first | omega | assumption) (by first | omega | assumption) c43 ?_
            refine z_aload_0 dX2_readSequence_61 ?_
            refine z_get (k := 2) (v := .ref 14) dX2_readSequence_62 rfl rfl rfl (by decide) zf_X2_25 zw_in2 ?_
            refine z_iload_1 dX2_readSequence_65 ?_
            refine z_iload_3 dX2_readSequence_66 ?_
            refine z_iastN (k := k) dX2_readSequence_67 rfl (by first | omega | assumption) (by decide) ?_
            refine Z.heap (h2 := sho 0 (sA 5 (k) ((g_c_2_readValue c (true) S TU).1) (g_c_2_readValue c (true) S TU).2) TU) rfl ?_
            refine z_iinc_1 (v := nI (k + 1)) dX2_readSequence_68 (nI_add _ 1) rfl (by decide) ?_
            refine z_iinc_2 (v := nI (j + 1)) dX2_readSequence_71 (nI_add _ 1) rfl (by decide) ?_
            refine z_goto (tgt := 10) dX2_readSequence_74 (by decide) ?_
            rw [g_c_2_readSequence_L, if_pos c20, if_neg c24, if_neg c33, if_neg c43]
            exact ih (k + 1) (j + 1) (sA 5 (k) ((g_c_2_readValue c (true) S TU).1) (g_c_2_readValue c (true) S TU).2) TU _ (by first | exact val_sc hS | exact (val_sc hS).of rfl rfl) (by first | omega | assumption) (by first | omega | assumption) (by first | omega | assumption)
        · refine z_goto (tgt := 77) dX2_readSequence_36 (by decide) ?_
          refine z_aload_0 dX2_readSequence_77 ?_
          refine z_bipush (v := 6) dX2_readSequence_78 rfl ?_
          refine Z.call0n (zRun.V (ρ := fun i => i) (k_c_2_expect c (6) S TU hS) dX2_readSequence_80 zy_X2_expect zm_X2_90 rfl rfl rfl rfl (Nat.le_of_ble_eq_true rfl) (by decide) (by decide)) (zlen2 18 rfl rfl) ?_
          refine z_aload_0 dX2_readSequence_83 ?_
          refine z_get (k := 5) (v := .int (((g_c_2_expect c (6) S TU)).1 7)) dX2_readSequence_84 rfl rfl rfl (by decide) zf_X2_36 zw_in2 ?_
          refine z_if_ne (tgt := 109) dX2_readSequence_87 (by decide) (fun c87 => ?_) (fun c87 => ?_)
          · rw [g_c_2_readSequence_L, if_pos c20, if_neg c24, if_pos c33, if_neg c87]
            try dsimp only
            exact z_vret dX2_readSequence_109 rfl rfl rfl
          · refine z_aload_0 dX2_readSequence_90 ?_
            refine z_get (k := 0) (v := .ref 1) dX2_readSequence_91 rfl rfl rfl (by decide) zf_X2_12 zw_in2 ?_
            refine Z.shn (sho 0 (g_c_2_expect c (6) S TU) (tClear TU)) (zRun.V (ρ := zsh 1) (k_clearCounters TU) dX2_readSequence_94 zy_X5_clearCounters zm_X2_97 rfl rfl rfl rfl (Nat.le_of_ble_eq_true rfl) (by decide) (by decide) (zsh_fix 1)) (zsh_inj (Nat.le_of_ble_eq_true rfl)) ⟨rfl, rfl, rfl, rfl, rfl, rfl, rfl, rfl, rfl, trivial⟩ (zlen2 9 rfl rfl) rfl ?_
            refine z_aload_0 dX2_readSequence_97 ?_
            refine z_get (k := 0) (v := .ref 1) dX2_readSequence_98 rfl rfl rfl (by decide) zf_X2_12 zw_in2 ?_
            refine z_aload_0 dX2_readSequence_101 ?_
            refine z_get (k := 2) (v := .ref 14) dX2_readSequence_102 rfl rfl rfl (by decide) zf_X2_25 zw_in2 ?_
            refine z_iload_1 dX2_readSequence_105 ?_
            refine Z.shn (sho 0 (g_c_2_expect c (6) S TU) (tBuild (tSz (tClear TU) k (va_cpy (((g_c_2_expect c (6) S TU)).2 5) (tva (tClear TU)) 0 0 k)))) (zRun.V (ρ := zs3 9 1 14) (k_buildFrom (tClear TU) (((g_c_2_expect c (6) S TU)).2 5) k (by first | omega | exact absurd c87 (by rw [exp_err c20]; exact c20)) (by omega)) dX2_readSequence_106 zy_X5_build zm_X2_100 rfl rfl rfl rfl (Nat.le_of_ble_eq_true rfl) (by decide) (by decide) (fun i => zs3_fix _ _ i (by decide))) (zs3_inj (Nat.le_of_ble_eq_true rfl) (Nat.le_of_ble_eq_true rfl) (Or.inl (by decide))) ⟨rfl, rfl, rfl, rfl, rfl, rfl, rfl, rfl, rfl, rfl, trivial⟩ (zlen2 10 rfl rfl) rfl ?_
            rw [g_c_2_readSequence_L, if_pos c20, if_neg c24, if_pos c33, if_pos c87]
            try dsimp only
            exact z_vret dX2_readSequence_109 rfl rfl rfl
noncomputable def g_c_2_readSequence (c : Nat) (S : ZS) (TU : TS) : ZS × TS := g_c_2_readSequence_L c 41 0 0 (g_c_2_expect c (7) S TU) TU
theorem k_c_2_readSequence (c : Nat) (S : ZS) (TU : TS) (hS : scO c S) : zM sc yX2_readSequence cX2_readSequence 4 none 3 0 0 [.ref 0] (sho 0 S TU) (.inl none) (sho 0 (g_c_2_readSequence c S TU).1 (g_c_2_readSequence c S TU).2) := by
  refine zM.at (ls := [some (.ref 0), none, none, none]) zy_X2_readSequence.2.2.2.2.2 (Nat.le_of_ble_eq_true rfl) rfl ?_
  refine z_aload_0 dX2_readSequence_0 ?_
  refine z_bipush (v := 7) dX2_readSequence_1 rfl ?_
  refine Z.call0n (zRun.V (ρ := fun i => i) (k_c_2_expect c (7) S TU hS) dX2_readSequence_3 zy_X2_expect zm_X2_90 rfl rfl rfl rfl (Nat.le_of_ble_eq_true rfl) (by decide) (by decide)) (zlen2 18 rfl rfl) ?_
  refine z_iconst (v := 0) dX2_readSequence_6 rfl ?_
  refine z_istore_1 dX2_readSequence_7 rfl (by decide) ?_
  refine z_iconst (v := 0) dX2_readSequence_8 rfl ?_
  refine z_istore_2 dX2_readSequence_9 rfl (by decide) ?_
  rw [g_c_2_readSequence]
  exact l_g_c_2_readSequence_L c 41 0 0 (g_c_2_expect c (7) S TU) TU _ (exp_sc hS (by decide)) (by first | omega | assumption) (by first | omega | assumption) (by first | omega | assumption)
