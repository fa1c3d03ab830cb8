variable {sc : SC}

noncomputable def g_c_4_spells_L (t : Nat) (a : Nat) (e : Nat) (w : Nat) : Nat → Nat → ZS → Bool
  | 0, _, _ => true
  | fu + 1, k, S => (if (g_c_3_byteAt t (a + k) S) = (zby w).getD k 0 then g_c_4_spells_L t a e w fu (k + 1) S else false)
theorem l_g_c_4_spells_L (t : Nat) (a : Nat) (e : Nat) (w : Nat) : ∀ (fu : Nat) (k : Nat) (S : ZS) , (S.1 2 = nI t) → (t ≤ 600) → (w < 29) → (a ≤ e) → (e ≤ t) → (k + fu = (zby w).length) → Z sc yX4_spells cX4_spells 5 (some .boolean) 4 0 0 15 [some (.ref 0), some (.int (nI (a))), some (.int (nI (e))), some (.ref (1000000 + w)), some (.int (nI (k)))] [] (xho 0 S) (.inl (some (.int (zb (g_c_4_spells_L t a e w fu k S))))) (xho 0 S) := by
  intro fu
  induction fu with
  | zero =>
    intro k S ht h6 hw hae het hk
    have hl := zby_len hw
    refine z_iload_4 dX4_spells_15 ?_
    refine z_aload_3 dX4_spells_17 ?_
    refine Z.callE (zRun.VT (ρ := fun i => i) (k_slenT (by first | omega | assumption)) dX4_spells_18 zy_J0_length_8abf5 zm_X4_89 rfl (zStr_at (by first | omega | assumption)) rfl rfl (Nat.le_of_ble_eq_true rfl) (by decide) (by decide)) ?_
    refine z_icmpN_ge_t (tgt := 49) dX4_spells_21 (by decide) (x := k) (z := (zby w).length) (by first | omega | assumption) (by first | omega | assumption) (by omega) ?_
    refine z_iconst (v := 1) dX4_spells_49 rfl ?_
    rw [g_c_4_spells_L]
    exact z_iret dX4_spells_50 rfl rfl rfl rfl
  | succ fu ih =>
    intro k S ht h6 hw hae het hk
    have hl := zby_len hw
    refine z_iload_4 dX4_spells_15 ?_
    refine z_aload_3 dX4_spells_17 ?_
    refine Z.callE (zRun.VT (ρ := fun i => i) (k_slenT (by first | omega | assumption)) dX4_spells_18 zy_J0_length_8abf5 zm_X4_89 rfl (zStr_at (by first | omega | assumption)) rfl rfl (Nat.le_of_ble_eq_true rfl) (by decide) (by decide)) ?_
    refine z_icmpN_ge_f (tgt := 49) dX4_spells_21 (by decide) (x := k) (z := (zby w).length) (by first | omega | assumption) (by first | omega | assumption) (by omega) ?_
    refine z_aload_0 dX4_spells_24 ?_
    refine z_iload_1 dX4_spells_25 ?_
    refine z_iload_4 dX4_spells_26 ?_
    refine z_iadd dX4_spells_28 ?_
    refine z_topi (w := nI (a + k)) (nI_add _ _) ?_
    refine Z.call0s (zRun.V (ρ := fun i => i) (k_c_3_byteAt t (a + k) S ht h6 (by omega)) dX4_spells_29 zy_X3_byteAt zm_X4_31 rfl rfl rfl rfl (Nat.le_of_ble_eq_true rfl) (by decide) (by decide)) (zlen2 2 rfl rfl) ?_
    refine z_aload_3 dX4_spells_32 ?_
    refine z_iload_4 dX4_spells_33 ?_
    refine Z.callE (zRun.VT (ρ := fun i => i) (k_scharT (by first | omega | assumption) (by first | omega | assumption)) dX4_spells_35 zy_J0_charAt_5068e zm_X4_92 rfl (zStr_at (by first | omega | assumption)) rfl rfl (Nat.le_of_ble_eq_true rfl) (by decide) (by decide)) ?_
    refine z_icmp_eq (tgt := 43) dX4_spells_38 (by decide) (fun c38 => ?_) (fun c38 => ?_)
    · refine z_iinc_4 (v := nI (k + 1)) dX4_spells_43 (nI_add _ 1) rfl (by decide) ?_
      refine z_goto (tgt := 15) dX4_spells_46 (by decide) ?_
      have hl := zby_len hw
      rw [g_c_4_spells_L, if_pos c38]
      exact ih (k + 1) S ht h6 (by first | omega | assumption) (by first | omega | assumption) (by first | omega | assumption) (by first | omega | assumption)
    · refine z_iconst (v := 0) dX4_spells_41 rfl ?_
      rw [g_c_4_spells_L, if_neg c38]
      exact z_iret dX4_spells_42 rfl rfl rfl rfl
noncomputable def g_c_4_spells (t : Nat) (a : Nat) (e : Nat) (w : Nat) (S : ZS) : Bool := (if e - a = (zby w).length then g_c_4_spells_L t a e w ((zby w).length) 0 S else false)
theorem k_c_4_spells (t : Nat) (a : Nat) (e : Nat) (w : Nat) (S : ZS) (ht : S.1 2 = nI t) (h6 : t ≤ 600) (hw : w < 29) (hae : a ≤ e) (het : e ≤ t) : zM sc yX4_spells cX4_spells 5 (some .boolean) 4 0 0 [.ref 0, .int (nI (a)), .int (nI (e)), .ref (1000000 + w)] (xho 0 S) (.inl (some (.int (zb (g_c_4_spells t a e w S))))) (xho 0 S) := by
  refine zM.at (ls := [some (.ref 0), some (.int (nI (a))), some (.int (nI (e))), some (.ref (1000000 + w)), none]) zy_X4_spells.2.2.2.2 (Nat.le_of_ble_eq_true rfl) rfl ?_
  have hl := zby_len hw
  refine z_iload_2 dX4_spells_0 ?_
  refine z_iload_1 dX4_spells_1 ?_
  refine z_isub dX4_spells_2 ?_
  refine z_topi (w := nI (e - a)) (pk_sub (a := e) (b := a) (by first | omega | assumption)) ?_
  refine z_aload_3 dX4_spells_3 ?_
  refine Z.callE (zRun.VT (ρ := fun i => i) (k_slenT (by first | omega | assumption)) dX4_spells_4 zy_J0_length_8abf5 zm_X4_89 rfl (zStr_at (by first | omega | assumption)) rfl rfl (Nat.le_of_ble_eq_true rfl) (by decide) (by decide)) ?_
  refine z_icmpN_eq (tgt := 12) dX4_spells_7 (by decide) (x := e - a) (z := (zby w).length) (by first | omega | assumption) (by first | omega | assumption) (fun c7 => ?_) (fun c7 => ?_)
  · refine z_iconst (v := 0) dX4_spells_12 rfl ?_
    refine z_istore_4 dX4_spells_13 rfl (by decide) ?_
    rw [g_c_4_spells, if_pos c7]
    exact l_g_c_4_spells_L t a e w ((zby w).length) 0 S ht h6 (by first | omega | assumption) (by first | omega | assumption) (by first | omega | assumption) (by first | omega | assumption)
  · refine z_iconst (v := 0) dX4_spells_10 rfl ?_
    rw [g_c_4_spells, if_neg c7]
    exact z_iret dX4_spells_11 rfl rfl rfl rfl
noncomputable def g_c_4_codeOfWord (t : Nat) (a : Nat) (e : Nat) (S : ZS) : Int32 := (if ((g_c_4_spells t a e 0 S)) = true then 7 else (if ((g_c_4_spells t a e 1 S)) = true then 8 else (if ((g_c_4_spells t a e 2 S)) = true then 9 else (if ((g_c_4_spells t a e 3 S)) = true then 10 else (if ((g_c_4_spells t a e 4 S)) = true then 11 else (if ((g_c_4_spells t a e 5 S)) = true then 12 else (if ((g_c_4_spells t a e 6 S)) = true then 13 else (if ((g_c_4_spells t a e 7 S)) = true then 14 else (if ((g_c_4_spells t a e 8 S)) = true then 15 else 1)))))))))
theorem k_c_4_codeOfWord (t : Nat) (a : Nat) (e : Nat) (S : ZS) (ht : S.1 2 = nI t) (h6 : t ≤ 600) (hae : a ≤ e) (het : e ≤ t) : zM sc yX4_codeOfWord cX4_codeOfWord 3 (some .int) 5 0 0 [.ref 0, .int (nI (a)), .int (nI (e))] (xho 0 S) (.inl (some (.int (g_c_4_codeOfWord t a e S)))) (xho 0 S) := by
  refine zM.at (ls := [some (.ref 0), some (.int (nI (a))), some (.int (nI (e)))]) zy_X4_codeOfWord.2.2.2.2 (Nat.le_of_ble_eq_true rfl) rfl ?_
  refine z_aload_0 dX4_codeOfWord_0 ?_
  refine z_iload_1 dX4_codeOfWord_1 ?_
  refine z_iload_2 dX4_codeOfWord_2 ?_
  refine z_ldcStr (i := 0) dX4_codeOfWord_3 rfl ?_
  refine Z.call0s (zRun.S (ρ := fun i => i) (k_c_4_spells t a e 0 S ht h6 (by decide) hae het) dX4_codeOfWord_5 zy_X4_spells zm_X4_69 rfl rfl (Nat.le_of_ble_eq_true rfl) (by decide) (by decide)) (zlen2 2 rfl rfl) ?_
  refine z_ifB_eq (tgt := 14) dX4_codeOfWord_8 (by decide) (fun c8 => ?_) (fun c8 => ?_)
  · refine z_aload_0 dX4_codeOfWord_14 ?_
    refine z_iload_1 dX4_codeOfWord_15 ?_
    refine z_iload_2 dX4_codeOfWord_16 ?_
    refine z_ldcStr (i := 1) dX4_codeOfWord_17 rfl ?_
    refine Z.call0s (zRun.S (ρ := fun i => i) (k_c_4_spells t a e 1 S ht h6 (by decide) hae het) dX4_codeOfWord_19 zy_X4_spells zm_X4_69 rfl rfl (Nat.le_of_ble_eq_true rfl) (by decide) (by decide)) (zlen2 2 rfl rfl) ?_
    refine z_ifB_eq (tgt := 28) dX4_codeOfWord_22 (by decide) (fun c22 => ?_) (fun c22 => ?_)
    · refine z_aload_0 dX4_codeOfWord_28 ?_
      refine z_iload_1 dX4_codeOfWord_29 ?_
      refine z_iload_2 dX4_codeOfWord_30 ?_
      refine z_ldcStr (i := 2) dX4_codeOfWord_31 rfl ?_
      refine Z.call0s (zRun.S (ρ := fun i => i) (k_c_4_spells t a e 2 S ht h6 (by decide) hae het) dX4_codeOfWord_33 zy_X4_spells zm_X4_69 rfl rfl (Nat.le_of_ble_eq_true rfl) (by decide) (by decide)) (zlen2 2 rfl rfl) ?_
      refine z_ifB_eq (tgt := 42) dX4_codeOfWord_36 (by decide) (fun c36 => ?_) (fun c36 => ?_)
      · refine z_aload_0 dX4_codeOfWord_42 ?_
        refine z_iload_1 dX4_codeOfWord_43 ?_
        refine z_iload_2 dX4_codeOfWord_44 ?_
        refine z_ldcStr (i := 3) dX4_codeOfWord_45 rfl ?_
        refine Z.call0s (zRun.S (ρ := fun i => i) (k_c_4_spells t a e 3 S ht h6 (by decide) hae het) dX4_codeOfWord_47 zy_X4_spells zm_X4_69 rfl rfl (Nat.le_of_ble_eq_true rfl) (by decide) (by decide)) (zlen2 2 rfl rfl) ?_
        refine z_ifB_eq (tgt := 56) dX4_codeOfWord_50 (by decide) (fun c50 => ?_) (fun c50 => ?_)
        · refine z_aload_0 dX4_codeOfWord_56 ?_
          refine z_iload_1 dX4_codeOfWord_57 ?_
          refine z_iload_2 dX4_codeOfWord_58 ?_
          refine z_ldcStr (i := 4) dX4_codeOfWord_59 rfl ?_
          refine Z.call0s (zRun.S (ρ := fun i => i) (k_c_4_spells t a e 4 S ht h6 (by decide) hae het) dX4_codeOfWord_61 zy_X4_spells zm_X4_69 rfl rfl (Nat.le_of_ble_eq_true rfl) (by decide) (by decide)) (zlen2 2 rfl rfl) ?_
          refine z_ifB_eq (tgt := 70) dX4_codeOfWord_64 (by decide) (fun c64 => ?_) (fun c64 => ?_)
          · refine z_aload_0 dX4_codeOfWord_70 ?_
            refine z_iload_1 dX4_codeOfWord_71 ?_
            refine z_iload_2 dX4_codeOfWord_72 ?_
            refine z_ldcStr (i := 5) dX4_codeOfWord_73 rfl ?_
            refine Z.call0s (zRun.S (ρ := fun i => i) (k_c_4_spells t a e 5 S ht h6 (by decide) hae het) dX4_codeOfWord_75 zy_X4_spells zm_X4_69 rfl rfl (Nat.le_of_ble_eq_true rfl) (by decide) (by decide)) (zlen2 2 rfl rfl) ?_
            refine z_ifB_eq (tgt := 84) dX4_codeOfWord_78 (by decide) (fun c78 => ?_) (fun c78 => ?_)
            · refine z_aload_0 dX4_codeOfWord_84 ?_
              refine z_iload_1 dX4_codeOfWord_85 ?_
              refine z_iload_2 dX4_codeOfWord_86 ?_
              refine z_ldcStr (i := 6) dX4_codeOfWord_87 rfl ?_
              refine Z.call0s (zRun.S (ρ := fun i => i) (k_c_4_spells t a e 6 S ht h6 (by decide) hae het) dX4_codeOfWord_89 zy_X4_spells zm_X4_69 rfl rfl (Nat.le_of_ble_eq_true rfl) (by decide) (by decide)) (zlen2 2 rfl rfl) ?_
              refine z_ifB_eq (tgt := 98) dX4_codeOfWord_92 (by decide) (fun c92 => ?_) (fun c92 => ?_)
              · refine z_aload_0 dX4_codeOfWord_98 ?_
                refine z_iload_1 dX4_codeOfWord_99 ?_
                refine z_iload_2 dX4_codeOfWord_100 ?_
                refine z_ldcStr (i := 7) dX4_codeOfWord_101 rfl ?_
                refine Z.call0s (zRun.S (ρ := fun i => i) (k_c_4_spells t a e 7 S ht h6 (by decide) hae het) dX4_codeOfWord_103 zy_X4_spells zm_X4_69 rfl rfl (Nat.le_of_ble_eq_true rfl) (by decide) (by decide)) (zlen2 2 rfl rfl) ?_
                refine z_ifB_eq (tgt := 112) dX4_codeOfWord_106 (by decide) (fun c106 => ?_) (fun c106 => ?_)
                · refine z_aload_0 dX4_codeOfWord_112 ?_
                  refine z_iload_1 dX4_codeOfWord_113 ?_
                  refine z_iload_2 dX4_codeOfWord_114 ?_
                  refine z_ldcStr (i := 8) dX4_codeOfWord_115 rfl ?_
                  refine Z.call0s (zRun.S (ρ := fun i => i) (k_c_4_spells t a e 8 S ht h6 (by decide) hae het) dX4_codeOfWord_117 zy_X4_spells zm_X4_69 rfl rfl (Nat.le_of_ble_eq_true rfl) (by decide) (by decide)) (zlen2 2 rfl rfl) ?_
                  refine z_ifB_eq (tgt := 128) dX4_codeOfWord_120 (by decide) (fun c120 => ?_) (fun c120 => ?_)
                  · refine z_iconst (v := 1) dX4_codeOfWord_128 rfl ?_
                    rw [g_c_4_codeOfWord, if_neg c8, if_neg c22, if_neg c36, if_neg c50, if_neg c64, if_neg c78, if_neg c92, if_neg c106, if_neg c120]
                    exact z_iret dX4_codeOfWord_129 rfl rfl rfl rfl
                  · refine z_bipush (v := 15) dX4_codeOfWord_123 rfl ?_
                    refine z_goto (tgt := 129) dX4_codeOfWord_125 (by decide) ?_
                    rw [g_c_4_codeOfWord, if_neg c8, if_neg c22, if_neg c36, if_neg c50, if_neg c64, if_neg c78, if_neg c92, if_neg c106, if_pos c120]
                    exact z_iret dX4_codeOfWord_129 rfl rfl rfl rfl
                · refine z_bipush (v := 14) dX4_codeOfWord_109 rfl ?_
                  rw [g_c_4_codeOfWord, if_neg c8, if_neg c22, if_neg c36, if_neg c50, if_neg c64, if_neg c78, if_neg c92, if_pos c106]
                  exact z_iret dX4_codeOfWord_111 rfl rfl rfl rfl
              · refine z_bipush (v := 13) dX4_codeOfWord_95 rfl ?_
                rw [g_c_4_codeOfWord, if_neg c8, if_neg c22, if_neg c36, if_neg c50, if_neg c64, if_neg c78, if_pos c92]
                exact z_iret dX4_codeOfWord_97 rfl rfl rfl rfl
            · refine z_bipush (v := 12) dX4_codeOfWord_81 rfl ?_
              rw [g_c_4_codeOfWord, if_neg c8, if_neg c22, if_neg c36, if_neg c50, if_neg c64, if_pos c78]
              exact z_iret dX4_codeOfWord_83 rfl rfl rfl rfl
          · refine z_bipush (v := 11) dX4_codeOfWord_67 rfl ?_
            rw [g_c_4_codeOfWord, if_neg c8, if_neg c22, if_neg c36, if_neg c50, if_pos c64]
            exact z_iret dX4_codeOfWord_69 rfl rfl rfl rfl
        · refine z_bipush (v := 10) dX4_codeOfWord_53 rfl ?_
          rw [g_c_4_codeOfWord, if_neg c8, if_neg c22, if_neg c36, if_pos c50]
          exact z_iret dX4_codeOfWord_55 rfl rfl rfl rfl
      · refine z_bipush (v := 9) dX4_codeOfWord_39 rfl ?_
        rw [g_c_4_codeOfWord, if_neg c8, if_neg c22, if_pos c36]
        exact z_iret dX4_codeOfWord_41 rfl rfl rfl rfl
    · refine z_bipush (v := 8) dX4_codeOfWord_25 rfl ?_
      rw [g_c_4_codeOfWord, if_neg c8, if_pos c22]
      exact z_iret dX4_codeOfWord_27 rfl rfl rfl rfl
  · refine z_bipush (v := 7) dX4_codeOfWord_11 rfl ?_
    rw [g_c_4_codeOfWord, if_pos c8]
    exact z_iret dX4_codeOfWord_13 rfl rfl rfl rfl
noncomputable def g_c_4_numberOf_L (t : Nat) (a : Nat) (e : Nat) : Nat → Nat → Int32 → ZS → Int32
  | 0, _, v, _ => v
  | fu + 1, k, v, S => g_c_4_numberOf_L t a e fu (k + 1) (((10 * v) + (g_c_3_byteAt t k S)) - 48) S
theorem l_g_c_4_numberOf_L (t : Nat) (a : Nat) (e : Nat) : ∀ (fu : Nat) (k : Nat) (v : Int32) (S : ZS) , (S.1 2 = nI t) → (t ≤ 600) → (e ≤ t) → (k + fu = e) → Z sc yX4_numberOf cX4_numberOf 5 (some .int) 1 0 0 5 [some (.ref 0), some (.int (nI (a))), some (.int (nI (e))), some (.int (v)), some (.int (nI (k)))] [] (xho 0 S) (.inl (some (.int (g_c_4_numberOf_L t a e fu k v S)))) (xho 0 S) := by
  intro fu
  induction fu with
  | zero =>
    intro k v S ht h6 het hk
    refine z_iload_4 dX4_numberOf_5 ?_
    refine z_iload_2 dX4_numberOf_7 ?_
    refine z_icmpN_ge_t (tgt := 32) dX4_numberOf_8 (by decide) (x := k) (z := e) (by first | omega | assumption) (by first | omega | assumption) (by omega) ?_
    refine z_iload_3 dX4_numberOf_32 ?_
    rw [g_c_4_numberOf_L]
    exact z_iret dX4_numberOf_33 rfl rfl rfl rfl
  | succ fu ih =>
    intro k v S ht h6 het hk
    refine z_iload_4 dX4_numberOf_5 ?_
    refine z_iload_2 dX4_numberOf_7 ?_
    refine z_icmpN_ge_f (tgt := 32) dX4_numberOf_8 (by decide) (x := k) (z := e) (by first | omega | assumption) (by first | omega | assumption) (by omega) ?_
    refine z_bipush (v := 10) dX4_numberOf_11 rfl ?_
    refine z_iload_3 dX4_numberOf_13 ?_
    refine z_imul dX4_numberOf_14 ?_
    refine z_aload_0 dX4_numberOf_15 ?_
    refine z_iload_4 dX4_numberOf_16 ?_
    refine Z.call0s (zRun.V (ρ := fun i => i) (k_c_3_byteAt t k S ht h6 (by omega)) dX4_numberOf_18 zy_X3_byteAt zm_X4_31 rfl rfl rfl rfl (Nat.le_of_ble_eq_true rfl) (by decide) (by decide)) (zlen2 2 rfl rfl) ?_
    refine z_iadd dX4_numberOf_21 ?_
    refine z_bipush (v := 48) dX4_numberOf_22 rfl ?_
    refine z_isub dX4_numberOf_24 ?_
    refine z_istore_3 dX4_numberOf_25 rfl (by decide) ?_
    refine z_iinc_4 (v := nI (k + 1)) dX4_numberOf_26 (nI_add _ 1) rfl (by decide) ?_
    refine z_goto (tgt := 5) dX4_numberOf_29 (by decide) ?_
    rw [g_c_4_numberOf_L]
    exact ih (k + 1) (((10 * v) + (g_c_3_byteAt t k S)) - 48) S ht h6 (by first | omega | assumption) (by first | omega | assumption)
noncomputable def g_c_4_numberOf (t : Nat) (a : Nat) (e : Nat) (S : ZS) : Int32 := g_c_4_numberOf_L t a e (e - a) a 0 S
theorem k_c_4_numberOf (t : Nat) (a : Nat) (e : Nat) (S : ZS) (ht : S.1 2 = nI t) (h6 : t ≤ 600) (hae : a ≤ e) (het : e ≤ t) : zM sc yX4_numberOf cX4_numberOf 5 (some .int) 1 0 0 [.ref 0, .int (nI (a)), .int (nI (e))] (xho 0 S) (.inl (some (.int (g_c_4_numberOf t a e S)))) (xho 0 S) := by
  refine zM.at (ls := [some (.ref 0), some (.int (nI (a))), some (.int (nI (e))), none, none]) zy_X4_numberOf.2.2.2.2 (Nat.le_of_ble_eq_true rfl) rfl ?_
  refine z_iconst (v := 0) dX4_numberOf_0 rfl ?_
  refine z_istore_3 dX4_numberOf_1 rfl (by decide) ?_
  refine z_iload_1 dX4_numberOf_2 ?_
  refine z_istore_4 dX4_numberOf_3 rfl (by decide) ?_
  rw [g_c_4_numberOf]
  exact l_g_c_4_numberOf_L t a e (e - a) a 0 S ht h6 (by first | omega | assumption) (by first | omega | assumption)
noncomputable def g_c_4_endOfToken_L (t : Nat) (a : Nat) : Nat → Nat → Bool → ZS → Nat
  | 0, _, _, _ => t
  | fu + 1, k, b, S => (if b = true then (if ((g_c_4_isLetter ((g_c_3_byteAt t k S)))) = true then g_c_4_endOfToken_L t a fu (k + 1) b S else k) else (if ((g_c_4_isDigit ((g_c_3_byteAt t k S)))) = true then g_c_4_endOfToken_L t a fu (k + 1) b S else k))
theorem l_g_c_4_endOfToken_L (t : Nat) (a : Nat) : ∀ (fu : Nat) (k : Nat) (b : Bool) (S : ZS) (j2 j5 : Option Value), (S.1 2 = nI t) → (t ≤ 600) → (k + fu = t) → Z sc yX4_endOfToken cX4_endOfToken 6 (some .int) 1 0 0 31 [some (.ref 0), some (.int (nI (a))), j2, some (.int (zb (b))), some (.int (nI (k))), j5] [] (xho 0 S) (.inl (some (.int (nI (g_c_4_endOfToken_L t a fu k b S))))) (xho 0 S) := by
  intro fu
  induction fu with
  | zero =>
    intro k b S j2 j5 ht h6 hk
    refine z_iload_4 dX4_endOfToken_31 ?_
    refine z_aload_0 dX4_endOfToken_33 ?_
    refine Z.call0s (zRun.V (ρ := fun i => i) (k_c_3_length S ) dX4_endOfToken_34 zy_X3_length zm_X4_25 rfl rfl rfl rfl (Nat.le_of_ble_eq_true rfl) (by decide) (by decide)) (zlen2 2 rfl rfl) ?_
    refine z_topi (w := nI (t)) ht ?_
    refine z_icmpN_ge_t (tgt := 80) dX4_endOfToken_37 (by decide) (x := k) (z := t) (by first | omega | assumption) (by first | omega | assumption) (by omega) ?_
    refine z_aload_0 dX4_endOfToken_80 ?_
    refine Z.call0s (zRun.V (ρ := fun i => i) (k_c_3_length S ) dX4_endOfToken_81 zy_X3_length zm_X4_25 rfl rfl rfl rfl (Nat.le_of_ble_eq_true rfl) (by decide) (by decide)) (zlen2 2 rfl rfl) ?_
    refine z_topi (w := nI (t)) ht ?_
    rw [g_c_4_endOfToken_L]
    exact z_iret dX4_endOfToken_84 rfl rfl rfl rfl
  | succ fu ih =>
    intro k b S j2 j5 ht h6 hk
    refine z_iload_4 dX4_endOfToken_31 ?_
    refine z_aload_0 dX4_endOfToken_33 ?_
    refine Z.call0s (zRun.V (ρ := fun i => i) (k_c_3_length S ) dX4_endOfToken_34 zy_X3_length zm_X4_25 rfl rfl rfl rfl (Nat.le_of_ble_eq_true rfl) (by decide) (by decide)) (zlen2 2 rfl rfl) ?_
    refine z_topi (w := nI (t)) ht ?_
    refine z_icmpN_ge_f (tgt := 80) dX4_endOfToken_37 (by decide) (x := k) (z := t) (by first | omega | assumption) (by first | omega | assumption) (by omega) ?_
    refine z_aload_0 dX4_endOfToken_40 ?_
    refine z_iload_4 dX4_endOfToken_41 ?_
    refine Z.call0s (zRun.V (ρ := fun i => i) (k_c_3_byteAt t k S ht h6 (by omega)) dX4_endOfToken_43 zy_X3_byteAt zm_X4_31 rfl rfl rfl rfl (Nat.le_of_ble_eq_true rfl) (by decide) (by decide)) (zlen2 2 rfl rfl) ?_
    refine z_istore_5 dX4_endOfToken_46 rfl (by decide) ?_
    refine z_iload_3 dX4_endOfToken_48 ?_
    refine z_ifB_eq (tgt := 63) dX4_endOfToken_49 (by decide) (fun c49 => ?_) (fun c49 => ?_)
    · refine z_iload_5 dX4_endOfToken_63 ?_
      refine Z.callE (zRun.S (ρ := fun i => i) (k_c_4_isDigit ((g_c_3_byteAt t k S)) ) dX4_endOfToken_65 zy_X4_isDigit zm_X4_54 rfl rfl (Nat.le_of_ble_eq_true rfl) (by decide) (by decide)) ?_
      refine z_ifB_ne (tgt := 74) dX4_endOfToken_68 (by decide) (fun c68 => ?_) (fun c68 => ?_)
      · refine z_iinc_4 (v := nI (k + 1)) dX4_endOfToken_74 (nI_add _ 1) rfl (by decide) ?_
        refine z_goto (tgt := 31) dX4_endOfToken_77 (by decide) ?_
        rw [g_c_4_endOfToken_L, if_neg c49, if_pos c68]
        exact ih (k + 1) b S _ _ ht h6 (by first | omega | assumption)
      · refine z_iload_4 dX4_endOfToken_71 ?_
        rw [g_c_4_endOfToken_L, if_neg c49, if_neg c68]
        exact z_iret dX4_endOfToken_73 rfl rfl rfl rfl
    · refine z_iload_5 dX4_endOfToken_52 ?_
      refine Z.callE (zRun.S (ρ := fun i => i) (k_c_4_isLetter ((g_c_3_byteAt t k S)) ) dX4_endOfToken_54 zy_X4_isLetter zm_X4_51 rfl rfl (Nat.le_of_ble_eq_true rfl) (by decide) (by decide)) ?_
      refine z_ifB_ne (tgt := 74) dX4_endOfToken_57 (by decide) (fun c57 => ?_) (fun c57 => ?_)
      · refine z_iinc_4 (v := nI (k + 1)) dX4_endOfToken_74 (nI_add _ 1) rfl (by decide) ?_
        refine z_goto (tgt := 31) dX4_endOfToken_77 (by decide) ?_
        rw [g_c_4_endOfToken_L, if_pos c49, if_pos c57]
        exact ih (k + 1) b S _ _ ht h6 (by first | omega | assumption)
      · refine z_goto (tgt := 71) dX4_endOfToken_60 (by decide) ?_
        refine z_iload_4 dX4_endOfToken_71 ?_
        rw [g_c_4_endOfToken_L, if_pos c49, if_neg c57]
        exact z_iret dX4_endOfToken_73 rfl rfl rfl rfl
noncomputable def g_c_4_endOfToken (t : Nat) (a : Nat) (S : ZS) : Nat := (if ((g_c_4_isLetter ((g_c_3_byteAt t a S)))) = true then g_c_4_endOfToken_L t a (t - (a + 1)) (a + 1) (g_c_4_isLetter ((g_c_3_byteAt t a S))) S else (if ((g_c_4_isDigit ((g_c_3_byteAt t a S)))) = true then g_c_4_endOfToken_L t a (t - (a + 1)) (a + 1) (g_c_4_isLetter ((g_c_3_byteAt t a S))) S else a + 1))
theorem k_c_4_endOfToken (t : Nat) (a : Nat) (S : ZS) (ht : S.1 2 = nI t) (h6 : t ≤ 600) (hat : a < t) : zM sc yX4_endOfToken cX4_endOfToken 6 (some .int) 1 0 0 [.ref 0, .int (nI (a))] (xho 0 S) (.inl (some (.int (nI (g_c_4_endOfToken t a S))))) (xho 0 S) := by
  refine zM.at (ls := [some (.ref 0), some (.int (nI (a))), none, none, none, none]) zy_X4_endOfToken.2.2.2.2 (Nat.le_of_ble_eq_true rfl) rfl ?_
  refine z_aload_0 dX4_endOfToken_0 ?_
  refine z_iload_1 dX4_endOfToken_1 ?_
  refine Z.call0s (zRun.V (ρ := fun i => i) (k_c_3_byteAt t a S ht h6 (by omega)) dX4_endOfToken_2 zy_X3_byteAt zm_X4_31 rfl rfl rfl rfl (Nat.le_of_ble_eq_true rfl) (by decide) (by decide)) (zlen2 2 rfl rfl) ?_
  refine z_istore_2 dX4_endOfToken_5 rfl (by decide) ?_
  refine z_iload_2 dX4_endOfToken_6 ?_
  refine Z.callE (zRun.S (ρ := fun i => i) (k_c_4_isLetter ((g_c_3_byteAt t a S)) ) dX4_endOfToken_7 zy_X4_isLetter zm_X4_51 rfl rfl (Nat.le_of_ble_eq_true rfl) (by decide) (by decide)) ?_
  refine z_istore_3 dX4_endOfToken_10 rfl (by decide) ?_
  refine z_iload_3 dX4_endOfToken_11 ?_
  refine z_ifB_ne (tgt := 26) dX4_endOfToken_12 (by decide) (fun c12 => ?_) (fun c12 => ?_)
  · refine z_iload_1 dX4_endOfToken_26 ?_
    refine z_iconst (v := 1) dX4_endOfToken_27 rfl ?_
    refine z_iadd dX4_endOfToken_28 ?_
    refine z_topi (w := nI (a + 1)) (nI_add _ _) ?_
    refine z_istore_4 dX4_endOfToken_29 rfl (by decide) ?_
    rw [g_c_4_endOfToken, if_pos c12]
    exact l_g_c_4_endOfToken_L t a (t - (a + 1)) (a + 1) (g_c_4_isLetter ((g_c_3_byteAt t a S))) S _ _ ht h6 (by first | omega | assumption)
  · refine z_iload_2 dX4_endOfToken_15 ?_
    refine Z.callE (zRun.S (ρ := fun i => i) (k_c_4_isDigit ((g_c_3_byteAt t a S)) ) dX4_endOfToken_16 zy_X4_isDigit zm_X4_54 rfl rfl (Nat.le_of_ble_eq_true rfl) (by decide) (by decide)) ?_
    refine z_ifB_ne (tgt := 26) dX4_endOfToken_19 (by decide) (fun c19 => ?_) (fun c19 => ?_)
    · refine z_iload_1 dX4_endOfToken_26 ?_
      refine z_iconst (v := 1) dX4_endOfToken_27 rfl ?_
      refine z_iadd dX4_endOfToken_28 ?_
      refine z_topi (w := nI (a + 1)) (nI_add _ _) ?_
      refine z_istore_4 dX4_endOfToken_29 rfl (by decide) ?_
      rw [g_c_4_endOfToken, if_neg c12, if_pos c19]
      exact l_g_c_4_endOfToken_L t a (t - (a + 1)) (a + 1) (g_c_4_isLetter ((g_c_3_byteAt t a S))) S _ _ ht h6 (by first | omega | assumption)
    · refine z_iload_1 dX4_endOfToken_22 ?_
      refine z_iconst (v := 1) dX4_endOfToken_23 rfl ?_
      refine z_iadd dX4_endOfToken_24 ?_
      refine z_topi (w := nI (a + 1)) (nI_add _ _) ?_
      rw [g_c_4_endOfToken, if_neg c12, if_neg c19]
      exact z_iret dX4_endOfToken_25 rfl rfl rfl rfl
theorem eotL_in {t a : Nat} {S : ZS} : ∀ fu k b, k + fu = t → k ≤ g_c_4_endOfToken_L t a fu k b S ∧ g_c_4_endOfToken_L t a fu k b S ≤ t := by
  intro fu
  induction fu with
  | zero => intro k b h; rw [g_c_4_endOfToken_L]; omega
  | succ fu ih =>
    intro k b h
    have h1 := ih (k + 1) b (by omega)
    rw [g_c_4_endOfToken_L]
    split
    · split
      · omega
      · omega
    · split
      · omega
      · omega
theorem eot_in {t a : Nat} {S : ZS} (h : a < t) : a < g_c_4_endOfToken t a S ∧ g_c_4_endOfToken t a S ≤ t := by
  have h1 := fun b => eotL_in (S := S) (a := a) (t - (a + 1)) (a + 1) b (show a + 1 + (t - (a + 1)) = t by omega)
  rw [g_c_4_endOfToken]
  split
  · have := h1 (g_c_4_isLetter (g_c_3_byteAt t a S)); omega
  · split
    · have := h1 (g_c_4_isLetter (g_c_3_byteAt t a S)); omega
    · omega
/-- the tokens and the text -/
def kxh (S X : ZS) : List zO := kho 0 S ++ xho 4 X
noncomputable def g_c_4_take (t : Nat) (c : Nat) (a : Nat) (e : Nat) (S : ZS) (X : ZS) : ZS := (if ((g_c_4_isLetter ((g_c_3_byteAt t a X)))) = true then (g_c_4_put c ((g_c_4_codeOfWord t a e X)) (nI (a)) (0) S) else (if ((g_c_4_isDigit ((g_c_3_byteAt t a X)))) = true then (if e - a ≤ 4 then (g_c_4_put c (2) (nI (a)) ((g_c_4_numberOf t a e X)) S) else (g_c_4_put c (1) (nI (a)) (0) S)) else (g_c_4_put c ((g_c_4_codeOfSign ((g_c_3_byteAt t a X)))) (nI (a)) (0) S)))
theorem k_c_4_take (t : Nat) (c : Nat) (a : Nat) (e : Nat) (S : ZS) (X : ZS) (ht : X.1 2 = nI t) (h6 : t ≤ 600) (hc : S.1 4 = nI c) (hc6 : c < 601) (hae : a < e) (het : e ≤ t) : zM sc yX4_take cX4_take 5 none 6 0 0 [.ref 0, .ref 4, .int (nI (a)), .int (nI (e))] (kxh S X) (.inl none) (kxh (g_c_4_take t c a e S X) X) := by
  refine zM.at (ls := [some (.ref 0), some (.ref 4), some (.int (nI (a))), some (.int (nI (e))), none]) zy_X4_take.2.2.2.2.2 (Nat.le_of_ble_eq_true rfl) rfl ?_
  refine z_aload_1 dX4_take_0 ?_
  refine z_iload_2 dX4_take_1 ?_
  refine Z.shs (kxh S X) (zRun.V (ρ := zsh 4) (k_c_3_byteAt t a X ht h6 (by omega)) dX4_take_2 zy_X3_byteAt zm_X4_31 rfl rfl rfl rfl (Nat.le_of_ble_eq_true rfl) (by decide) (by decide) (zsh_fix 4)) (zsh_inj (Nat.le_of_ble_eq_true rfl)) ⟨rfl, rfl, trivial⟩ (zlen2 2 rfl rfl) rfl rfl ?_
  refine z_istore_4 dX4_take_5 rfl (by decide) ?_
  refine z_iload_4 dX4_take_7 ?_
  refine Z.callE (zRun.S (ρ := fun i => i) (k_c_4_isLetter ((g_c_3_byteAt t a X)) ) dX4_take_9 zy_X4_isLetter zm_X4_51 rfl rfl (Nat.le_of_ble_eq_true rfl) (by decide) (by decide)) ?_
  refine z_ifB_eq (tgt := 30) dX4_take_12 (by decide) (fun c12 => ?_) (fun c12 => ?_)
  · refine z_iload_4 dX4_take_30 ?_
    refine Z.callE (zRun.S (ρ := fun i => i) (k_c_4_isDigit ((g_c_3_byteAt t a X)) ) dX4_take_32 zy_X4_isDigit zm_X4_54 rfl rfl (Nat.le_of_ble_eq_true rfl) (by decide) (by decide)) ?_
    refine z_ifB_ne (tgt := 52) dX4_take_35 (by decide) (fun c35 => ?_) (fun c35 => ?_)
    · refine z_iload_3 dX4_take_52 ?_
      refine z_iload_2 dX4_take_53 ?_
      refine z_isub dX4_take_54 ?_
      refine z_topi (w := nI (e - a)) (pk_sub (a := e) (b := a) (by first | omega | assumption)) ?_
      refine z_iconst (v := 4) dX4_take_55 rfl ?_
      refine z_icmpN_le (tgt := 69) dX4_take_56 (by decide) (x := e - a) (z := 4) (by first | omega | assumption) (by first | omega | assumption) (fun c56 => ?_) (fun c56 => ?_)
      · refine z_aload_0 dX4_take_69 ?_
        refine z_iconst (v := 2) dX4_take_70 rfl ?_
        refine z_iload_2 dX4_take_71 ?_
        refine z_aload_1 dX4_take_72 ?_
        refine z_iload_2 dX4_take_73 ?_
        refine z_iload_3 dX4_take_74 ?_
        refine Z.shs (kxh S X) (zRun.S (ρ := zsh 4) (k_c_4_numberOf t a e X ht h6 (by omega) het) dX4_take_75 zy_X4_numberOf zm_X4_64 rfl rfl (Nat.le_of_ble_eq_true rfl) (by decide) (by decide) (zsh_fix 4)) (zsh_inj (Nat.le_of_ble_eq_true rfl)) ⟨rfl, rfl, trivial⟩ (zlen2 2 rfl rfl) rfl rfl ?_
        refine Z.callPn (zRun.V (ρ := fun i => i) (k_c_4_put c (2) (nI (a)) ((g_c_4_numberOf t a e X)) S hc hc6) dX4_take_78 zy_X4_put zm_X4_47 rfl rfl rfl rfl (Nat.le_of_ble_eq_true rfl) (by decide) (by decide)) (zlen2 4 rfl rfl) ?_
        refine Z.heap (h2 := kxh (g_c_4_put c (2) (nI (a)) ((g_c_4_numberOf t a e X)) S) X) rfl ?_
        rw [g_c_4_take, if_neg c12, if_pos c35, if_pos c56]
        exact z_vret dX4_take_81 rfl rfl rfl
      · refine z_aload_0 dX4_take_59 ?_
        refine z_iconst (v := 1) dX4_take_60 rfl ?_
        refine z_iload_2 dX4_take_61 ?_
        refine z_iconst (v := 0) dX4_take_62 rfl ?_
        refine Z.callPn (zRun.V (ρ := fun i => i) (k_c_4_put c (1) (nI (a)) (0) S hc hc6) dX4_take_63 zy_X4_put zm_X4_47 rfl rfl rfl rfl (Nat.le_of_ble_eq_true rfl) (by decide) (by decide)) (zlen2 4 rfl rfl) ?_
        refine Z.heap (h2 := kxh (g_c_4_put c (1) (nI (a)) (0) S) X) rfl ?_
        refine z_goto (tgt := 81) dX4_take_66 (by decide) ?_
        rw [g_c_4_take, if_neg c12, if_pos c35, if_neg c56]
        exact z_vret dX4_take_81 rfl rfl rfl
    · refine z_aload_0 dX4_take_38 ?_
      refine z_iload_4 dX4_take_39 ?_
      refine Z.callE (zRun.S (ρ := fun i => i) (k_c_4_codeOfSign ((g_c_3_byteAt t a X)) ) dX4_take_41 zy_X4_codeOfSign zm_X4_61 rfl rfl (Nat.le_of_ble_eq_true rfl) (by decide) (by decide)) ?_
      refine z_iload_2 dX4_take_44 ?_
      refine z_iconst (v := 0) dX4_take_45 rfl ?_
      refine Z.callPn (zRun.V (ρ := fun i => i) (k_c_4_put c ((g_c_4_codeOfSign ((g_c_3_byteAt t a X)))) (nI (a)) (0) S hc hc6) dX4_take_46 zy_X4_put zm_X4_47 rfl rfl rfl rfl (Nat.le_of_ble_eq_true rfl) (by decide) (by decide)) (zlen2 4 rfl rfl) ?_
      refine Z.heap (h2 := kxh (g_c_4_put c ((g_c_4_codeOfSign ((g_c_3_byteAt t a X)))) (nI (a)) (0) S) X) rfl ?_
      refine z_goto (tgt := 81) dX4_take_49 (by decide) ?_
      rw [g_c_4_take, if_neg c12, if_neg c35]
      exact z_vret dX4_take_81 rfl rfl rfl
  · refine z_aload_0 dX4_take_15 ?_
    refine z_aload_1 dX4_take_16 ?_
    refine z_iload_2 dX4_take_17 ?_
    refine z_iload_3 dX4_take_18 ?_
    refine Z.shs (kxh S X) (zRun.S (ρ := zsh 4) (k_c_4_codeOfWord t a e X ht h6 (by omega) het) dX4_take_19 zy_X4_codeOfWord zm_X4_57 rfl rfl (Nat.le_of_ble_eq_true rfl) (by decide) (by decide) (zsh_fix 4)) (zsh_inj (Nat.le_of_ble_eq_true rfl)) ⟨rfl, rfl, trivial⟩ (zlen2 2 rfl rfl) rfl rfl ?_
    refine z_iload_2 dX4_take_22 ?_
    refine z_iconst (v := 0) dX4_take_23 rfl ?_
    refine Z.callPn (zRun.V (ρ := fun i => i) (k_c_4_put c ((g_c_4_codeOfWord t a e X)) (nI (a)) (0) S hc hc6) dX4_take_24 zy_X4_put zm_X4_47 rfl rfl rfl rfl (Nat.le_of_ble_eq_true rfl) (by decide) (by decide)) (zlen2 4 rfl rfl) ?_
    refine Z.heap (h2 := kxh (g_c_4_put c ((g_c_4_codeOfWord t a e X)) (nI (a)) (0) S) X) rfl ?_
    refine z_goto (tgt := 81) dX4_take_27 (by decide) ?_
    rw [g_c_4_take, if_pos c12]
    exact z_vret dX4_take_81 rfl rfl rfl
theorem put_ok {c : Nat} {x f v : Int32} {S : ZS} : (g_c_4_put c x f v S).1 4 = nI (c + 1) ∧ (∀ k, ¬ k = 4 → (g_c_4_put c x f v S).1 k = S.1 k) ∧ ∀ j, ¬ j = 2 → ¬ j = 3 → ¬ j = 4 → (g_c_4_put c x f v S).2 j = S.2 j := by
  rw [g_c_4_put]
  exact ⟨rfl, fun k hk => by rw [sI_o hk]; rfl, fun j h2 h3 h4 => by rw [sI_2, sA_x h4, sA_x h3, sA_x h2]⟩
theorem take_ok {t c a e : Nat} {S X : ZS} : (g_c_4_take t c a e S X).1 4 = nI (c + 1) ∧ (∀ k, ¬ k = 4 → (g_c_4_take t c a e S X).1 k = S.1 k) ∧ ∀ j, ¬ j = 2 → ¬ j = 3 → ¬ j = 4 → (g_c_4_take t c a e S X).2 j = S.2 j := by
  rw [g_c_4_take]
  split
  · exact put_ok
  · split
    · split
      · exact put_ok
      · exact put_ok
    · exact put_ok
noncomputable def g_c_4_split_L (t : Nat) : Nat → Nat → Nat → Nat → ZS → ZS → ZS
  | 0, _, _, c, S, _ => (g_c_4_put c (0) (nI (t)) (0) S)
  | fu + 1, e, k, c, S, X => (if k < e then g_c_4_split_L t fu e (k + 1) c S X else (if ((g_c_4_isBlank ((g_c_3_byteAt t k X)))) = true then g_c_4_split_L t fu e (k + 1) c S X else g_c_4_split_L t fu (g_c_4_endOfToken t k X) (k + 1) (c + 1) (g_c_4_take t c k (g_c_4_endOfToken t k X) S X) X))
theorem l_g_c_4_split_L (t : Nat) : ∀ (fu : Nat) (e : Nat) (k : Nat) (c : Nat) (S : ZS) (X : ZS) , (X.1 2 = nI t) → (t ≤ 600) → (k + fu = t) → (c ≤ k) → (e ≤ t) → (S.1 4 = nI c) → Z sc yX4_split cX4_split 4 none 7 0 0 14 [some (.ref 0), some (.ref 4), some (.int (nI (e))), some (.int (nI (k)))] [] (kxh S X) (.inl none) (kxh (g_c_4_split_L t fu e k c S X) X) := by
  intro fu
  induction fu with
  | zero =>
    intro e k c S X ht h6 hk hck het h_c
    refine z_iload_3 dX4_split_14 ?_
    refine z_aload_1 dX4_split_15 ?_
    refine Z.shs (kxh S X) (zRun.V (ρ := zsh 4) (k_c_3_length X ) dX4_split_16 zy_X3_length zm_X4_25 rfl rfl rfl rfl (Nat.le_of_ble_eq_true rfl) (by decide) (by decide) (zsh_fix 4)) (zsh_inj (Nat.le_of_ble_eq_true rfl)) ⟨rfl, rfl, trivial⟩ (zlen2 2 rfl rfl) rfl rfl ?_
    refine z_topi (w := nI (t)) ht ?_
    refine z_icmpN_ge_t (tgt := 57) dX4_split_19 (by decide) (x := k) (z := t) (by first | omega | assumption) (by first | omega | assumption) (by omega) ?_
    refine z_aload_0 dX4_split_57 ?_
    refine z_iconst (v := 0) dX4_split_58 rfl ?_
    refine z_aload_1 dX4_split_59 ?_
    refine Z.shs (kxh S X) (zRun.V (ρ := zsh 4) (k_c_3_length X ) dX4_split_60 zy_X3_length zm_X4_25 rfl rfl rfl rfl (Nat.le_of_ble_eq_true rfl) (by decide) (by decide) (zsh_fix 4)) (zsh_inj (Nat.le_of_ble_eq_true rfl)) ⟨rfl, rfl, trivial⟩ (zlen2 2 rfl rfl) rfl rfl ?_
    refine z_topi (w := nI (t)) ht ?_
    refine z_iconst (v := 0) dX4_split_63 rfl ?_
    refine Z.callPn (zRun.V (ρ := fun i => i) (k_c_4_put c (0) (nI (t)) (0) S h_c (by omega)) dX4_split_64 zy_X4_put zm_X4_47 rfl rfl rfl rfl (Nat.le_of_ble_eq_true rfl) (by decide) (by decide)) (zlen2 4 rfl rfl) ?_
    refine Z.heap (h2 := kxh (g_c_4_put c (0) (nI (t)) (0) S) X) rfl ?_
    rw [g_c_4_split_L]
    exact z_vret dX4_split_67 rfl rfl rfl
  | succ fu ih =>
    intro e k c S X ht h6 hk hck het h_c
    refine z_iload_3 dX4_split_14 ?_
    refine z_aload_1 dX4_split_15 ?_
    refine Z.shs (kxh S X) (zRun.V (ρ := zsh 4) (k_c_3_length X ) dX4_split_16 zy_X3_length zm_X4_25 rfl rfl rfl rfl (Nat.le_of_ble_eq_true rfl) (by decide) (by decide) (zsh_fix 4)) (zsh_inj (Nat.le_of_ble_eq_true rfl)) ⟨rfl, rfl, trivial⟩ (zlen2 2 rfl rfl) rfl rfl ?_
    refine z_topi (w := nI (t)) ht ?_
    refine z_icmpN_ge_f (tgt := 57) dX4_split_19 (by decide) (x := k) (z := t) (by first | omega | assumption) (by first | omega | assumption) (by omega) ?_
    refine z_iload_3 dX4_split_22 ?_
    refine z_iload_2 dX4_split_23 ?_
    refine z_icmpN_lt (tgt := 51) dX4_split_24 (by decide) (x := k) (z := e) (by first | omega | assumption) (by first | omega | assumption) (fun c24 => ?_) (fun c24 => ?_)
    · refine z_iinc_3 (v := nI (k + 1)) dX4_split_51 (nI_add _ 1) rfl (by decide) ?_
      refine z_goto (tgt := 14) dX4_split_54 (by decide) ?_
      rw [g_c_4_split_L, if_pos c24]
      exact ih e (k + 1) c S X ht h6 (by first | omega | assumption) (by first | omega | assumption) (by first | omega | exact (eot_in (by omega)).2) (by first | exact h_c | exact take_ok.1)
    · refine z_aload_1 dX4_split_27 ?_
      refine z_iload_3 dX4_split_28 ?_
      refine Z.shs (kxh S X) (zRun.V (ρ := zsh 4) (k_c_3_byteAt t k X ht h6 (by omega)) dX4_split_29 zy_X3_byteAt zm_X4_31 rfl rfl rfl rfl (Nat.le_of_ble_eq_true rfl) (by decide) (by decide) (zsh_fix 4)) (zsh_inj (Nat.le_of_ble_eq_true rfl)) ⟨rfl, rfl, trivial⟩ (zlen2 2 rfl rfl) rfl rfl ?_
      refine Z.callE (zRun.S (ρ := fun i => i) (k_c_4_isBlank ((g_c_3_byteAt t k X)) ) dX4_split_32 zy_X4_isBlank zm_X4_35 rfl rfl (Nat.le_of_ble_eq_true rfl) (by decide) (by decide)) ?_
      refine z_ifB_ne (tgt := 51) dX4_split_35 (by decide) (fun c35 => ?_) (fun c35 => ?_)
      · refine z_iinc_3 (v := nI (k + 1)) dX4_split_51 (nI_add _ 1) rfl (by decide) ?_
        refine z_goto (tgt := 14) dX4_split_54 (by decide) ?_
        rw [g_c_4_split_L, if_neg c24, if_pos c35]
        exact ih e (k + 1) c S X ht h6 (by first | omega | assumption) (by first | omega | assumption) (by first | omega | exact (eot_in (by omega)).2) (by first | exact h_c | exact take_ok.1)
      · refine z_aload_1 dX4_split_38 ?_
        refine z_iload_3 dX4_split_39 ?_
        refine Z.shs (kxh S X) (zRun.S (ρ := zsh 4) (k_c_4_endOfToken t k X ht h6 (by omega)) dX4_split_40 zy_X4_endOfToken zm_X4_39 rfl rfl (Nat.le_of_ble_eq_true rfl) (by decide) (by decide) (zsh_fix 4)) (zsh_inj (Nat.le_of_ble_eq_true rfl)) ⟨rfl, rfl, trivial⟩ (zlen2 2 rfl rfl) rfl rfl ?_
        refine z_istore_2 dX4_split_43 rfl (by decide) ?_
        refine z_aload_0 dX4_split_44 ?_
        refine z_aload_1 dX4_split_45 ?_
        refine z_iload_3 dX4_split_46 ?_
        refine z_iload_2 dX4_split_47 ?_
        refine Z.call0n (zRun.V (ρ := fun i => i) (k_c_4_take t c k (g_c_4_endOfToken t k X) S X ht h6 h_c (by omega) (eot_in (by omega)).1 (eot_in (by omega)).2) dX4_split_48 zy_X4_take zm_X4_43 rfl rfl rfl rfl (Nat.le_of_ble_eq_true rfl) (by decide) (by decide)) (zlen2 6 rfl rfl) ?_
        refine z_iinc_3 (v := nI (k + 1)) dX4_split_51 (nI_add _ 1) rfl (by decide) ?_
        refine z_goto (tgt := 14) dX4_split_54 (by decide) ?_
        rw [g_c_4_split_L, if_neg c24, if_neg c35]
        exact ih (g_c_4_endOfToken t k X) (k + 1) (c + 1) (g_c_4_take t c k (g_c_4_endOfToken t k X) S X) X ht h6 (by first | omega | assumption) (by first | omega | assumption) (by first | omega | exact (eot_in (by omega)).2) (by first | exact h_c | exact take_ok.1)
noncomputable def g_c_4_split (t : Nat) (S : ZS) (X : ZS) : ZS := g_c_4_split_L t t 0 0 0 (sI 4 (0) S) X
theorem k_c_4_split (t : Nat) (S : ZS) (X : ZS) (ht : X.1 2 = nI t) (h6 : t ≤ 600) : zM sc yX4_split cX4_split 4 none 7 0 0 [.ref 0, .ref 4] (kxh S X) (.inl none) (kxh (g_c_4_split t S X) X) := by
  refine zM.at (ls := [some (.ref 0), some (.ref 4), none, none]) zy_X4_split.2.2.2.2.2 (Nat.le_of_ble_eq_true rfl) rfl ?_
  refine z_aload_0 dX4_split_0 ?_
  refine z_iconst (v := 0) dX4_split_1 rfl ?_
  refine z_put (k := 3) (ty := tyX4) dX4_split_2 rfl rfl (by decide) zf_X4_21 zw_in4 tyX4_ok nmX4 rfl (fun _ => ⟨rfl, rfl⟩) (Nat.le_of_ble_eq_true rfl) ?_
  refine Z.heap (h2 := kxh (sI 4 (0) S) X) rfl ?_
  refine z_aload_1 dX4_split_5 ?_
  refine z_ifnonnull (tgt := 10) dX4_split_6 (by decide) ?_
  refine z_iconst (v := 0) dX4_split_10 rfl ?_
  refine z_istore_2 dX4_split_11 rfl (by decide) ?_
  refine z_iconst (v := 0) dX4_split_12 rfl ?_
  refine z_istore_3 dX4_split_13 rfl (by decide) ?_
  rw [g_c_4_split]
  exact l_g_c_4_split_L t t 0 0 0 (sI 4 (0) S) X ht h6 (by first | omega | assumption) (by first | omega | assumption) (by first | omega | assumption) (by first | rfl | exact h_c)
