variable {sc : SC}
def hrow (r o : Nat) : Nat → Option Nat := fun p => if p < 8 then some (o + 2 + 9 * ((p + r) % 8)) else none
def hho (o : Nat) (S : ZS) (r : Nat) (G : Nat → TS) : List zO := .inr (0, [.ref (o + 1), .int (S.1 1)]) :: .inl (5, 8, .inr (.inr (.inr (.inr (hrow r o))))) :: (tho (o + 2) (G 0) ++ (tho (o + 11) (G 1) ++ (tho (o + 20) (G 2) ++ (tho (o + 29) (G 3) ++ (tho (o + 38) (G 4) ++ (tho (o + 47) (G 5) ++ (tho (o + 56) (G 6) ++ (tho (o + 65) (G 7)))))))))
noncomputable def g_c_0_count (_r : Nat) (_G : Nat → TS) (S : ZS) : Int32 := S.1 1
theorem k_c_0_count (r : Nat) (G : Nat → TS) (S : ZS)  : zM sc yX0_count cX0_count 1 (some .int) 0 0 0 [.ref 0] (hho 0 S r G) (.inl (some (.int (g_c_0_count r G S)))) (hho 0 S r G) := by
  refine zM.at (ls := [some (.ref 0)]) zy_X0_count.2.2.2.2.2 (Nat.le_of_ble_eq_true rfl) rfl ?_
  refine z_aload_0 dX0_count_0 ?_
  refine z_get (k := 1) (v := .int (S.1 1)) dX0_count_1 rfl rfl rfl (by decide) zf_X0_17 zw_in0 ?_
  rw [g_c_0_count]
  exact z_iret dX0_count_4 rfl (zint _) rfl rfl
theorem k_treeAt (S : ZS) (r : Nat) (G : Nat → TS) (k : Nat) (hk : k < 8) : zM sc yX0_treeAt cX0_treeAt 2 (some (.object "LazyRangeTree$Tree")) 0 0 0 [.ref 0, .int (nI k)] (hho 0 S r G) (.inl (some (.ref (2 + 9 * ((k + r) % 8))))) (hho 0 S r G) := by
  refine zM.at (ls := [some (.ref 0), some (.int (nI k))]) zy_X0_treeAt.2.2.2.2.2 (Nat.le_of_ble_eq_true rfl) rfl ?_
  refine z_iload_1 dX0_treeAt_0 ?_
  refine z_ifN_lt_f (tgt := 19) dX0_treeAt_1 (by decide) (x := k) (by omega) (by omega) ?_
  refine z_iload_1 dX0_treeAt_4 ?_
  refine z_bipush (v := 8) dX0_treeAt_5 rfl ?_
  refine z_icmpN_ge_f (tgt := 19) dX0_treeAt_7 (by decide) (x := k) (z := 8) (by omega) (by decide) (by omega) ?_
  refine z_aload_0 dX0_treeAt_10 ?_
  refine z_get (k := 0) dX0_treeAt_11 rfl rfl rfl (by decide) zf_X0_11 zw_in0 ?_
  refine z_iload_1 dX0_treeAt_14 ?_
  refine z_aaldN dX0_treeAt_15 rfl hk (by decide) ?_
  refine z_goto (tgt := 20) dX0_treeAt_16 (by decide) ?_
  have e : hrow r 0 k = some (2 + 9 * ((k + r) % 8)) := by rw [hrow, if_pos hk, Nat.zero_add]
  exact z_aret (v := hrow r 0 k) dX0_treeAt_20 rfl (Or.inl ⟨_, rfl⟩) (by rw [e]; rfl) rfl
def hrot (r m : Nat) : Nat → Option Nat := fun p => if p < 8 then some (2 + 9 * (((if p < m then p + 1 else p) + r) % 8)) else none
theorem hrot_0 (r : Nat) : hrot r 0 = hrow r 0 := by
  funext p
  rw [hrot, hrow, if_neg (Nat.not_lt_zero p), Nat.zero_add]
theorem hrot_up {r m : Nat} (h : m < 7) : va_up (hrot r m) m (some (2 + 9 * ((m + 1 + r) % 8))) = hrot r (m + 1) := by
  funext p
  simp only [va_up, hrot]
  by_cases e : p = m
  · subst e
    rw [if_pos rfl, if_pos (by omega), if_pos (by omega)]
  · rw [if_neg e]
    by_cases c : p < 8
    · rw [if_pos c, if_pos c]
      by_cases c2 : p < m
      · rw [if_pos c2, if_pos (by omega)]
      · rw [if_neg c2, if_neg (by omega)]
    · rw [if_neg c, if_neg c]
theorem hrot_end (r : Nat) : va_up (hrot r 7) 7 (some (2 + 9 * ((0 + r) % 8))) = hrow (r + 1) 0 := by
  funext p
  simp only [va_up, hrot, hrow]
  by_cases e : p = 7
  · subst e
    rw [if_pos rfl, if_pos (by omega)]
    congr 3
    omega
  · rw [if_neg e]
    by_cases c : p < 8
    · rw [if_pos c, if_pos c, if_pos (by omega)]
      congr 3
      omega
    · rw [if_neg c, if_neg c]
def hhm (S : ZS) (r m : Nat) (G : Nat → TS) : List zO := .inr (0, [.ref 1, .int (S.1 1)]) :: .inl (5, 8, .inr (.inr (.inr (.inr (hrot r m))))) :: (tho 2 (G 0) ++ (tho 11 (G 1) ++ (tho 20 (G 2) ++ (tho 29 (G 3) ++ (tho 38 (G 4) ++ (tho 47 (G 5) ++ (tho 56 (G 6) ++ (tho 65 (G 7)))))))))
theorem hhm_0 (S : ZS) (r : Nat) (G : Nat → TS) : hho 0 S r G = hhm S r 0 G := by rw [hhm, hrot_0]; rfl
theorem hhm_ci (S : ZS) (r m : Nat) (G : Nat → TS) (j : Nat) (hj : j < 8) : ∃ vs, (hhm S r m G)[2 + 9 * j]? = some (.inr (5, vs)) := by
  match j, hj with
  | 0, _ => exact ⟨_, rfl⟩
  | 1, _ => exact ⟨_, rfl⟩
  | 2, _ => exact ⟨_, rfl⟩
  | 3, _ => exact ⟨_, rfl⟩
  | 4, _ => exact ⟨_, rfl⟩
  | 5, _ => exact ⟨_, rfl⟩
  | 6, _ => exact ⟨_, rfl⟩
  | 7, _ => exact ⟨_, rfl⟩
theorem l_dropOldest (S : ZS) (r : Nat) (G : Nat → TS) : ∀ (fu m : Nat), m + fu = 7 → Z sc yX0_dropOldest cX0_dropOldest 3 none 0 0 0 9 [some (.ref 0), some (.ref (2 + 9 * ((0 + r) % 8))), some (.int (nI (m + 1)))] [] (hhm S r m G) (.inl none) (hho 0 (sI 1 7 S) (r + 1) G) := by
  intro fu
  induction fu with
  | zero =>
    intro m hm
    have e7 : m = 7 := by omega
    subst e7
    refine z_iload_2 dX0_dropOldest_9 ?_
    refine z_bipush (v := 8) dX0_dropOldest_10 rfl ?_
    refine z_icmpN_ge_t (tgt := 35) dX0_dropOldest_12 (by decide) (x := 7 + 1) (z := 8) (by decide) (by decide) (by decide) ?_
    refine z_aload_0 dX0_dropOldest_35 ?_
    refine z_get (k := 0) dX0_dropOldest_36 rfl rfl rfl (by decide) zf_X0_11 zw_in0 ?_
    refine z_bipush (v := 7) dX0_dropOldest_39 rfl ?_
    refine z_aload_1 dX0_dropOldest_41 ?_
    obtain ⟨vs, hv⟩ := hhm_ci S r 7 G ((0 + r) % 8) (Nat.mod_lt _ (by decide))
    refine z_aastN (k := 7) dX0_dropOldest_42 rfl hv (by decide) (by decide) ?_
    rw [hrot_end]
    refine z_aload_0 dX0_dropOldest_43 ?_
    refine z_bipush (v := 7) dX0_dropOldest_44 rfl ?_
    refine z_put (k := 1) (ty := tyX0) dX0_dropOldest_46 rfl rfl (by decide) zf_X0_17 zw_in0 tyX0_ok nmX0 rfl (fun _ => ⟨rfl, rfl⟩) (Nat.le_of_ble_eq_true rfl) ?_
    exact z_vret dX0_dropOldest_49 rfl rfl rfl
  | succ fu ih =>
    intro m hm
    refine z_iload_2 dX0_dropOldest_9 ?_
    refine z_bipush (v := 8) dX0_dropOldest_10 rfl ?_
    refine z_icmpN_ge_f (tgt := 35) dX0_dropOldest_12 (by decide) (x := m + 1) (z := 8) (by omega) (by decide) (by omega) ?_
    refine z_aload_0 dX0_dropOldest_15 ?_
    refine z_get (k := 0) dX0_dropOldest_16 rfl rfl rfl (by decide) zf_X0_11 zw_in0 ?_
    refine z_iload_2 dX0_dropOldest_19 ?_
    refine z_iconst (v := 1) dX0_dropOldest_20 rfl ?_
    refine z_isub dX0_dropOldest_21 ?_
    refine z_topi (w := nI m) (zsubE m 1) ?_
    refine z_aload_0 dX0_dropOldest_22 ?_
    refine z_get (k := 0) dX0_dropOldest_23 rfl rfl rfl (by decide) zf_X0_11 zw_in0 ?_
    refine z_iload_2 dX0_dropOldest_26 ?_
    refine z_aaldN dX0_dropOldest_27 rfl (show m + 1 < 8 by omega) (by decide) ?_
    have e : hrot r m (m + 1) = some (2 + 9 * ((m + 1 + r) % 8)) := by rw [hrot, if_pos (by omega), if_neg (by omega)]
    rw [e]
    obtain ⟨vs, hv⟩ := hhm_ci S r m G ((m + 1 + r) % 8) (Nat.mod_lt _ (by decide))
    refine z_aastN (k := m) (v := 2 + 9 * ((m + 1 + r) % 8)) dX0_dropOldest_28 rfl hv (by omega) (by decide) ?_
    rw [hrot_up (by omega)]
    refine z_iinc_2 (v := nI (m + 1 + 1)) dX0_dropOldest_29 (zinc _) rfl (by decide) ?_
    refine z_goto (tgt := 9) dX0_dropOldest_32 (by decide) ?_
    exact ih (m + 1) (by omega)
theorem k_dropOldest (S : ZS) (r : Nat) (G : Nat → TS) : zM sc yX0_dropOldest cX0_dropOldest 3 none 0 0 0 [.ref 0] (hho 0 S r G) (.inl none) (hho 0 (sI 1 7 S) (r + 1) G) := by
  refine zM.at (ls := [some (.ref 0), none, none]) zy_X0_dropOldest.2.2.2.2.2 (Nat.le_of_ble_eq_true rfl) rfl ?_
  refine z_aload_0 dX0_dropOldest_0 ?_
  refine z_get (k := 0) dX0_dropOldest_1 rfl rfl rfl (by decide) zf_X0_11 zw_in0 ?_
  refine z_iconst (v := 0) dX0_dropOldest_4 rfl ?_
  refine z_aaldN (k := 0) dX0_dropOldest_5 rfl (by decide) (by decide) ?_
  have e : hrow r 0 0 = some (2 + 9 * ((0 + r) % 8)) := by rw [hrow, if_pos (by decide)]
  rw [e]
  refine z_astore_1 dX0_dropOldest_6 rfl (by decide) ?_
  refine z_iconst (v := 1) dX0_dropOldest_7 rfl ?_
  refine z_istore_2 dX0_dropOldest_8 rfl (by decide) ?_
  rw [hhm_0]
  exact l_dropOldest S r G 7 0 rfl
