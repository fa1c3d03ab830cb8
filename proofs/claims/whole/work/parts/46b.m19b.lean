variable {sc : SC}

theorem zt8 (q : Nat) : nI (8 * (q + 1)) - 8 = nI (8 * q) := by
  have h := pk_sub (a := 8 * (q + 1)) (b := 8) (by omega)
  have e : 8 * (q + 1) - 8 = 8 * q := by omega
  rw [e] at h
  exact h
noncomputable def g_m_type_L (ty : Nat) (x : Int32) : Nat → Int32 → Nat → Nat → ZS → ZS
  | 0, _, _, _, S => S
  | fu + 1, s, _, u, S => g_m_type_L ty x fu (s + (-8)) fu (u + 1) (sI 9 (nI (u + 1)) (sA 5 (u) ((zshr (x) (s)) &&& 255) S))
theorem l_g_m_type_L (ty : Nat) (x : Int32) : ∀ (fu : Nat) (s : Int32) (q : Nat) (u : Nat) (S : ZS) , (q = fu) → (q ≤ 4) → (s = nI (8 * q) - 8) → (u + q ≤ 600) → (S.1 9 = nI u) → Z sc yX7_type cX7_type 3 none 0 0 0 3 [some (.ref 0), some (.int (x)), some (.int (s))] [] (mh S) (.inl none) (mh (g_m_type_L ty x fu s q u S)) := by
  intro fu
  induction fu with
  | zero =>
    intro s q u S hq hq4 hx hu h_u
    refine z_iload_2 dX7_type_3 ?_
    refine z_if_lt_t (tgt := 39) dX7_type_4 (by decide) (by rw [hx, hq]; decide) ?_
    rw [g_m_type_L]
    exact z_vret dX7_type_39 rfl rfl rfl
  | succ fu ih =>
    intro s q u S hq hq4 hx hu h_u
    refine z_iload_2 dX7_type_3 ?_
    refine z_if_lt_f (tgt := 39) dX7_type_4 (by decide) (by rw [show s = nI (8 * fu) by rw [hx, hq]; exact zt8 fu]; exact nI_pos (by omega)) ?_
    have hxx : s = nI (8 * fu) := by rw [hx, hq]; exact zt8 fu
    refine z_aload_0 dX7_type_7 ?_
    refine z_get (k := 7) (v := .ref 6) dX7_type_8 rfl rfl rfl (by decide) zf_X7_25 zw_in7 ?_
    refine z_aload_0 dX7_type_11 ?_
    refine z_get (k := 9) (v := .int (S.1 9)) dX7_type_12 rfl rfl rfl (by decide) zf_X7_277 zw_in7 ?_
    refine z_topi (w := nI (u)) h_u ?_
    refine z_iload_1 dX7_type_15 ?_
    refine z_iload_2 dX7_type_16 ?_
    refine z_ishr dX7_type_17 ?_
    refine z_sipush (v := 255) dX7_type_18 rfl ?_
    refine z_iand dX7_type_21 ?_
    refine z_iastN (k := u) dX7_type_22 rfl (by first | omega | assumption) (by decide) ?_
    refine Z.heap (h2 := mh (sA 5 (u) ((zshr (x) (s)) &&& 255) S)) rfl ?_
    refine z_aload_0 dX7_type_23 ?_
    refine z_dup dX7_type_24 rfl ?_
    refine z_get (k := 9) (v := .int (S.1 9)) dX7_type_25 rfl rfl rfl (by decide) zf_X7_277 zw_in7 ?_
    refine z_topi (w := nI (u)) h_u ?_
    refine z_iconst (v := 1) dX7_type_28 rfl ?_
    refine z_iadd dX7_type_29 ?_
    refine z_topi (w := nI (u + 1)) (nI_add _ _) ?_
    refine z_put (k := 9) (ty := tyX7) dX7_type_30 rfl rfl (by decide) zf_X7_277 zw_in7 tyX7_ok nmX7 rfl (fun _ => ⟨rfl, rfl⟩) (Nat.le_of_ble_eq_true rfl) ?_
    refine Z.heap (h2 := mh (sI 9 (nI (u + 1)) (sA 5 (u) ((zshr (x) (s)) &&& 255) S))) rfl ?_
    refine z_iinc_2 (v := s + (-8)) dX7_type_33 rfl rfl (by decide) ?_
    refine z_goto (tgt := 3) dX7_type_36 (by decide) ?_
    rw [g_m_type_L]
    exact ih (s + (-8)) fu (u + 1) (sI 9 (nI (u + 1)) (sA 5 (u) ((zshr (x) (s)) &&& 255) S)) (by first | omega | assumption) (by first | omega | assumption) (by rw [hxx, Int32.sub_eq_add_neg]) (by first | omega | assumption) (by first | rfl | exact h_u)
noncomputable def g_m_type (ty : Nat) (x : Int32) (S : ZS) : ZS := g_m_type_L ty x 4 24 4 ty S
theorem k_m_type (ty : Nat) (x : Int32) (S : ZS) (h9 : S.1 9 = nI ty) (h6 : ty + 4 ≤ 600) : zM sc yX7_type cX7_type 3 none 0 0 0 [.ref 0, .int (x)] (mh S) (.inl none) (mh (g_m_type ty x S)) := by
  refine zM.at (ls := [some (.ref 0), some (.int (x)), none]) zy_X7_type.2.2.2.2.2 (Nat.le_of_ble_eq_true rfl) rfl ?_
  refine z_bipush (v := 24) dX7_type_0 rfl ?_
  refine z_istore_2 dX7_type_2 rfl (by decide) ?_
  rw [g_m_type]
  exact l_g_m_type_L ty x 4 24 4 ty S (by first | omega | assumption) (by first | omega | assumption) (by decide) (by first | omega | assumption) (by first | rfl | exact h_u | exact h9)
theorem type_L9 (ty : Nat) (x : Int32) : ∀ fu s q u S, S.1 9 = nI u → (g_m_type_L ty x fu s q u S).1 9 = nI (u + fu) := by
  intro fu
  induction fu with
  | zero => intro s q u S h; exact h
  | succ fu ih =>
    intro s q u S h
    rw [g_m_type_L, ih _ _ _ _ rfl]
    congr 1
    omega
theorem type_9 {ty : Nat} {x : Int32} {S : ZS} (h : S.1 9 = nI ty) : (g_m_type ty x S).1 9 = nI (ty + 4) := by
  rw [g_m_type]
  exact type_L9 ty x 4 _ _ _ _ h
