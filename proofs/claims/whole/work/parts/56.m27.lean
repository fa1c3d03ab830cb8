variable {sc : SC}

/-- how far the report goes -/
noncomputable def mr (S : ZS) : Nat := (S.1 14).toNatClampNeg
theorem mr_nI {S : ZS} {e : Nat} (h : S.1 14 = nI e) (he : e ≤ 400) : mr S = e := by rw [mr, h, nI_clamp (by omega)]
noncomputable def g_m_write (c : Int32) (S : ZS) : ZS := (sI 14 (nI (mr S + 1)) (sA 7 (mr S) (vp_nar .char (((c).toUInt32 % 65536).toInt32)) S))
theorem k_m_write (c : Int32) (S : ZS) (hr : S.1 14 = nI (mr S)) (h4 : mr S < 400) : zM sc yX7_write cX7_write 2 none 0 0 0 [.ref 0, .int (c)] (mh S) (.inl none) (mh (g_m_write c S)) := by
  refine zM.at (ls := [some (.ref 0), some (.int (c))]) zy_X7_write.2.2.2.2.2 (Nat.le_of_ble_eq_true rfl) rfl ?_
  refine z_aload_0 dX7_write_0 ?_
  refine z_get (k := 13) (v := .ref 8) dX7_write_1 rfl rfl rfl (by decide) zf_X7_35 zw_in7 ?_
  refine z_aload_0 dX7_write_4 ?_
  refine z_get (k := 14) (v := .int (S.1 14)) dX7_write_5 rfl rfl rfl (by decide) zf_X7_334 zw_in7 ?_
  refine z_topi (w := nI (mr S)) hr ?_
  refine z_iload_1 dX7_write_8 ?_
  refine z_i2c dX7_write_9 ?_
  refine z_castN (k := (mr S)) dX7_write_10 rfl (by first | omega | assumption) (by decide) ?_
  refine Z.heap (h2 := mh (sA 7 (mr S) (vp_nar .char (((c).toUInt32 % 65536).toInt32)) S)) rfl ?_
  refine z_aload_0 dX7_write_11 ?_
  refine z_dup dX7_write_12 rfl ?_
  refine z_get (k := 14) (v := .int (S.1 14)) dX7_write_13 rfl rfl rfl (by decide) zf_X7_334 zw_in7 ?_
  refine z_topi (w := nI (mr S)) hr ?_
  refine z_iconst (v := 1) dX7_write_16 rfl ?_
  refine z_iadd dX7_write_17 ?_
  refine z_topi (w := nI (mr S + 1)) (nI_add _ _) ?_
  refine z_put (k := 14) (ty := tyX7) dX7_write_18 rfl rfl (by decide) zf_X7_334 zw_in7 tyX7_ok nmX7 rfl (fun _ => ⟨rfl, rfl⟩) (Nat.le_of_ble_eq_true rfl) ?_
  refine Z.heap (h2 := mh (sI 14 (nI (mr S + 1)) (sA 7 (mr S) (vp_nar .char (((c).toUInt32 % 65536).toInt32)) S))) rfl ?_
  rw [g_m_write]
  try dsimp only
  exact z_vret dX7_write_21 rfl rfl rfl
theorem write_14 {c : Int32} {S : ZS} (h : mr S < 400) : (g_m_write c S).1 14 = nI (mr (g_m_write c S)) ∧ mr (g_m_write c S) = mr S + 1 := by
  have e : (g_m_write c S).1 14 = nI (mr S + 1) := rfl
  have e2 := mr_nI e (by omega)
  exact ⟨by rw [e2]; exact e, e2⟩
noncomputable def g_m_writeNumber : Nat → Nat → ZS → ZS
  | 0, _, S => S
  | fu + 1, m, S => (if m ≤ 9 then (g_m_write (nI (48 + (m % 10))) S) else (g_m_write (nI (48 + (m % 10))) (g_m_writeNumber fu (m / 10) S)))
theorem wn_mr : ∀ fu m S, S.1 14 = nI (mr S) → mr S + fu ≤ 400 → (g_m_writeNumber fu m S).1 14 = nI (mr (g_m_writeNumber fu m S)) ∧ mr (g_m_writeNumber fu m S) ≤ mr S + fu := by
  intro fu
  induction fu with
  | zero => intro m S h h2; exact ⟨h, Nat.le_refl _⟩
  | succ fu ih =>
    intro m S h h2
    rw [g_m_writeNumber]
    split
    next c =>
      have h4 := write_14 (c := nI (48 + m % 10)) (S := S) (by omega)
      exact ⟨h4.1, by omega⟩
    next c =>
      have h3 := ih (m / 10) S h (by omega)
      have h4 := write_14 (c := nI (48 + m % 10)) (S := g_m_writeNumber fu (m / 10) S) (by omega)
      exact ⟨h4.1, by omega⟩
theorem k_m_writeNumber : ∀ (fu : Nat) (m : Nat) (S : ZS), (S.1 14 = nI (mr S)) → (mr S + fu ≤ 400) → (m < 10 ^ fu) → (1 ≤ m ∨ 1 ≤ fu) → (m < 2 ^ 31) → zM sc yX7_writeNumber cX7_writeNumber 3 none (fu + 1) 0 0 [.ref 0, .int (nI (m))] (mh S) (.inl none) (mh (g_m_writeNumber fu m S)) := by
  intro fu
  induction fu with
  | zero =>
    intro m S hr h4 hm hm1 hm31
    exact absurd hm (by omega)
  | succ fu ih =>
    intro m S hr h4 hm hm1 hm31
    refine zM.at (ls := [some (.ref 0), some (.int (nI (m))), none]) zy_X7_writeNumber.2.2.2.2.2 (Nat.le_of_ble_eq_true rfl) rfl ?_
    refine z_iload_1 dX7_writeNumber_0 ?_
    refine z_ifN_ge_t (tgt := 9) dX7_writeNumber_1 (by decide) (x := m) (by first | omega | assumption) (by omega) ?_
    refine z_iload_1 dX7_writeNumber_9 ?_
    refine z_istore_2 dX7_writeNumber_10 rfl (by decide) ?_
    refine z_iload_1 dX7_writeNumber_11 ?_
    refine z_ifN_ge_t (tgt := 21) dX7_writeNumber_12 (by decide) (x := m) (by first | omega | assumption) (by omega) ?_
    refine z_iload_2 dX7_writeNumber_21 ?_
    refine z_bipush (v := 9) dX7_writeNumber_22 rfl ?_
    refine z_icmpN_le (tgt := 35) dX7_writeNumber_24 (by decide) (x := m) (z := 9) (by first | omega | assumption) (by first | omega | assumption) (fun c24 => ?_) (fun c24 => ?_)
    · refine z_aload_0 dX7_writeNumber_35 ?_
      refine z_bipush (v := 48) dX7_writeNumber_36 rfl ?_
      refine z_iload_2 dX7_writeNumber_38 ?_
      refine z_bipush (v := 10) dX7_writeNumber_39 rfl ?_
      refine z_irem dX7_writeNumber_41 (by decide) ?_
      refine z_topi (w := nI (m % 10)) (zremN (by first | omega | assumption) (by decide) (by decide)) ?_
      refine z_iadd dX7_writeNumber_42 ?_
      refine z_topi (w := nI (48 + (m % 10))) (nI_add _ _) ?_
      refine Z.call0n (zRun.V (ρ := fun i => i) (k_m_write (nI (48 + (m % 10))) S (by first | exact hr | exact (wn_mr fu (m / 10) S hr (by omega)).1) (by first | omega | (have := (wn_mr fu (m / 10) S hr (by omega)).2; omega))) dX7_writeNumber_43 zy_X7_write zm_X7_337 rfl rfl rfl rfl (Nat.le_of_ble_eq_true rfl) (by omega) (by decide)) (zlen2 14 rfl rfl) ?_
      rw [g_m_writeNumber, if_pos c24]
      try dsimp only
      exact z_vret dX7_writeNumber_46 rfl rfl rfl
    · refine z_aload_0 dX7_writeNumber_27 ?_
      refine z_iload_2 dX7_writeNumber_28 ?_
      refine z_bipush (v := 10) dX7_writeNumber_29 rfl ?_
      refine z_idiv dX7_writeNumber_31 (by decide) ?_
      refine z_topi (w := nI (m / 10)) (pk_div (by first | omega | assumption) (by decide) (by decide)) ?_
      refine Z.call0n (zRun.V (ρ := fun i => i) (ih (m / 10) S hr (by omega) (by rw [Nat.pow_succ] at hm; omega) (by omega) (by omega)) dX7_writeNumber_32 zy_X7_writeNumber zm_X7_340 rfl rfl rfl rfl (Nat.le_of_ble_eq_true rfl) (by omega) (by decide)) (zlen2 14 rfl rfl) ?_
      refine z_aload_0 dX7_writeNumber_35 ?_
      refine z_bipush (v := 48) dX7_writeNumber_36 rfl ?_
      refine z_iload_2 dX7_writeNumber_38 ?_
      refine z_bipush (v := 10) dX7_writeNumber_39 rfl ?_
      refine z_irem dX7_writeNumber_41 (by decide) ?_
      refine z_topi (w := nI (m % 10)) (zremN (by first | omega | assumption) (by decide) (by decide)) ?_
      refine z_iadd dX7_writeNumber_42 ?_
      refine z_topi (w := nI (48 + (m % 10))) (nI_add _ _) ?_
      refine Z.call0n (zRun.V (ρ := fun i => i) (k_m_write (nI (48 + (m % 10))) (g_m_writeNumber fu (m / 10) S) (by first | exact hr | exact (wn_mr fu (m / 10) S hr (by omega)).1) (by first | omega | (have := (wn_mr fu (m / 10) S hr (by omega)).2; omega))) dX7_writeNumber_43 zy_X7_write zm_X7_337 rfl rfl rfl rfl (Nat.le_of_ble_eq_true rfl) (by omega) (by decide)) (zlen2 14 rfl rfl) ?_
      rw [g_m_writeNumber, if_neg c24]
      try dsimp only
      exact z_vret dX7_writeNumber_46 rfl rfl rfl
noncomputable def g_m_wneg (m : Nat) (_v : Int32) (S : ZS) : ZS := (if m ≤ 9 then (g_m_write (nI (48 + (m % 10))) (g_m_write (45) S)) else (g_m_write (nI (48 + (m % 10))) (g_m_writeNumber 6 (m / 10) (g_m_write (45) S))))
theorem k_m_wneg (m : Nat) (v : Int32) (S : ZS) (hr : S.1 14 = nI (mr S)) (h4 : mr S + 8 ≤ 400) (hm : m ≤ 1000000) (hv : v < 0) (hvm : -v = nI m) : zM sc yX7_writeNumber cX7_writeNumber 3 none 8 0 0 [.ref 0, .int (v)] (mh S) (.inl none) (mh (g_m_wneg m v S)) := by
  refine zM.at (ls := [some (.ref 0), some (.int (v)), none]) zy_X7_writeNumber.2.2.2.2.2 (Nat.le_of_ble_eq_true rfl) rfl ?_
  refine z_iload_1 dX7_writeNumber_0 ?_
  refine z_if_ge_f (tgt := 9) dX7_writeNumber_1 (by decide) (Int32.not_le.mpr hv) ?_
  refine z_iload_1 dX7_writeNumber_4 ?_
  refine z_ineg dX7_writeNumber_5 ?_
  refine z_topi (w := nI (m)) hvm ?_
  refine z_goto (tgt := 10) dX7_writeNumber_6 (by decide) ?_
  refine z_istore_2 dX7_writeNumber_10 rfl (by decide) ?_
  refine z_iload_1 dX7_writeNumber_11 ?_
  refine z_if_ge_f (tgt := 21) dX7_writeNumber_12 (by decide) (Int32.not_le.mpr hv) ?_
  refine z_aload_0 dX7_writeNumber_15 ?_
  refine z_bipush (v := 45) dX7_writeNumber_16 rfl ?_
  refine Z.call0n (zRun.V (ρ := fun i => i) (k_m_write (45) S hr (by omega)) dX7_writeNumber_18 zy_X7_write zm_X7_337 rfl rfl rfl rfl (Nat.le_of_ble_eq_true rfl) (by decide) (by decide)) (zlen2 14 rfl rfl) ?_
  refine z_iload_2 dX7_writeNumber_21 ?_
  refine z_bipush (v := 9) dX7_writeNumber_22 rfl ?_
  refine z_icmpN_le (tgt := 35) dX7_writeNumber_24 (by decide) (x := m) (z := 9) (by first | omega | assumption) (by first | omega | assumption) (fun c24 => ?_) (fun c24 => ?_)
  · refine z_aload_0 dX7_writeNumber_35 ?_
    refine z_bipush (v := 48) dX7_writeNumber_36 rfl ?_
    refine z_iload_2 dX7_writeNumber_38 ?_
    refine z_bipush (v := 10) dX7_writeNumber_39 rfl ?_
    refine z_irem dX7_writeNumber_41 (by decide) ?_
    refine z_topi (w := nI (m % 10)) (zremN (by first | omega | assumption) (by decide) (by decide)) ?_
    refine z_iadd dX7_writeNumber_42 ?_
    refine z_topi (w := nI (48 + (m % 10))) (nI_add _ _) ?_
    refine Z.call0n (zRun.V (ρ := fun i => i) (k_m_write (nI (48 + (m % 10))) (g_m_write (45) S) (by first | exact (wn_mr 6 (m / 10) _ (write_14 (by omega)).1 (by have := (write_14 (c := 45) (S := S) (by omega)).2; omega)).1 | exact (write_14 (by omega)).1) (by have h9 := (write_14 (c := 45) (S := S) (by omega)).2; first | omega | (have := (wn_mr 6 (m / 10) _ (write_14 (c := 45) (S := S) (by omega)).1 (by omega)).2; omega))) dX7_writeNumber_43 zy_X7_write zm_X7_337 rfl rfl rfl rfl (Nat.le_of_ble_eq_true rfl) (by decide) (by decide)) (zlen2 14 rfl rfl) ?_
    rw [g_m_wneg, if_pos c24]
    try dsimp only
    exact z_vret dX7_writeNumber_46 rfl rfl rfl
  · refine z_aload_0 dX7_writeNumber_27 ?_
    refine z_iload_2 dX7_writeNumber_28 ?_
    refine z_bipush (v := 10) dX7_writeNumber_29 rfl ?_
    refine z_idiv dX7_writeNumber_31 (by decide) ?_
    refine z_topi (w := nI (m / 10)) (pk_div (by first | omega | assumption) (by decide) (by decide)) ?_
    refine Z.call0n (zRun.V (ρ := fun i => i) (k_m_writeNumber 6 (m / 10) (g_m_write (45) S) (write_14 (by omega)).1 (by have := (write_14 (c := 45) (S := S) (by omega)).2; omega) (by omega) (by omega) (by omega)) dX7_writeNumber_32 zy_X7_writeNumber zm_X7_340 rfl rfl rfl rfl (Nat.le_of_ble_eq_true rfl) (by decide) (by decide)) (zlen2 14 rfl rfl) ?_
    refine z_aload_0 dX7_writeNumber_35 ?_
    refine z_bipush (v := 48) dX7_writeNumber_36 rfl ?_
    refine z_iload_2 dX7_writeNumber_38 ?_
    refine z_bipush (v := 10) dX7_writeNumber_39 rfl ?_
    refine z_irem dX7_writeNumber_41 (by decide) ?_
    refine z_topi (w := nI (m % 10)) (zremN (by first | omega | assumption) (by decide) (by decide)) ?_
    refine z_iadd dX7_writeNumber_42 ?_
    refine z_topi (w := nI (48 + (m % 10))) (nI_add _ _) ?_
    refine Z.call0n (zRun.V (ρ := fun i => i) (k_m_write (nI (48 + (m % 10))) (g_m_writeNumber 6 (m / 10) (g_m_write (45) S)) (by first | exact (wn_mr 6 (m / 10) _ (write_14 (by omega)).1 (by have := (write_14 (c := 45) (S := S) (by omega)).2; omega)).1 | exact (write_14 (by omega)).1) (by have h9 := (write_14 (c := 45) (S := S) (by omega)).2; first | omega | (have := (wn_mr 6 (m / 10) _ (write_14 (c := 45) (S := S) (by omega)).1 (by omega)).2; omega))) dX7_writeNumber_43 zy_X7_write zm_X7_337 rfl rfl rfl rfl (Nat.le_of_ble_eq_true rfl) (by decide) (by decide)) (zlen2 14 rfl rfl) ?_
    rw [g_m_wneg, if_neg c24]
    try dsimp only
    exact z_vret dX7_writeNumber_46 rfl rfl rfl
/-- a number's digits, its hyphen ahead -/
noncomputable def g_m_wnum (v : Int32) (S : ZS) : ZS := if v < 0 then g_m_wneg (-v).toNatClampNeg v S else g_m_writeNumber 7 v.toNatClampNeg S
theorem zneg_nat {v : Int32} (h1 : -1000000 ≤ v) (h0 : v < 0) : -v = nI (-v).toNatClampNeg ∧ (-v).toNatClampNeg ≤ 1000000 := by
  have a1 : (-1000000 : Int) ≤ v.toInt := by rw [Int32.le_iff_toInt_le] at h1; exact h1
  have a2 : v.toInt < 0 := by rw [Int32.lt_iff_toInt_lt] at h0; exact h0
  have e : v = nI 0 - nI (-v.toInt).toNat := by
    apply Int32.toInt_inj.mp
    rw [pk_sub_toInt (by decide) (by omega)]
    omega
  have e2 : -v = nI (-v.toInt).toNat := by
    have h9 : nI (-v.toInt).toNat - nI 0 = nI ((-v.toInt).toNat - 0) := pk_sub (Nat.zero_le _)
    rw [Nat.sub_zero] at h9
    conv => lhs; rw [e]
    rw [Int32.neg_sub, h9]
  have e3 : (-v).toNatClampNeg = (-v.toInt).toNat := by rw [e2, nI_clamp (by omega)]
  rw [e3]
  exact ⟨e2, by omega⟩
theorem k_m_wnum (v : Int32) (S : ZS) (hr : S.1 14 = nI (mr S)) (h4 : mr S + 8 ≤ 400) (h1 : -1000000 ≤ v) (h2 : v ≤ 1000000) : zM sc yX7_writeNumber cX7_writeNumber 3 none 8 0 0 [.ref 0, .int v] (mh S) (.inl none) (mh (g_m_wnum v S)) := by
  rw [g_m_wnum]
  by_cases c : v < 0
  · rw [if_pos c]
    have hz := zneg_nat h1 c
    exact k_m_wneg (-v).toNatClampNeg v S hr h4 hz.2 c hz.1
  · rw [if_neg c]
    have hz := zI_in (x := v) (b := 1000000) (Int32.not_lt.mp c) h2 (by decide)
    have h := k_m_writeNumber (sc := sc) 7 v.toNatClampNeg S hr (by omega) (by omega) (Or.inr (by decide)) (by omega)
    rw [← hz.1] at h
    exact h
theorem wnum_mr {v : Int32} {S : ZS} (hr : S.1 14 = nI (mr S)) (h4 : mr S + 8 ≤ 400) : (g_m_wnum v S).1 14 = nI (mr (g_m_wnum v S)) ∧ mr (g_m_wnum v S) ≤ mr S + 8 := by
  rw [g_m_wnum]
  split
  next c =>
    have w1 := write_14 (c := 45) (S := S) (by omega)
    rw [g_m_wneg]
    split
    next c2 =>
      have h9 := write_14 (c := nI (48 + (-v).toNatClampNeg % 10)) (S := g_m_write 45 S) (by omega)
      exact ⟨h9.1, by omega⟩
    next c2 =>
      have h3 := wn_mr 6 ((-v).toNatClampNeg / 10) _ w1.1 (by omega)
      have h9 := write_14 (c := nI (48 + (-v).toNatClampNeg % 10)) (S := g_m_writeNumber 6 ((-v).toNatClampNeg / 10) (g_m_write 45 S)) (by omega)
      exact ⟨h9.1, by omega⟩
  next c =>
    have h3 := wn_mr 7 v.toNatClampNeg S hr (by omega)
    exact ⟨h3.1, by omega⟩
/-- the report alone differs -/
def rF (S R : ZS) : Prop := (∀ k, ¬ k = 14 → R.1 k = S.1 k) ∧ (∀ j, ¬ j = 7 → R.2 j = S.2 j)
theorem rF.rfl' (S : ZS) : rF S S := ⟨fun _ _ => rfl, fun _ _ => rfl⟩
theorem rF.trans {S R Q : ZS} (h : rF S R) (g : rF R Q) : rF S Q := ⟨fun k a => (g.1 k a).trans (h.1 k a), fun j a => (g.2 j a).trans (h.2 j a)⟩
theorem rF_write (c : Int32) (S : ZS) : rF S (g_m_write c S) := ⟨fun k a => by rw [g_m_write, sI_o a]; rfl, fun j a => by rw [g_m_write, sI_2, sA_x a]⟩
theorem rF_wn : ∀ fu m S, rF S (g_m_writeNumber fu m S) := by
  intro fu
  induction fu with
  | zero => intro m S; exact rF.rfl' S
  | succ fu ih =>
    intro m S
    rw [g_m_writeNumber]
    split
    · exact rF_write _ _
    · exact (ih _ _).trans (rF_write _ _)
theorem rF_wnum (v : Int32) (S : ZS) : rF S (g_m_wnum v S) := by
  rw [g_m_wnum]
  split
  · rw [g_m_wneg]
    split
    · exact (rF_write _ _).trans (rF_write _ _)
    · exact ((rF_write _ _).trans (rF_wn _ _ _)).trans (rF_write _ _)
  · exact rF_wn _ _ _
theorem rF.gr {n : Nat} {S R : ZS} (h : rF S R) (g : mGr n S) : mGr n R :=
  ⟨by rw [h.2 0 (by decide)]; exact g.1, by rw [h.1 19 (by decide)]; exact g.2.1, fun k hk => by rw [h.2 8 (by decide), h.2 9 (by decide)]; exact g.2.2.1 k hk, fun i hi => by rw [h.2 10 (by decide)]; exact g.2.2.2 i hi⟩
theorem seenL_eq {n k i : Nat} {S R : ZS} (h : R.2 0 = S.2 0) : ∀ fu x m, g_m_seenFrom_L n k i fu x m R = g_m_seenFrom_L n k i fu x m S := by
  intro fu
  induction fu with
  | zero => intro x m; rfl
  | succ fu ih =>
    intro x m
    rw [g_m_seenFrom_L, g_m_seenFrom_L, h, ih]
theorem seen_eq {n k i : Nat} {S R : ZS} (h : R.2 0 = S.2 0) : g_m_seenFrom n k i R = g_m_seenFrom n k i S := by
  rw [g_m_seenFrom, g_m_seenFrom, seenL_eq h, h]
theorem valueG_eq {n i : Nat} {S R : ZS} (h : R.2 0 = S.2 0) : g_m_valueG n i R = g_m_valueG n i S := by
  rw [g_m_valueG, g_m_valueG, seen_eq h]
/-- the elements are within bounds -/
def mBd (n : Nat) (S : ZS) : Prop := ∀ i, i < n → -1000000 ≤ g_m_valueG n i S ∧ g_m_valueG n i S ≤ 1000000
theorem mBd.eq {n : Nat} {S R : ZS} (g : mBd n S) (h : R.2 0 = S.2 0) : mBd n R := fun i hi => by rw [valueG_eq h]; exact g i hi
