variable {sc : SC}

/-- how far the report goes -/
noncomputable def rr (S : ZS) : Nat := (S.1 3).toNatClampNeg
theorem rr_nI {S : ZS} {e : Nat} (h : S.1 3 = nI e) (he : e ≤ 400) : rr S = e := by rw [rr, h, nI_clamp (by omega)]
theorem put_rr {c : Int32} {S : ZS} (h : rr S < 360) : (g_c_1_put (rr S) c S).1 3 = nI (rr (g_c_1_put (rr S) c S)) ∧ rr (g_c_1_put (rr S) c S) = rr S + 1 := by
  have e : (g_c_1_put (rr S) c S).1 3 = nI (rr S + 1) := rfl
  have e2 := rr_nI e (by omega)
  exact ⟨by rw [e2]; exact e, e2⟩
/-- the powers of ten, downward -/
def zpw : Nat → Nat
  | 0 => 0
  | k + 1 => 10 ^ k
theorem zpw_div (k : Nat) : zpw (k + 1) / 10 = zpw k := by
  cases k with
  | zero => rfl
  | succ k =>
    show 10 ^ (k + 1) / 10 = 10 ^ k
    rw [Nat.pow_succ, Nat.mul_div_cancel _ (by decide)]
theorem zpw_le {k : Nat} (h : k ≤ 7) : zpw k ≤ 1000000 := by
  match k, h with
  | 0, _ => decide
  | 1, _ => decide
  | 2, _ => decide
  | 3, _ => decide
  | 4, _ => decide
  | 5, _ => decide
  | 6, _ => decide
  | 7, _ => decide
theorem zpw_pos (k : Nat) : 1 ≤ zpw (k + 1) := Nat.pow_pos (by decide)
noncomputable def g_c_1_putNumber_L (m : Nat) (v : Int32) : Nat → Nat → Nat → ZS → ZS
  | 0, _, _, S => S
  | fu + 1, q, p, S => (if p ≤ q then g_c_1_putNumber_L m v fu q (p / 10) (g_c_1_put (rr S) (nI (48 + ((q / p) % 10))) S) else (if p = 1 then g_c_1_putNumber_L m v fu q (p / 10) (g_c_1_put (rr S) (nI (48 + ((q / p) % 10))) S) else g_c_1_putNumber_L m v fu q (p / 10) S))
theorem l_g_c_1_putNumber_L (m : Nat) (v : Int32) : ∀ (fu : Nat) (q : Nat) (p : Nat) (S : ZS) , (S.1 3 = nI (rr S)) → (q ≤ 1000000) → (p = zpw fu) → (fu ≤ 7) → (rr S + fu ≤ 360) → Z sc yX1_putNumber cX1_putNumber 4 none 1 0 0 18 [some (.ref 0), some (.int (v)), some (.int (nI (q))), some (.int (nI (p)))] [] (rho 0 S) (.inl none) (rho 0 (g_c_1_putNumber_L m v fu q p S)) := by
  intro fu
  induction fu with
  | zero =>
    intro q p S hr hm6 hp hf h4
    have hp7 := zpw_le hf
    refine z_iload_3 dX1_putNumber_18 ?_
    refine z_iconst (v := 1) dX1_putNumber_19 rfl ?_
    refine z_icmpN_lt_t (tgt := 54) dX1_putNumber_20 (by decide) (x := p) (z := 1) (by omega) (by omega) (by rw [hp]; decide) ?_
    rw [g_c_1_putNumber_L]
    exact z_vret dX1_putNumber_54 rfl rfl rfl
  | succ fu ih =>
    intro q p S hr hm6 hp hf h4
    have hp7 := zpw_le hf
    refine z_iload_3 dX1_putNumber_18 ?_
    refine z_iconst (v := 1) dX1_putNumber_19 rfl ?_
    refine z_icmpN_lt_f (tgt := 54) dX1_putNumber_20 (by decide) (x := p) (z := 1) (by omega) (by omega) (by rw [hp]; exact Nat.not_lt.mpr (zpw_pos fu)) ?_
    have hp1 : 1 ≤ p := by rw [hp]; exact zpw_pos fu
    have hqp : q / p ≤ q := Nat.div_le_self _ _
    have hpz : ¬ nI p = 0 := fun z => absurd ((zI_eq (a := p) (b := 0) (by omega) (by decide)).mp z) (by omega)
    refine z_iload_2 dX1_putNumber_23 ?_
    refine z_iload_3 dX1_putNumber_24 ?_
    refine z_icmpN_ge (tgt := 33) dX1_putNumber_25 (by decide) (x := q) (z := p) (by first | omega | assumption) (by first | omega | assumption) (fun c25 => ?_) (fun c25 => ?_)
    · refine z_aload_0 dX1_putNumber_33 ?_
      refine z_bipush (v := 48) dX1_putNumber_34 rfl ?_
      refine z_iload_2 dX1_putNumber_36 ?_
      refine z_iload_3 dX1_putNumber_37 ?_
      refine z_idiv dX1_putNumber_38 hpz ?_
      refine z_topi (w := nI (q / p)) (pk_div (by first | omega | assumption) (by omega) (by omega)) ?_
      refine z_bipush (v := 10) dX1_putNumber_39 rfl ?_
      refine z_irem dX1_putNumber_41 (by decide) ?_
      refine z_topi (w := nI ((q / p) % 10)) (zremN (by first | omega | assumption) (by decide) (by decide)) ?_
      refine z_iadd dX1_putNumber_42 ?_
      refine z_topi (w := nI (48 + ((q / p) % 10))) (nI_add _ _) ?_
      refine Z.call0n (zRun.V (ρ := fun i => i) (k_c_1_put (rr S) (nI (48 + ((q / p) % 10))) S hr (by omega)) dX1_putNumber_43 zy_X1_put zm_X1_19 rfl rfl rfl rfl (Nat.le_of_ble_eq_true rfl) (by decide) (by decide)) (zlen2 2 rfl rfl) ?_
      refine z_iload_3 dX1_putNumber_46 ?_
      refine z_bipush (v := 10) dX1_putNumber_47 rfl ?_
      refine z_idiv dX1_putNumber_49 (by decide) ?_
      refine z_topi (w := nI (p / 10)) (pk_div (by first | omega | assumption) (by decide) (by decide)) ?_
      refine z_istore_3 dX1_putNumber_50 rfl (by decide) ?_
      refine z_goto (tgt := 18) dX1_putNumber_51 (by decide) ?_
      have hp7 := zpw_le hf
      rw [g_c_1_putNumber_L, if_pos c25]
      exact ih q (p / 10) (g_c_1_put (rr S) (nI (48 + ((q / p) % 10))) S) (by first | exact hr | exact (put_rr (by omega)).1) hm6 (by rw [hp]; exact zpw_div fu) (by first | omega | assumption) (by first | omega | (have h9 := (put_rr (c := nI (48 + q / p % 10)) (S := S) (by omega)).2; omega))
    · refine z_iload_3 dX1_putNumber_28 ?_
      refine z_iconst (v := 1) dX1_putNumber_29 rfl ?_
      refine z_icmpN_ne (tgt := 46) dX1_putNumber_30 (by decide) (x := p) (z := 1) (by first | omega | assumption) (by first | omega | assumption) (fun c30 => ?_) (fun c30 => ?_)
      · refine z_iload_3 dX1_putNumber_46 ?_
        refine z_bipush (v := 10) dX1_putNumber_47 rfl ?_
        refine z_idiv dX1_putNumber_49 (by decide) ?_
        refine z_topi (w := nI (p / 10)) (pk_div (by first | omega | assumption) (by decide) (by decide)) ?_
        refine z_istore_3 dX1_putNumber_50 rfl (by decide) ?_
        refine z_goto (tgt := 18) dX1_putNumber_51 (by decide) ?_
        have hp7 := zpw_le hf
        rw [g_c_1_putNumber_L, if_neg c25, if_neg c30]
        exact ih q (p / 10) S (by first | exact hr | exact (put_rr (by omega)).1) hm6 (by rw [hp]; exact zpw_div fu) (by first | omega | assumption) (by first | omega | (have h9 := (put_rr (c := nI (48 + q / p % 10)) (S := S) (by omega)).2; omega))
      · refine z_aload_0 dX1_putNumber_33 ?_
        refine z_bipush (v := 48) dX1_putNumber_34 rfl ?_
        refine z_iload_2 dX1_putNumber_36 ?_
        refine z_iload_3 dX1_putNumber_37 ?_
        refine z_idiv dX1_putNumber_38 hpz ?_
        refine z_topi (w := nI (q / p)) (pk_div (by first | omega | assumption) (by omega) (by omega)) ?_
        refine z_bipush (v := 10) dX1_putNumber_39 rfl ?_
        refine z_irem dX1_putNumber_41 (by decide) ?_
        refine z_topi (w := nI ((q / p) % 10)) (zremN (by first | omega | assumption) (by decide) (by decide)) ?_
        refine z_iadd dX1_putNumber_42 ?_
        refine z_topi (w := nI (48 + ((q / p) % 10))) (nI_add _ _) ?_
        refine Z.call0n (zRun.V (ρ := fun i => i) (k_c_1_put (rr S) (nI (48 + ((q / p) % 10))) S hr (by omega)) dX1_putNumber_43 zy_X1_put zm_X1_19 rfl rfl rfl rfl (Nat.le_of_ble_eq_true rfl) (by decide) (by decide)) (zlen2 2 rfl rfl) ?_
        refine z_iload_3 dX1_putNumber_46 ?_
        refine z_bipush (v := 10) dX1_putNumber_47 rfl ?_
        refine z_idiv dX1_putNumber_49 (by decide) ?_
        refine z_topi (w := nI (p / 10)) (pk_div (by first | omega | assumption) (by decide) (by decide)) ?_
        refine z_istore_3 dX1_putNumber_50 rfl (by decide) ?_
        refine z_goto (tgt := 18) dX1_putNumber_51 (by decide) ?_
        have hp7 := zpw_le hf
        rw [g_c_1_putNumber_L, if_neg c25, if_pos c30]
        exact ih q (p / 10) (g_c_1_put (rr S) (nI (48 + ((q / p) % 10))) S) (by first | exact hr | exact (put_rr (by omega)).1) hm6 (by rw [hp]; exact zpw_div fu) (by first | omega | assumption) (by first | omega | (have h9 := (put_rr (c := nI (48 + q / p % 10)) (S := S) (by omega)).2; omega))
noncomputable def g_c_1_putNumber (m : Nat) (v : Int32) (S : ZS) : ZS := (if 0 ≤ v then g_c_1_putNumber_L m v 7 m 1000000 S else g_c_1_putNumber_L m v 7 m 1000000 (g_c_1_put (rr S) (45) S))
theorem k_c_1_putNumber (m : Nat) (v : Int32) (S : ZS) (hr : S.1 3 = nI (rr S)) (h4 : rr S + 8 ≤ 360) (hm : zabs v = nI m) (hm6 : m ≤ 1000000) : zM sc yX1_putNumber cX1_putNumber 4 none 1 0 0 [.ref 0, .int (v)] (rho 0 S) (.inl none) (rho 0 (g_c_1_putNumber m v S)) := by
  refine zM.at (ls := [some (.ref 0), some (.int (v)), none, none]) zy_X1_putNumber.2.2.2.2.2 (Nat.le_of_ble_eq_true rfl) rfl ?_
  refine z_iload_1 dX1_putNumber_0 ?_
  refine z_if_ge (tgt := 10) dX1_putNumber_1 (by decide) (fun c1 => ?_) (fun c1 => ?_)
  · refine z_iload_1 dX1_putNumber_10 ?_
    refine z_mb dX1_putNumber_11 zm_X1_23 (by decide) (Nat.le_of_ble_eq_true rfl) ?_
    refine z_topi (w := zabs (v)) rfl ?_
    refine z_topi (w := nI (m)) hm ?_
    refine z_istore_2 dX1_putNumber_14 rfl (by decide) ?_
    refine z_ldc (v := 1000000) dX1_putNumber_15 zk_X1_29 ?_
    refine z_istore_3 dX1_putNumber_17 rfl (by decide) ?_
    rw [g_c_1_putNumber, if_pos c1]
    exact l_g_c_1_putNumber_L m v 7 m 1000000 S (by first | exact hr | exact (put_rr (by omega)).1) hm6 rfl (by first | omega | assumption) (by first | omega | (have h9 := (put_rr (c := 45) (S := S) (by omega)).2; omega))
  · refine z_aload_0 dX1_putNumber_4 ?_
    refine z_bipush (v := 45) dX1_putNumber_5 rfl ?_
    refine Z.call0n (zRun.V (ρ := fun i => i) (k_c_1_put (rr S) (45) S hr (by omega)) dX1_putNumber_7 zy_X1_put zm_X1_19 rfl rfl rfl rfl (Nat.le_of_ble_eq_true rfl) (by decide) (by decide)) (zlen2 2 rfl rfl) ?_
    refine z_iload_1 dX1_putNumber_10 ?_
    refine z_mb dX1_putNumber_11 zm_X1_23 (by decide) (Nat.le_of_ble_eq_true rfl) ?_
    refine z_topi (w := zabs (v)) rfl ?_
    refine z_topi (w := nI (m)) hm ?_
    refine z_istore_2 dX1_putNumber_14 rfl (by decide) ?_
    refine z_ldc (v := 1000000) dX1_putNumber_15 zk_X1_29 ?_
    refine z_istore_3 dX1_putNumber_17 rfl (by decide) ?_
    rw [g_c_1_putNumber, if_neg c1]
    exact l_g_c_1_putNumber_L m v 7 m 1000000 (g_c_1_put (rr S) (45) S) (by first | exact hr | exact (put_rr (by omega)).1) hm6 rfl (by first | omega | assumption) (by first | omega | (have h9 := (put_rr (c := 45) (S := S) (by omega)).2; omega))
theorem pnL_rr {m : Nat} {v : Int32} : ∀ fu q p S, S.1 3 = nI (rr S) → rr S + fu ≤ 360 → (g_c_1_putNumber_L m v fu q p S).1 3 = nI (rr (g_c_1_putNumber_L m v fu q p S)) ∧ rr S ≤ rr (g_c_1_putNumber_L m v fu q p S) ∧ rr (g_c_1_putNumber_L m v fu q p S) ≤ rr S + fu := by
  intro fu
  induction fu with
  | zero => intro q p S h h2; exact ⟨h, Nat.le_refl _, Nat.le_refl _⟩
  | succ fu ih =>
    intro q p S h h2
    have h4 := fun c => put_rr (c := c) (S := S) (by omega)
    have h5 := fun c => ih q (p / 10) (g_c_1_put (rr S) c S) (h4 c).1 (by have := (h4 c).2; omega)
    have h6 := ih q (p / 10) S h (by omega)
    rw [g_c_1_putNumber_L]
    split
    · exact ⟨(h5 _).1, by have := (h5 (nI (48 + q / p % 10))).2.1; have := (h4 (nI (48 + q / p % 10))).2; omega, by have := (h5 (nI (48 + q / p % 10))).2.2; have := (h4 (nI (48 + q / p % 10))).2; omega⟩
    · split
      · exact ⟨(h5 _).1, by have := (h5 (nI (48 + q / p % 10))).2.1; have := (h4 (nI (48 + q / p % 10))).2; omega, by have := (h5 (nI (48 + q / p % 10))).2.2; have := (h4 (nI (48 + q / p % 10))).2; omega⟩
      · exact ⟨h6.1, h6.2.1, by omega⟩
theorem pn_rr {m : Nat} {v : Int32} {S : ZS} (h : S.1 3 = nI (rr S)) (h2 : rr S + 8 ≤ 360) : (g_c_1_putNumber m v S).1 3 = nI (rr (g_c_1_putNumber m v S)) ∧ rr S ≤ rr (g_c_1_putNumber m v S) ∧ rr (g_c_1_putNumber m v S) ≤ rr S + 8 := by
  rw [g_c_1_putNumber]
  split
  · have h6 := pnL_rr (m := m) (v := v) 7 m 1000000 S h (by omega)
    exact ⟨h6.1, h6.2.1, by omega⟩
  · have h4 := put_rr (c := 45) (S := S) (by omega)
    have h6 := pnL_rr (m := m) (v := v) 7 m 1000000 _ h4.1 (by omega)
    exact ⟨h6.1, by omega, by omega⟩
/-- an element's value without its sign -/
theorem zabs_el {v : Int32} (h : tEl v) : zabs v = nI v.toInt.natAbs ∧ v.toInt.natAbs ≤ 1000000 := by
  have h1 : (-1000000 : Int) ≤ v.toInt := by have := h.1; rw [Int32.le_iff_toInt_le] at this; exact this
  have h2 : v.toInt ≤ 1000000 := by have := h.2; rw [Int32.le_iff_toInt_le] at this; exact this
  refine ⟨?_, by omega⟩
  rw [zabs]
  split
  next c =>
    have c1 : 0 ≤ v.toInt := by
      rw [Int32.le_iff_toInt_le] at c
      exact c
    apply Int32.toInt_inj.mp
    rw [nI_toInt (by omega)]
    omega
  next c =>
    have c1 : v.toInt < 0 := by rw [Int32.le_iff_toInt_le] at c; exact Int.not_le.mp c
    have e3 : (0 - v).toInt = -v.toInt := by
      have e : v = nI 0 - nI (-v.toInt).toNat := by
        apply Int32.toInt_inj.mp
        rw [pk_sub_toInt (by decide) (by omega)]
        omega
      have e2 : 0 - v = nI (-v.toInt).toNat := by
        have h9 : nI (-v.toInt).toNat - nI 0 = nI ((-v.toInt).toNat - 0) := pk_sub (Nat.zero_le _)
        rw [Nat.sub_zero] at h9
        conv => lhs; rw [e]
        rw [Int32.zero_sub, Int32.neg_sub, h9]
      rw [e2, nI_toInt (by omega)]
      omega
    apply Int32.toInt_inj.mp
    rw [nI_toInt (by omega), e3]
    omega
theorem putInt_2 (t : Nat) (v : Int32) (S : ZS) : (g_c_3_putInt t v S).1 2 = nI (t + 4) := rfl
noncomputable def g_c_6_append (t : Nat) (a : Int32) (b : Int32) (c : Int32) (d : Int32) (e : Int32) (_S : ZS) (X : ZS) (_R : ZS) (_T : TS) : Int32 × ZS := (if t + 20 ≤ 600 then (nI (t + 4 + 4 + 4 + 4 + 4), (g_c_3_putInt (t + 4 + 4 + 4 + 4) (e) (g_c_3_putInt (t + 4 + 4 + 4) (d) (g_c_3_putInt (t + 4 + 4) (c) (g_c_3_putInt (t + 4) (b) (g_c_3_putInt t (a) X)))))) else ((-1), X))
theorem k_c_6_append (t : Nat) (a : Int32) (b : Int32) (c : Int32) (d : Int32) (e : Int32) (S : ZS) (X : ZS) (R : ZS) (T : TS) (ht : X.1 2 = nI t) (h6 : t ≤ 600) : zM sc yX6_append cX6_append 6 (some .int) 1 0 0 [.ref 0, .int (a), .int (b), .int (c), .int (d), .int (e)] (qh S X R T) (.inl (some (.int (g_c_6_append t a b c d e S X R T).1))) (qh S (g_c_6_append t a b c d e S X R T).2 R T) := by
  refine zM.at (ls := [some (.ref 0), some (.int (a)), some (.int (b)), some (.int (c)), some (.int (d)), some (.int (e))]) zy_X6_append.2.2.2.2.2 (Nat.le_of_ble_eq_true rfl) rfl ?_
  refine z_aload_0 dX6_append_0 ?_
  refine z_get (k := 4) (v := .ref 10) dX6_append_1 rfl rfl rfl (by decide) zf_X6_33 zw_in6 ?_
  refine Z.shs (qh S X R T) (zRun.V (ρ := zsh 10) (k_c_3_length X ) dX6_append_4 zy_X3_length zm_X6_63 rfl rfl rfl rfl (Nat.le_of_ble_eq_true rfl) (by decide) (by decide) (zsh_fix 10)) (zsh_inj (Nat.le_of_ble_eq_true rfl)) ⟨rfl, rfl, trivial⟩ (zlen2 2 rfl rfl) rfl rfl ?_
  refine z_topi (w := nI (t)) ht ?_
  refine z_bipush (v := 20) dX6_append_7 rfl ?_
  refine z_iadd dX6_append_9 ?_
  refine z_topi (w := nI (t + 20)) (nI_add _ _) ?_
  refine z_sipush (v := 600) dX6_append_10 rfl ?_
  refine z_icmpN_le (tgt := 18) dX6_append_13 (by decide) (x := t + 20) (z := 600) (by first | omega | assumption) (by first | omega | assumption) (fun c13 => ?_) (fun c13 => ?_)
  · refine z_aload_0 dX6_append_18 ?_
    refine z_get (k := 4) (v := .ref 10) dX6_append_19 rfl rfl rfl (by decide) zf_X6_33 zw_in6 ?_
    refine z_iload_1 dX6_append_22 ?_
    refine Z.shn (qh S (g_c_3_putInt t (a) X) R T) (zRun.V (ρ := zsh 10) (k_c_3_putInt t (a) X ht (by omega)) dX6_append_23 zy_X3_putInt zm_X6_67 rfl rfl rfl rfl (Nat.le_of_ble_eq_true rfl) (by decide) (by decide) (zsh_fix 10)) (zsh_inj (Nat.le_of_ble_eq_true rfl)) ⟨rfl, rfl, trivial⟩ (zlen2 2 rfl rfl) rfl ?_
    obtain ⟨Xn1, en1⟩ : ∃ z, z = (g_c_3_putInt t (a) X) := ⟨_, rfl⟩
    rw [← en1]
    have f1 : Xn1.1 2 = nI (t + 4) := by rw [en1]; exact putInt_2 _ _ _
    refine z_aload_0 dX6_append_26 ?_
    refine z_get (k := 4) (v := .ref 10) dX6_append_27 rfl rfl rfl (by decide) zf_X6_33 zw_in6 ?_
    refine z_iload_2 dX6_append_30 ?_
    refine Z.shn (qh S (g_c_3_putInt (t + 4) (b) Xn1) R T) (zRun.V (ρ := zsh 10) (k_c_3_putInt (t + 4) (b) Xn1 f1 (by omega)) dX6_append_31 zy_X3_putInt zm_X6_67 rfl rfl rfl rfl (Nat.le_of_ble_eq_true rfl) (by decide) (by decide) (zsh_fix 10)) (zsh_inj (Nat.le_of_ble_eq_true rfl)) ⟨rfl, rfl, trivial⟩ (zlen2 2 rfl rfl) rfl ?_
    obtain ⟨Xn2, en2⟩ : ∃ z, z = (g_c_3_putInt (t + 4) (b) Xn1) := ⟨_, rfl⟩
    rw [← en2]
    have f2 : Xn2.1 2 = nI (t + 4 + 4) := by rw [en2]; exact putInt_2 _ _ _
    refine z_aload_0 dX6_append_34 ?_
    refine z_get (k := 4) (v := .ref 10) dX6_append_35 rfl rfl rfl (by decide) zf_X6_33 zw_in6 ?_
    refine z_iload_3 dX6_append_38 ?_
    refine Z.shn (qh S (g_c_3_putInt (t + 4 + 4) (c) Xn2) R T) (zRun.V (ρ := zsh 10) (k_c_3_putInt (t + 4 + 4) (c) Xn2 f2 (by omega)) dX6_append_39 zy_X3_putInt zm_X6_67 rfl rfl rfl rfl (Nat.le_of_ble_eq_true rfl) (by decide) (by decide) (zsh_fix 10)) (zsh_inj (Nat.le_of_ble_eq_true rfl)) ⟨rfl, rfl, trivial⟩ (zlen2 2 rfl rfl) rfl ?_
    obtain ⟨Xn3, en3⟩ : ∃ z, z = (g_c_3_putInt (t + 4 + 4) (c) Xn2) := ⟨_, rfl⟩
    rw [← en3]
    have f3 : Xn3.1 2 = nI (t + 4 + 4 + 4) := by rw [en3]; exact putInt_2 _ _ _
    refine z_aload_0 dX6_append_42 ?_
    refine z_get (k := 4) (v := .ref 10) dX6_append_43 rfl rfl rfl (by decide) zf_X6_33 zw_in6 ?_
    refine z_iload_4 dX6_append_46 ?_
    refine Z.shn (qh S (g_c_3_putInt (t + 4 + 4 + 4) (d) Xn3) R T) (zRun.V (ρ := zsh 10) (k_c_3_putInt (t + 4 + 4 + 4) (d) Xn3 f3 (by omega)) dX6_append_48 zy_X3_putInt zm_X6_67 rfl rfl rfl rfl (Nat.le_of_ble_eq_true rfl) (by decide) (by decide) (zsh_fix 10)) (zsh_inj (Nat.le_of_ble_eq_true rfl)) ⟨rfl, rfl, trivial⟩ (zlen2 2 rfl rfl) rfl ?_
    obtain ⟨Xn4, en4⟩ : ∃ z, z = (g_c_3_putInt (t + 4 + 4 + 4) (d) Xn3) := ⟨_, rfl⟩
    rw [← en4]
    have f4 : Xn4.1 2 = nI (t + 4 + 4 + 4 + 4) := by rw [en4]; exact putInt_2 _ _ _
    refine z_aload_0 dX6_append_51 ?_
    refine z_get (k := 4) (v := .ref 10) dX6_append_52 rfl rfl rfl (by decide) zf_X6_33 zw_in6 ?_
    refine z_iload_5 dX6_append_55 ?_
    refine Z.shn (qh S (g_c_3_putInt (t + 4 + 4 + 4 + 4) (e) Xn4) R T) (zRun.V (ρ := zsh 10) (k_c_3_putInt (t + 4 + 4 + 4 + 4) (e) Xn4 f4 (by omega)) dX6_append_57 zy_X3_putInt zm_X6_67 rfl rfl rfl rfl (Nat.le_of_ble_eq_true rfl) (by decide) (by decide) (zsh_fix 10)) (zsh_inj (Nat.le_of_ble_eq_true rfl)) ⟨rfl, rfl, trivial⟩ (zlen2 2 rfl rfl) rfl ?_
    obtain ⟨Xn5, en5⟩ : ∃ z, z = (g_c_3_putInt (t + 4 + 4 + 4 + 4) (e) Xn4) := ⟨_, rfl⟩
    rw [← en5]
    have f5 : Xn5.1 2 = nI (t + 4 + 4 + 4 + 4 + 4) := by rw [en5]; exact putInt_2 _ _ _
    refine z_aload_0 dX6_append_60 ?_
    refine z_get (k := 4) (v := .ref 10) dX6_append_61 rfl rfl rfl (by decide) zf_X6_33 zw_in6 ?_
    refine Z.shs (qh S Xn5 R T) (zRun.V (ρ := zsh 10) (k_c_3_length Xn5 ) dX6_append_64 zy_X3_length zm_X6_63 rfl rfl rfl rfl (Nat.le_of_ble_eq_true rfl) (by decide) (by decide) (zsh_fix 10)) (zsh_inj (Nat.le_of_ble_eq_true rfl)) ⟨rfl, rfl, trivial⟩ (zlen2 2 rfl rfl) rfl rfl ?_
    refine z_topi (w := nI (t + 4 + 4 + 4 + 4 + 4)) f5 ?_
    subst en5
    subst en4
    subst en3
    subst en2
    subst en1
    rw [g_c_6_append, if_pos c13]
    exact z_iret dX6_append_67 rfl (zint _) rfl rfl
  · refine z_iconst (v := (-1)) dX6_append_16 rfl ?_
    rw [g_c_6_append, if_neg c13]
    exact z_iret dX6_append_17 rfl (zint _) rfl rfl
