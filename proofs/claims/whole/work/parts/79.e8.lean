variable {sc : SC}

/-- digits, and the number that they spell -/
theorem dig_nat {x : Int32} (h : g_c_4_isDigit x = true) : ∃ m : Nat, x = nI (48 + m) ∧ m ≤ 9 := by
  rw [g_c_4_isDigit] at h
  split at h
  · exact absurd h Bool.false_ne_true
  next c1 =>
    split at h
    · exact absurd h Bool.false_ne_true
    next c2 =>
      have a1 := Int32.not_lt.mp c1
      have a2 := Int32.not_lt.mp c2
      rw [Int32.le_iff_toInt_le] at a1 a2
      have b1 : (48 : Int32).toInt = 48 := by decide
      have b2 : (57 : Int32).toInt = 57 := by decide
      refine ⟨(x.toInt - 48).toNat, ?_, by omega⟩
      apply Int32.toInt_inj.mp
      rw [nI_toInt (by omega)]
      omega
theorem eotL_dig {t a : Nat} {X : ZS} : ∀ fu k, k + fu = t → ∀ j, k ≤ j → j < g_c_4_endOfToken_L t a fu k false X → g_c_4_isDigit (g_c_3_byteAt t j X) = true := by
  intro fu
  induction fu with
  | zero => intro k h j h1 h2; rw [g_c_4_endOfToken_L] at h2; omega
  | succ fu ih =>
    intro k h j h1 h2
    rw [g_c_4_endOfToken_L, if_neg Bool.false_ne_true] at h2
    split at h2
    next c =>
      by_cases e : j = k
      · rw [e]; exact c
      · exact ih (k + 1) (by omega) j (by omega) h2
    next c => omega
theorem eot_dig {t a : Nat} {X : ZS} (ha : a < t) (hl : ¬ g_c_4_isLetter (g_c_3_byteAt t a X) = true) (hd : g_c_4_isDigit (g_c_3_byteAt t a X) = true) : ∀ j, a ≤ j → j < g_c_4_endOfToken t a X → g_c_4_isDigit (g_c_3_byteAt t j X) = true := by
  intro j h1 h2
  rw [g_c_4_endOfToken, if_neg hl, if_pos hd, Bool.eq_false_iff.mpr hl] at h2
  by_cases e : j = a
  · rw [e]; exact hd
  · exact eotL_dig _ _ (by omega) j (by omega) h2
/-- the digits' value -/
noncomputable def dgv (t : Nat) (X : ZS) (k : Nat) : Nat := (g_c_3_byteAt t k X - 48).toNatClampNeg
noncomputable def dcv (t : Nat) (X : ZS) : Nat → Nat → Nat → Nat
  | 0, _, m => m
  | fu + 1, k, m => dcv t X fu (k + 1) (10 * m + dgv t X k)
theorem dgv_ok {t k : Nat} {X : ZS} (h : g_c_4_isDigit (g_c_3_byteAt t k X) = true) : g_c_3_byteAt t k X = nI (48 + dgv t X k) ∧ dgv t X k ≤ 9 := by
  obtain ⟨m, e, hm⟩ := dig_nat h
  have e2 : g_c_3_byteAt t k X - 48 = nI m := by
    rw [e]
    have h9 := pk_sub (a := 48 + m) (b := 48) (by omega)
    rw [Nat.add_sub_cancel_left] at h9
    exact h9
  have e3 : dgv t X k = m := by rw [dgv, e2, nI_clamp (by omega)]
  rw [e3]
  exact ⟨e, hm⟩
theorem dcv_lt {t : Nat} {X : ZS} : ∀ fu k m p, (∀ j, k ≤ j → j < k + fu → dgv t X j ≤ 9) → m < 10 ^ p → dcv t X fu k m < 10 ^ (p + fu) := by
  intro fu
  induction fu with
  | zero => intro k m p _ h; exact h
  | succ fu ih =>
    intro k m p hd h
    rw [dcv, show p + (fu + 1) = (p + 1) + fu by omega]
    refine ih (k + 1) _ (p + 1) (fun j h1 h2 => hd j (by omega) (by omega)) ?_
    have := hd k (Nat.le_refl _) (by omega)
    rw [Nat.pow_succ]
    omega
theorem numL_ok {t a e : Nat} {X : ZS} : ∀ fu k m, (∀ j, k ≤ j → j < k + fu → g_c_4_isDigit (g_c_3_byteAt t j X) = true) → g_c_4_numberOf_L t a e fu k (nI m) X = nI (dcv t X fu k m) := by
  intro fu
  induction fu with
  | zero => intro k m _; rfl
  | succ fu ih =>
    intro k m h
    rw [g_c_4_numberOf_L, dcv]
    have h1 := dgv_ok (h k (Nat.le_refl _) (by omega))
    have e1 : 10 * nI m + g_c_3_byteAt t k X - 48 = nI (10 * m + dgv t X k) := by
      rw [h1.1, show (10 : Int32) = nI 10 from rfl, pk_mul, nI_add]
      have h9 := pk_sub (a := 10 * m + (48 + dgv t X k)) (b := 48) (by omega)
      rw [show 10 * m + (48 + dgv t X k) - 48 = 10 * m + dgv t X k by omega] at h9
      exact h9
    rw [e1]
    exact ih (k + 1) _ (fun j h1 h2 => h j (by omega) (by omega))
theorem num_val {t a e : Nat} {X : ZS} (hae : a ≤ e) (h : ∀ j, a ≤ j → j < e → g_c_4_isDigit (g_c_3_byteAt t j X) = true) : g_c_4_numberOf t a e X = nI (dcv t X (e - a) a 0) ∧ dcv t X (e - a) a 0 < 10 ^ (e - a) := by
  have h1 : ∀ j, a ≤ j → j < a + (e - a) → g_c_4_isDigit (g_c_3_byteAt t j X) = true := fun j h1 h2 => h j h1 (by omega)
  refine ⟨numL_ok (e - a) a 0 h1, ?_⟩
  have h2 := dcv_lt (t := t) (X := X) (e - a) a 0 0 (fun j q1 q2 => (dgv_ok (h1 j q1 q2)).2) (by decide)
  rw [Nat.zero_add] at h2
  exact h2
theorem nAt (c k : Nat) (S : ZS) : g_c_4_numberAt c k S = if c ≤ k then 0 else S.2 4 k := rfl
theorem scN_put {c : Nat} {x f v : Int32} {S : ZS} {m : Nat} (h : scN c S) (hv : v = nI m) (hm : m ≤ 9999) : scN (c + 1) (g_c_4_put c x f v S) := by
  intro k
  have key : ∃ q, g_c_4_numberAt (c + 1) k (g_c_4_put c x f v S) = nI q ∧ q ≤ 9999 := by
    rw [nAt]
    split
    · exact ⟨0, rfl, by decide⟩
    next q =>
      by_cases e : k = c
      · subst e
        refine ⟨m, ?_, hm⟩
        rw [g_c_4_put]
        show (sA 4 k v _).2 4 k = _
        rw [sA_same, hv]
      · have h2 := h k
        rw [nAt, if_neg (by omega)] at h2
        refine ⟨nm c k S, ?_, h2.2⟩
        rw [g_c_4_put]
        show (sA 4 c v (sA 3 c f (sA 2 c x S))).2 4 k = _
        rw [sA_o e, sA_x (by decide), sA_x (by decide)]
        exact h2.1
  obtain ⟨q, h1, h2⟩ := key
  have e : nm (c + 1) k (g_c_4_put c x f v S) = q := by rw [nm, h1, nI_clamp (by omega)]
  rw [e]
  exact ⟨h1, h2⟩
theorem scN_take {t c a : Nat} {S X : ZS} (h : scN c S) (hat : a < t) : scN (c + 1) (g_c_4_take t c a (g_c_4_endOfToken t a X) S X) := by
  have he := eot_in (S := X) hat
  rw [g_c_4_take]
  split
  · exact scN_put h (m := 0) rfl (by decide)
  next c1 =>
    split
    next c2 =>
      split
      next c3 =>
        have hv := num_val (X := X) (Nat.le_of_lt he.1) (eot_dig hat c1 c2)
        refine scN_put h hv.1 ?_
        have : 10 ^ (g_c_4_endOfToken t a X - a) ≤ 10 ^ 4 := Nat.pow_le_pow_right (by decide) c3
        have e4 : 10 ^ 4 = 10000 := by decide
        omega
      · exact scN_put h (m := 0) rfl (by decide)
    · exact scN_put h (m := 0) rfl (by decide)
/-- what splitting leaves -/
def spF (S R : ZS) : Prop := (∀ k, ¬ k = 4 → R.1 k = S.1 k) ∧ ∀ j, ¬ j = 2 → ¬ j = 3 → ¬ j = 4 → R.2 j = S.2 j
theorem splitL_ok {t : Nat} {X : ZS} : ∀ fu e k c S, k + fu = t → c ≤ k → scN c S → ∃ c', (g_c_4_split_L t fu e k c S X).1 4 = nI c' ∧ c' ≤ t + 1 ∧ scN c' (g_c_4_split_L t fu e k c S X) ∧ spF S (g_c_4_split_L t fu e k c S X) := by
  intro fu
  induction fu with
  | zero =>
    intro e k c S h hc hN
    rw [g_c_4_split_L]
    exact ⟨c + 1, put_ok.1, by omega, scN_put hN (m := 0) rfl (by decide), put_ok.2.1, put_ok.2.2⟩
  | succ fu ih =>
    intro e k c S h hc hN
    rw [g_c_4_split_L]
    split
    · exact ih e (k + 1) c S (by omega) (by omega) hN
    · split
      · exact ih e (k + 1) c S (by omega) (by omega) hN
      · obtain ⟨c', h1, h2, h3, h4, h5⟩ := ih (g_c_4_endOfToken t k X) (k + 1) (c + 1) (g_c_4_take t c k (g_c_4_endOfToken t k X) S X) (by omega) (by omega) (scN_take hN (by omega))
        exact ⟨c', h1, h2, h3, fun j hj => (h4 j hj).trans (take_ok.2.1 j hj), fun j a b d => (h5 j a b d).trans (take_ok.2.2 j a b d)⟩
/-- how many tokens -/
noncomputable def kc (t : Nat) (S X : ZS) : Nat := ((g_c_4_split t S X).1 4).toNatClampNeg
theorem split_ok {t : Nat} {S X : ZS} (h6 : t ≤ 600) : (g_c_4_split t S X).1 4 = nI (kc t S X) ∧ kc t S X ≤ 601 ∧ scN (kc t S X) (g_c_4_split t S X) ∧ spF S (g_c_4_split t S X) := by
  have hN : scN 0 (sI 4 0 S) := fun k => by
    have e : g_c_4_numberAt 0 k (sI 4 0 S) = nI 0 := by rw [nAt, if_pos (Nat.zero_le _)]; rfl
    have e2 : nm 0 k (sI 4 0 S) = 0 := by rw [nm, e]; rfl
    rw [e2]
    exact ⟨e, by decide⟩
  obtain ⟨c', h1, h2, h3, h4, h5⟩ := splitL_ok (t := t) (X := X) t 0 0 0 (sI 4 0 S) (by omega) (Nat.le_refl _) hN
  have e : kc t S X = c' := by
    rw [kc, g_c_4_split, h1, nI_clamp (by omega)]
  rw [e]
  exact ⟨h1, by omega, h3, fun j hj => (h4 j hj).trans (sI_o hj), h5⟩
