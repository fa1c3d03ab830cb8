variable {sc : SC}
/-! ===== both begin alike ===== -/
theorem tellL_6 {tl i : Nat} : ∀ fu k p S y, (g_m_tell_L tl i fu k p S).2 6 y = if p ≤ y ∧ y < p + fu then (zby i).getD (k + (y - p)) 0 else S.2 6 y := by
  intro fu
  induction fu with
  | zero => intro k p S y; rw [g_m_tell_L, if_neg (by omega)]
  | succ fu ih =>
    intro k p S y
    rw [g_m_tell_L, ih]
    by_cases c : y = p
    · rw [if_neg (by omega), if_pos (by omega), c]
      show (sA 6 p ((zby i).getD k 0) S).2 6 p = _
      rw [sA_same, Nat.sub_self, Nat.add_zero]
    · by_cases d : p + 1 ≤ y ∧ y < p + 1 + fu
      · rw [if_pos d, if_pos (by omega)]
        congr 1
        omega
      · rw [if_neg d, if_neg (by omega)]
        show (sA 6 p ((zby i).getD k 0) S).2 6 y = _
        rw [sA_o c]
theorem mS1_6 : mS1.2 6 = zX19 := by
  funext y
  show (g_m_tell 0 19 mS0).2 6 y = zT19.getD y 0
  rw [g_m_tell, tellL_6, zby19_eq]
  by_cases c : y < zT19.length
  · rw [if_pos ⟨Nat.zero_le _, by omega⟩, Nat.zero_add, Nat.sub_zero]
  · rw [if_neg (by omega), List.getD_eq_getElem?_getD, List.getElem?_eq_none (by omega)]
    rfl
def zE0 (i : Nat) : Int32 := FV i
def zE1 (i : Nat) : Int32 := if 1 ≤ i ∧ i ≤ 6 then 1 * zE0 i + 2 else zE0 i
def zE2 (i : Nat) : Int32 := if 3 ≤ i ∧ i ≤ 4 then 0 * zE1 i + 8 else zE1 i
def zE3 (i : Nat) : Int32 := if 0 ≤ i ∧ i ≤ 4 then -1 * zE2 i + 0 else zE2 i
theorem minF_cong {v v' : Nat → Int32} {n : Nat} (h : ∀ i, i < n → v i = v' i) : ∀ (fu i : Nat) (x : Int32), i + fu ≤ n → tMinF v fu i x = tMinF v' fu i x := by
  intro fu
  induction fu with
  | zero => intro i x _; rfl
  | succ fu ih =>
    intro i x hi
    show tMinF v fu (i + 1) (zmin x (v i)) = tMinF v' fu (i + 1) (zmin x (v' i))
    rw [h i (by omega), ih (i + 1) _ (by omega)]
theorem maxF_cong {v v' : Nat → Int32} {n : Nat} (h : ∀ i, i < n → v i = v' i) : ∀ (fu i : Nat) (x : Int32), i + fu ≤ n → tMaxF v fu i x = tMaxF v' fu i x := by
  intro fu
  induction fu with
  | zero => intro i x _; rfl
  | succ fu ih =>
    intro i x hi
    show tMaxF v fu (i + 1) (zmax x (v i)) = tMaxF v' fu (i + 1) (zmax x (v' i))
    rw [h i (by omega), ih (i + 1) _ (by omega)]
theorem can_of {T : TS} {E : Nat → Int32} {a b : Nat} {v : Int32} (h : ∀ i, i < 10 → tva T i = E i) (hab : a ≤ b) (hb : b < 10) (h1 : tEl (tMinF E (b - a) (a + 1) (E a) + v)) (h2 : tEl (tMaxF E (b - a) (a + 1) (E a) + v)) : tCan T a b v := by
  refine ⟨?_, ?_⟩
  · rw [minF_cong h _ _ _ (by omega), h a (by omega)]; exact h1
  · rw [maxF_cong h _ _ _ (by omega), h a (by omega)]; exact h2
theorem stQ.va {x : Nat → Int32} {t p u : Nat} {T : TS} {E : Nat → Int32} {M : ZS} (h : stQ x t p u T E M) : ∀ i, i < 10 → tva T i = E i := fun i hi => (h.2.1.2.2.2.2.2 i hi).trans (h.2.2 i hi)
theorem bd_all {E : Nat → Int32} {A v : Int32} {f g : Nat} (hg : g < 10) (h : ∀ i, i < 10 → -1000000 ≤ (A * E i + v).toInt ∧ (A * E i + v).toInt ≤ 1000000) : ∀ i, f ≤ i → i ≤ g → bd (A * E i + v) := fun i _ b => h i (by omega)
theorem start_row : ∃ R, g_m_parses 80 mS1 = (true, R) ∧ R.1 11 = 0 ∧ R.1 12 = -1 ∧ Rel 10 iT4 (R.2 0) := by
  have h10 : mS1.1 10 = nI 80 := by
    have h := mS1_10
    rw [len19] at h
    exact h
  obtain ⟨N, hpar, hL0, hF2, hM0, rlo, rhi⟩ := parse_begin (by decide) h10 mS1_fg
  rw [mS1_6] at hM0
  have hsay : g_m_says 80 20 N = true := (r_word hM0 ta19_0.1 ta19_0.2.1 tw19_0).2.mpr rfl
  have hc0 : N.2 0 0 = 0 := rlo 0 (by decide)
  have hq0 : sqS zX19 80 1 0 0 N (g_m_next 80 N) := by
    have e2 : (g_m_next 80 N).2 = N.2 := next_2 hL0.tk
    exact ⟨hM0.next ta19_0.1, by rw [e2, hc0]; rfl, fun i hi => absurd hi (Nat.not_lt_zero i), fun k _ => by rw [e2]⟩
  obtain ⟨M1, e1, hq1⟩ := r_sq3 (fu := 40) (b := true) hq0 (by decide) ta19_1 (by decide) ta19_2.1 (by rw [ta19_2.2.1]; decide)
  obtain ⟨M2, e2, hq2⟩ := r_sq4 (fu := 39) (b := true) hq1 (by decide) ⟨ta19_2.1, ta19_2.2.1⟩ ta19_3 (by decide) ta19_4.1 (by rw [ta19_4.2.1]; decide)
  obtain ⟨M3, e3, hq3⟩ := r_sq3 (fu := 38) (b := true) hq2 (by decide) ta19_4 (by decide) ta19_5.1 (by rw [ta19_5.2.1]; decide)
  obtain ⟨M4, e4, hq4⟩ := r_sq3 (fu := 37) (b := true) hq3 (by decide) ta19_5 (by decide) ta19_6.1 (by rw [ta19_6.2.1]; decide)
  obtain ⟨M5, e5, hq5⟩ := r_sq3 (fu := 36) (b := true) hq4 (by decide) ta19_6 (by decide) ta19_7.1 (by rw [ta19_7.2.1]; decide)
  obtain ⟨M6, e6, hq6⟩ := r_sq3 (fu := 35) (b := true) hq5 (by decide) ta19_7 (by decide) ta19_8.1 (by rw [ta19_8.2.1]; decide)
  obtain ⟨M7, e7, hq7⟩ := r_sq4 (fu := 34) (b := true) hq6 (by decide) ⟨ta19_8.1, ta19_8.2.1⟩ ta19_9 (by decide) ta19_10.1 (by rw [ta19_10.2.1]; decide)
  obtain ⟨M8, e8, hq8⟩ := r_sq3 (fu := 33) (b := true) hq7 (by decide) ta19_10 (by decide) ta19_11.1 (by rw [ta19_11.2.1]; decide)
  obtain ⟨M9, e9, hq9⟩ := r_sq3 (fu := 32) (b := true) hq8 (by decide) ta19_11 (by decide) ta19_12.1 (by rw [ta19_12.2.1]; decide)
  obtain ⟨M10, e10, hq10⟩ := r_sq4 (fu := 31) (b := false) hq9 (by decide) ⟨ta19_12.1, ta19_12.2.1⟩ ta19_13 (by decide) ta19_14.1 (by rw [ta19_14.2.1]; decide)
  have hq : sqS zX19 80 14 0 10 N M10 := hq10
  have k1 : M10.1 23 = 1 := (r_at hq.1 ta19_14.1).1.trans ta19_14.2.1
  have eS : g_m_readsSequence 80 N = (true, M10) := by
    have e11 : g_m_readsSequence_L 80 31 false 10 M10 = (true, M10) := by
      show g_m_readsSequence_L 80 (30 + 1) false 10 M10 = _
      rw [g_m_readsSequence_L, if_neg Bool.false_ne_true, is_go k1]
    rw [g_m_readsSequence, if_pos hsay]
    exact e1.trans (e2.trans (e3.trans (e4.trans (e5.trans (e6.trans (e7.trans (e8.trans (e9.trans (e10.trans (e11))))))))))
  have hPar := seq_par hL0 hF2 hc0 (by rw [eS])
  rw [eS] at hPar
  have hrow : Row 10 (va_cpy FV (tva tZ) 0 0 10) (M10.2 0) := by
    refine ⟨fun k k1 k2 => ?_, fun i hi => ?_⟩
    · rw [hq.2.2.2 (44 + k) (by omega), hq.2.2.2 (172 + k) (by omega)]
      exact rhi k k2
    · have e : va_cpy FV (tva tZ) 0 0 10 i = FV i := by
        show (if 0 ≤ i ∧ i < 0 + 10 then FV (0 + (i - 0)) else tva tZ i) = _
        rw [if_pos ⟨Nat.zero_le _, by omega⟩, Nat.sub_zero, Nat.zero_add]
      rw [e]; exact hq.2.2.1 i hi
  have hFV : ∀ i, i < 10 → -1000000 ≤ (FV i).toInt ∧ (FV i).toInt ≤ 1000000 := by decide +kernel
  have hcp : ∀ i, i < 10 → va_cpy FV (tva tZ) 0 0 10 i = FV i := fun i hi => by
    show (if 0 ≤ i ∧ i < 0 + 10 then FV (0 + (i - 0)) else tva tZ i) = _
    rw [if_pos ⟨Nat.zero_le _, by omega⟩, Nat.sub_zero, Nat.zero_add]
  have hR0 : Rel 10 iT0 (M10.2 0) := Rel_build (by decide) (by decide) hrow (fun i hi => by rw [hcp i hi]; exact hFV i hi) ⟨hq.2.1, by rw [hq.2.2.2 1 (by omega)]; exact rlo 1 (by decide), by rw [hq.2.2.2 2 (by omega)]; exact rlo 2 (by decide), by rw [hq.2.2.2 3 (by omega)]; exact rlo 3 (by decide)⟩
  have en : (g_m_next 80 M10).2 = M10.2 := next_2 hq.1.1.tk
  have s0 : stQ zX19 80 15 0 iT0 zE0 (g_m_next 80 M10) := by
    refine ⟨⟨par_next hPar, hq.1.next ta19_14.1⟩, by rw [en]; exact hR0, fun i hi => ?_⟩
    rw [en]
    exact (el_row hrow (by decide) hi 7 1 (by decide) (by decide)).trans (hcp i hi)
  obtain ⟨R1, f1, s1⟩ := st_add (fu := 600) (f := 1) (g := 6) s0 (by decide) ⟨ta19_15.1, ta19_15.2.1⟩ tw19_15 ta19_16 ta19_17 ta19_18 ⟨ta19_19.1, ta19_19.2.1⟩ (by decide) (by decide) (by decide) (can_of s0.va (by decide) (by decide) (by decide +kernel) (by decide +kernel)) (bd_all (by decide) (by decide +kernel))
  have s1' : stQ zX19 80 20 1 iT1 zE1 R1 := s1
  obtain ⟨R2, f2, s2⟩ := st_assign (fu := 599) (f := 3) (g := 4) s1' (by decide) ⟨ta19_20.1, ta19_20.2.1⟩ tw19_20 ta19_21 ta19_22 ta19_23 ⟨ta19_24.1, ta19_24.2.1⟩ (by decide) (by decide) (by decide)
  have s2' : stQ zX19 80 25 2 iT2 zE2 R2 := s2
  obtain ⟨R3, f3, s3⟩ := st_negate (fu := 598) (f := 0) (g := 4) s2' (by decide) ⟨ta19_25.1, ta19_25.2.1⟩ tw19_25 ta19_26 ta19_27 ⟨ta19_28.1, ta19_28.2.1⟩ (by decide) (by decide) (bd_all (by decide) (by decide +kernel))
  have s3' : stQ zX19 80 29 3 iT3 zE3 R3 := s3
  obtain ⟨R4, f4, s4⟩ := st_add (fu := 597) (f := 0) (g := 9) s3' (by decide) ⟨ta19_29.1, ta19_29.2.1⟩ tw19_29 ta19_30 ta19_31 ta19_32 ⟨ta19_33.1, ta19_33.2.1⟩ (by decide) (by decide) (by decide) (can_of s3'.va (by decide) (by decide) (by decide +kernel) (by decide +kernel)) (bd_all (by decide) (by decide +kernel))
  have s4' : sC zX19 80 34 4 R4 := s4.1.2
  have k0 : R4.1 23 = 0 := (s4'.2.2.1.2.1 to19_34).1
  have f5 : g_m_readsAll_L 80 597 R4 = (true, R4) := by
    show g_m_readsAll_L 80 (596 + 1) R4 = _
    rw [g_m_readsAll_L, if_pos k0]
  refine ⟨R4, ?_, s4'.2.2.2.2, s4'.2.2.2.1.2, s4.2.1⟩
  rw [hpar, g_m_readsAll, eS, if_pos rfl]
  exact f1.trans (f2.trans (f3.trans (f4.trans f5)))
theorem start_inv : Inv 10 iZ iZ iZ iT4 iZ tZ 0 (fun _ => tZ) tZ mS2 := by
  obtain ⟨R, e1, e2, e3, e4⟩ := start_row
  have h10 : mS1.1 10 = nI 80 := by
    have h := mS1_10
    rw [len19] at h
    exact h
  have hp := (parses_ok (tl := 80) h10 (by decide) mS1_fg).1
  rw [e1] at hp
  obtain ⟨p1, p2, p3⟩ := hp
  have eM : mS2 = sI 15 0 R := by rw [mS2, len19, Nat.zero_add, e1]
  have t0 : ∀ j, ¬ j = 10 → mS1.1 j = mS0.1 j := fun j hj => (tell_f (S := mS0) (tl := 0) rfl).2.1 j hj
  have z : ∀ k, k = 5 ∨ k = 6 ∨ k = 9 ∨ k = 14 → R.1 k = 0 := fun k hk => by
    rw [p1 k (by omega), t0 k (by omega)]
    show (if k = 12 then (-1 : Int32) else 0) = 0
    rw [if_neg (by omega)]
  have hF : mFg R := mS1_fg.gF p3
  rw [eM]
  refine ⟨e4, hF.gF (gF_I (by decide)), ⟨0, by decide, rfl, ?_, fun p hp => absurd hp (Nat.not_lt_zero p)⟩, Or.inl ⟨rfl, ?_⟩, ⟨0, by decide, rfl, ?_, fun i hi => absurd hi (Nat.not_lt_zero i)⟩, ⟨?_, 0, 0, rfl, by decide, rfl, by decide, ?_⟩, ⟨?_, ?_, ?_, fun i hi => ?_⟩⟩
  · exact (sI_o (by decide)).trans (z 5 (by decide))
  · exact (sI_o (by decide)).trans (z 6 (by decide))
  · exact (sI_o (by decide)).trans (z 9 (by decide))
  · exact ((sI_o (by decide)).trans e2).symm
  · rw [g_c_2_errorOffset, if_pos (show iZ.1 7 = 0 from rfl)]
    exact ((sI_o (by decide)).trans e3).symm
  · rfl
  · decide
  · exact (sI_o (by decide)).trans (z 14 (by decide))
  · exact absurd hi (Nat.not_lt_zero i)
