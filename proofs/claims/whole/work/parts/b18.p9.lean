variable {sc : SC}
/-! ===== the report ===== -/
def cD : Nat → Nat → List Nat
  | 0, _ => []
  | fu + 1, q => (if 10 ^ fu ≤ q ∨ fu = 0 then [q / 10 ^ fu % 10] else []) ++ cD fu q
def mD : Nat → Nat → List Nat
  | 0, _ => []
  | fu + 1, m => if m ≤ 9 then [m % 10] else mD fu (m / 10) ++ [m % 10]
noncomputable def putL : List Nat → ZS → ZS
  | [], R => R
  | x :: l, R => putL l (g_c_1_put (rr R) (nI (48 + x)) R)
noncomputable def wrL : List Nat → ZS → ZS
  | [], M => M
  | x :: l, M => wrL l (g_m_write (nI (48 + x)) M)
theorem putL_app : ∀ (a b : List Nat) (R : ZS), putL (a ++ b) R = putL b (putL a R) := by
  intro a
  induction a with
  | nil => intro b R; rfl
  | cons x a ih => intro b R; exact ih b _
theorem wrL_app : ∀ (a b : List Nat) (M : ZS), wrL (a ++ b) M = wrL b (wrL a M) := by
  intro a
  induction a with
  | nil => intro b M; rfl
  | cons x a ih => intro b M; exact ih b _
theorem cD_put {m : Nat} {v : Int32} : ∀ (fu q : Nat) (R : ZS), g_c_1_putNumber_L m v fu q (zpw fu) R = putL (cD fu q) R := by
  intro fu
  induction fu with
  | zero => intro q R; rfl
  | succ fu ih =>
    intro q R
    have e : zpw (fu + 1) = 10 ^ fu := rfl
    rw [g_c_1_putNumber_L, zpw_div, e, cD]
    by_cases c : 10 ^ fu ≤ q
    · rw [if_pos c, if_pos (Or.inl c), ih]
      rfl
    · rw [if_neg c]
      by_cases d : fu = 0
      · subst d
        rw [if_pos rfl, if_pos (Or.inr rfl), ih]
        rfl
      · have hne : ¬ 10 ^ fu = 1 := fun z => by
          have : 10 ^ 1 ≤ 10 ^ fu := Nat.pow_le_pow_right (by decide) (by omega)
          omega
        rw [if_neg hne, if_neg (fun z => z.elim c d), ih]
        rfl
theorem mD_wr : ∀ (fu m : Nat) (M : ZS), g_m_writeNumber fu m M = wrL (mD fu m) M := by
  intro fu
  induction fu with
  | zero => intro m M; rfl
  | succ fu ih =>
    intro m M
    rw [g_m_writeNumber, mD]
    by_cases c : m ≤ 9
    · rw [if_pos c, if_pos c]; rfl
    · rw [if_neg c, if_neg c, ih, wrL_app]; rfl
theorem cD_10 {q : Nat} (h : 10 ≤ q) : ∀ fu, cD (fu + 1) q = cD fu (q / 10) ++ [q % 10] := by
  intro fu
  induction fu with
  | zero =>
    have e : cD (0 + 1) q = [q / 10 ^ 0 % 10] ++ cD 0 q := congrArg (fun l => l ++ cD 0 q) (if_pos (Or.inr rfl))
    rw [e, Nat.pow_zero, Nat.div_one]
    rfl
  | succ fu ih =>
    rw [cD, ih, cD]
    have e : q / 10 ^ (fu + 1) = q / 10 / 10 ^ fu := by rw [Nat.pow_succ, Nat.mul_comm, Nat.div_div_eq_div_mul]
    have ec : (10 ^ (fu + 1) ≤ q ∨ fu + 1 = 0) ↔ (10 ^ fu ≤ q / 10 ∨ fu = 0) := by
      have h9 : 10 ^ (fu + 1) ≤ q ↔ 10 ^ fu ≤ q / 10 := by
        rw [Nat.pow_succ, Nat.le_div_iff_mul_le (by decide)]
      constructor
      · intro z
        rcases z with z | z
        · exact Or.inl (h9.mp z)
        · omega
      · intro z
        rcases z with z | z
        · exact Or.inl (h9.mpr z)
        · subst z
          left
          omega
    rw [e]
    by_cases c : 10 ^ fu ≤ q / 10 ∨ fu = 0
    · rw [if_pos c, if_pos (ec.mpr c), List.append_assoc]
    · rw [if_neg c, if_neg (fun z => c (ec.mp z)), List.nil_append, List.nil_append]
theorem cD_9 {q : Nat} (h : q ≤ 9) : ∀ fu, cD (fu + 1) q = [q % 10] := by
  intro fu
  induction fu with
  | zero =>
    have e : cD (0 + 1) q = [q / 10 ^ 0 % 10] ++ cD 0 q := congrArg (fun l => l ++ cD 0 q) (if_pos (Or.inr rfl))
    rw [e, Nat.pow_zero, Nat.div_one]
    rfl
  | succ fu ih =>
    have : 10 ^ 1 ≤ 10 ^ (fu + 1) := Nat.pow_le_pow_right (by decide) (by omega)
    rw [cD, if_neg (fun z => z.elim (fun z => by omega) (fun z => by omega)), ih]
    rfl
theorem cD_mD : ∀ (fu q : Nat), q < 10 ^ (fu + 1) → cD (fu + 1) q = mD (fu + 1) q := by
  intro fu
  induction fu with
  | zero =>
    intro q h
    rw [cD_9 (by omega), mD, if_pos (by omega)]
  | succ fu ih =>
    intro q h
    by_cases c : q ≤ 9
    · rw [cD_9 c, mD, if_pos c]
    · rw [cD_10 (by omega), mD, if_neg c, ih (q / 10) (by rw [Nat.pow_succ] at h; omega)]
theorem cD_len : ∀ (fu q : Nat), (cD fu q).length ≤ fu ∧ ∀ x, x ∈ cD fu q → x < 10 := by
  intro fu
  induction fu with
  | zero => intro q; exact ⟨Nat.le_refl _, fun x h => by cases h⟩
  | succ fu ih =>
    intro q
    obtain ⟨i1, i2⟩ := ih q
    rw [cD]
    by_cases c : 10 ^ fu ≤ q ∨ fu = 0
    · rw [if_pos c]
      refine ⟨by rw [List.length_append, List.length_singleton]; omega, fun x h => ?_⟩
      rcases List.mem_append.mp h with h | h
      · rw [List.mem_singleton] at h; omega
      · exact i2 x h
    · rw [if_neg c]
      exact ⟨by rw [List.nil_append]; omega, fun x h => i2 x (by rw [List.nil_append] at h; exact h)⟩
theorem nar_all : ((List.range 128).all fun x => (vp_nar .byte ((nI x).toInt8.toInt32) == vp_nar .char (((nI x).toUInt32 % 65536).toInt32))) = true := by decide +kernel
theorem nar_eq {x : Nat} (h : x < 128) : vp_nar .byte ((nI x).toInt8.toInt32) = vp_nar .char (((nI x).toUInt32 % 65536).toInt32) :=
  beq_iff_eq.mp (List.all_eq_true.mp nar_all x (List.mem_range.mpr h))
/-- a sign on both sides -/
theorem put_rep {R M : ZS} {x : Nat} (h : RepI R M) (h3 : rr R < 360) (hx : x < 128) : RepI (g_c_1_put (rr R) (nI x) R) (g_m_write (nI x) M) ∧ rr (g_c_1_put (rr R) (nI x) R) = rr R + 1 := by
  obtain ⟨a, b, c, d⟩ := h
  have em : mr M = rr R := by
    unfold mr
    rw [c, a, nI_clamp (by omega)]
  obtain ⟨p1, p2⟩ := put_rr (c := nI x) h3
  refine ⟨⟨p1, by omega, ?_, fun i hi => ?_⟩, p2⟩
  · show nI (mr M + 1) = nI (rr R + 1)
    rw [em]
  · show (if i = rr R then vp_nar .byte ((nI x).toInt8.toInt32) else R.2 1 i) = if i = mr M then vp_nar .char (((nI x).toUInt32 % 65536).toInt32) else M.2 7 i
    rw [em]
    by_cases z : i = rr R
    · rw [if_pos z, if_pos z]; exact nar_eq hx
    · rw [if_neg z, if_neg z]; exact d i (by omega)
theorem list_rep : ∀ (l : List Nat) (R M : ZS), RepI R M → rr R + l.length ≤ 360 → (∀ x, x ∈ l → x < 10) → RepI (putL l R) (wrL l M) ∧ rr (putL l R) = rr R + l.length := by
  intro l
  induction l with
  | nil => intro R M h _ _; exact ⟨h, rfl⟩
  | cons x l ih =>
    intro R M h h3 hx
    rw [List.length_cons] at h3
    have hx0 := hx x List.mem_cons_self
    obtain ⟨p1, p2⟩ := put_rep (x := 48 + x) h (by omega) (by omega)
    obtain ⟨q1, q2⟩ := ih _ _ p1 (by omega) (fun y hy => hx y (List.mem_cons_of_mem _ hy))
    refine ⟨q1, ?_⟩
    show rr (putL l (g_c_1_put (rr R) (nI (48 + x)) R)) = _
    rw [q2, p2, List.length_cons]
    omega
theorem wneg_eq (m : Nat) (v : Int32) (M : ZS) : g_m_wneg m v M = wrL (mD 7 m) (g_m_write 45 M) := by
  rw [g_m_wneg, mD]
  by_cases c : m ≤ 9
  · rw [if_pos c, if_pos c]; rfl
  · rw [if_neg c, if_neg c, mD_wr, wrL_app]; rfl
/-- a number on both sides -/
theorem num_rep {R M : ZS} {v : Int32} (h : RepI R M) (h3 : rr R + 8 ≤ 360) (hv : bd v) : RepI (g_c_1_putNumber v.toInt.natAbs v R) (g_m_wnum v M) ∧ rr (g_c_1_putNumber v.toInt.natAbs v R) ≤ rr R + 8 := by
  obtain ⟨v1, v2⟩ := hv
  have e0 : (0 : Int32).toInt = 0 := by decide
  have hz : zpw 7 = 1000000 := by decide
  have hq : v.toInt.natAbs < 10 ^ (6 + 1) := by
    have : (10 : Nat) ^ (6 + 1) = 10000000 := by decide
    omega
  obtain ⟨l1, l2⟩ := cD_len 7 v.toInt.natAbs
  rw [g_c_1_putNumber, g_m_wnum]
  by_cases c : 0 ≤ v
  · have c2 := Int32.le_iff_toInt_le.mp c
    have ev : v.toNatClampNeg = v.toInt.natAbs := by
      show v.toInt.toNat = _
      omega
    rw [if_pos c, if_neg (fun z => by have := Int32.lt_iff_toInt_lt.mp z; omega), ev, mD_wr, ← cD_mD 6 _ hq, ← hz, cD_put]
    obtain ⟨q1, q2⟩ := list_rep (cD 7 v.toInt.natAbs) R M h (by omega) l2
    exact ⟨q1, by rw [q2]; omega⟩
  · have c2 : ¬ 0 ≤ v.toInt := fun z => c (Int32.le_iff_toInt_le.mpr (by rw [e0]; exact z))
    have ev : (-v).toNatClampNeg = v.toInt.natAbs := by
      show (-v).toInt.toNat = _
      rw [i_neg ⟨by omega, by omega⟩]
      omega
    rw [if_neg c, if_pos (Int32.lt_iff_toInt_lt.mpr (by omega)), ev, wneg_eq, ← cD_mD 6 _ hq, ← hz, cD_put]
    obtain ⟨p1, p2⟩ := put_rep (x := 45) h (by omega) (by decide)
    obtain ⟨q1, q2⟩ := list_rep (cD 7 v.toInt.natAbs) _ _ p1 (by rw [p2]; omega) l2
    exact ⟨q1, by
      show rr (putL (cD 7 v.toInt.natAbs) (g_c_1_put (rr R) (nI 45) R)) ≤ _
      rw [q2, p2]; omega⟩
/-- what writing leaves alone -/
def wF (M R : ZS) : Prop := (∀ k, ¬ k = 14 → R.1 k = M.1 k) ∧ ∀ j, ¬ j = 7 → R.2 j = M.2 j
theorem wF.trans {M R Q : ZS} (h : wF M R) (g : wF R Q) : wF M Q := ⟨fun k a => (g.1 k a).trans (h.1 k a), fun j a => (g.2 j a).trans (h.2 j a)⟩
theorem wF_w (c : Int32) (M : ZS) : wF M (g_m_write c M) := ⟨fun _ a => sI_o a, fun _ a => sA_x a⟩
theorem wF_L : ∀ (l : List Nat) (M : ZS), wF M (wrL l M) := by
  intro l
  induction l with
  | nil => intro M; exact ⟨fun _ _ => rfl, fun _ _ => rfl⟩
  | cons x l ih => intro M; exact (wF_w _ M).trans (ih _)
theorem wF_num (v : Int32) (M : ZS) : wF M (g_m_wnum v M) := by
  rw [g_m_wnum]
  split
  · rw [wneg_eq]; exact (wF_w _ M).trans (wF_L _ _)
  · rw [mD_wr]; exact wF_L _ _
section REP
variable {n a b : Nat} {T : TS} {S X M : ZS}
theorem wr_L (hb : ∀ i, i < n → bd (tva T i)) (hbn : b < n) (h40 : n ≤ 40) : ∀ (fu k : Nat) (R M : ZS), a < k → k + fu = b + 1 → (∀ i, i < n → g_m_valueG n i M = tva T i) → RepI R M → rr R ≤ 9 * (k - a) →
    (g_c_6_writeRange_L n a b fu k S X R T).1 = (g_m_writeRange_L n a b fu k M).1 ∧ RepI (g_c_6_writeRange_L n a b fu k S X R T).2 (g_m_writeRange_L n a b fu k M).2 ∧ wF M (g_m_writeRange_L n a b fu k M).2 := by
  intro fu
  induction fu with
  | zero => intro k R M _ _ _ h _; exact ⟨h.2.2.1.symm, h, ⟨fun _ _ => rfl, fun _ _ => rfl⟩⟩
  | succ fu ih =>
    intro k R M hk hf hV h hr
    rw [g_c_6_writeRange_L, if_neg (by omega), g_m_writeRange_L]
    obtain ⟨p1, p2⟩ := put_rep (x := 44) h (by omega) (by decide)
    have w1 := wF_w 44 M
    have e0 : (g_m_write (44) M).2 0 = M.2 0 := w1.2 0 (by decide)
    have hV1 : ∀ i, i < n → g_m_valueG n i (g_m_write (44) M) = tva T i := fun i hi => (valueG_eq e0).trans (hV i hi)
    rw [hV1 k (by omega)]
    have p1' : RepI (g_c_1_put (rr R) 44 R) (g_m_write 44 M) := p1
    have p2' : rr (g_c_1_put (rr R) 44 R) = rr R + 1 := p2
    obtain ⟨q1, q2⟩ := num_rep (v := tva T k) p1' (by omega) (hb k (by omega))
    have w2 := wF_num (tva T k) (g_m_write 44 M)
    have e1 : (g_m_wnum (tva T k) (g_m_write 44 M)).2 0 = (g_m_write 44 M).2 0 := w2.2 0 (by decide)
    obtain ⟨r1, r2, r3⟩ := ih (k + 1) _ _ (by omega) (by omega) (fun i hi => (valueG_eq e1).trans (hV1 i hi)) q1 (by omega)
    exact ⟨r1, r2, (w1.trans w2).trans r3⟩
theorem e_writeRange {R : ZS} (h : Rel n T (M.2 0)) (hO : mOK n M) (hft : a ≤ b) (ht : b < n) (hr : RepI R M) :
    (g_c_6_writeRange n a b S X R T).1 = (g_m_writeRange n a b M).1 ∧ RepI (g_c_6_writeRange n a b S X R T).2 (g_m_writeRange n a b M).2 ∧ wF (g_m_grows n (sI 14 0 (sI 15 0 M))) (g_m_writeRange n a b M).2 := by
  have h1 := h.1.1.1
  have h40 := h.1.1.2
  have hb : ∀ i, i < n → bd (tva T i) := fun i hi => el_bd h hi
  have eg := mEq_grows (n := n) (sI 14 (0) (sI 15 (0) M)) h1 h40
  have e0 : (g_m_grows n (sI 14 (0) (sI 15 (0) M))).2 0 = M.2 0 := eg.2 0 (by decide) (by decide) (by decide)
  have hV : ∀ i, i < n → g_m_valueG n i (g_m_grows n (sI 14 (0) (sI 15 (0) M))) = tva T i := fun i hi => by
    rw [valG_el h40 hi, e0]; exact (h.2.2.2.2.2 i hi).symm
  have rc : rr (g_c_1_clear R) = 0 := by
    show (0 : Int32).toNatClampNeg = 0
    decide
  have h0 : RepI (g_c_1_clear R) (g_m_grows n (sI 14 (0) (sI 15 (0) M))) := by
    refine ⟨by rw [rc]; rfl, by rw [rc]; decide, ?_, fun i hi => by rw [rc] at hi; omega⟩
    rw [eg.1 14 (by decide)]
    rfl
  have ev : (g_m_value n a (sI 14 (0) (sI 15 (0) M))).1 = tva T a := hV a (by omega)
  obtain ⟨q1, q2⟩ := num_rep (v := tva T a) h0 (by rw [rc]; decide) (hb a (by omega))
  have w2 := wF_num (tva T a) (g_m_grows n (sI 14 (0) (sI 15 (0) M)))
  have e1 := w2.2 0 (by decide)
  rw [g_c_6_writeRange, g_m_writeRange, show b + 1 - a = (b - a) + 1 by omega, g_c_6_writeRange_L, if_pos (Nat.le_refl _), s_m_writeRange_1, ev]
  obtain ⟨r1, r2, r3⟩ := wr_L (S := S) (X := X) (a := a) hb ht h40 (b - a) (a + 1) _ _ (by omega) (by omega) (fun i hi => (valueG_eq e1).trans (hV i hi)) q1 (by rw [rc] at q2; omega)
  exact ⟨r1, r2, w2.trans r3⟩
end REP
