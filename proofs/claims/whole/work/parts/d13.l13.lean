variable {sc : SC}
/-! ===== both sides at one place ===== -/
def sC (x : Nat → Int32) (t p e : Nat) (M : ZS) : Prop := mLx t M ∧ M.2 6 = x ∧ Cur x t p M ∧ (M.1 27 = nI e ∧ M.1 12 = -1) ∧ M.1 11 = 0
def s8 (S : ZS) : Prop := ∃ z, S.1 8 = nI z ∧ z < 2 ^ 31
theorem s8.of {S R : ZS} (h : s8 S) (e : R.1 8 = S.1 8) : s8 R := h.elim fun z k => ⟨z, e.trans k.1, k.2⟩
def sP (x : Nat → Int32) (t c p e : Nat) (S : ZS) : Prop := Sd x t c p S ∧ S.1 7 = 0 ∧ S.1 6 = nI e ∧ (e ≤ 200 ∧ s8 S) ∧ scN (c + 1) S
section BOTH
variable {x : Nat → Int32} {t c p e u : Nat} {S M : ZS} {TU : TS} {a b : Int32}
theorem sC.next (h : sC x t p u M) (hp : tkO x t p < t) : sC x t (p + 1) u (g_m_next t M) := by
  obtain ⟨hL, rfl, hC, h27, h11⟩ := h
  have hT := hL.tk
  have k := kp_next hT
  have e6 : (g_m_next t M).2 = M.2 := next_2 hT
  exact ⟨lx_next hT, by rw [e6], cur_next hT (hC.2.2 hp).2.1 (tkP_le hp).1, ⟨(k.1 27 (by decide) (by decide) (by decide) (by decide) (by decide) (by decide)).trans h27.1, (next_err hT).2.trans h27.2⟩, (next_err hT).1.trans h11⟩
theorem sC.uF {R : ZS} (h : sC x t p u M) (hu : uF M R) : sC x t p u R := by
  obtain ⟨hL, h6, ⟨a, b, d⟩, h27, h11⟩ := h
  have k : ∀ j, j = 11 ∨ j = 12 ∨ (23 ≤ j ∧ j ≤ 27) → R.1 j = M.1 j := fun j hj => hu.1 j (by omega) (by omega) (by omega)
  have k23 := k 23 (by decide)
  have k24 := k 24 (by decide)
  have k25 := k 25 (by decide)
  have k26 := k 26 (by decide)
  exact ⟨(hu.lx hL).1, (hu.2.1 6 (by decide) (Or.inl (by decide))).trans h6, ⟨k24.trans a, fun z => ⟨k23.trans (b z).1, k25.trans (b z).2⟩, fun z => ⟨k23.trans (d z).1, k25.trans (d z).2.1, k26.trans (d z).2.2⟩⟩, ⟨(k 27 (by decide)).trans h27.1, (k 12 (by decide)).trans h27.2⟩, (k 11 (by decide)).trans h11⟩
theorem sC.sA {i : Nat} {v : Int32} (h : sC x t p u M) : sC x t p u (sA 12 i v M) := ⟨h.1.sA, (sA_x (by decide)).trans h.2.1, h.2.2⟩
theorem sP.to {q : Nat} (h : sP x t c p e S) (hq : q ≤ c) : sP x t c q e (sI 5 (nI q) S) := by
  obtain ⟨⟨a, b, d, e1, f, g, k⟩, h7, h6, h2, hN⟩ := h
  exact ⟨⟨a, b, d, e1, f, sI_same _ _ _, hq⟩, (sI_o (by decide)).trans h7, (sI_o (by decide)).trans h6, ⟨h2.1, h2.2.of (sI_o (by decide))⟩, hN.of rfl⟩
theorem sP.ho (h : sP x t c p e S) {q : Nat} (hq : q < c) : tkO x t q < t := (h.1.1 q hq).1
theorem bd_nI {m : Nat} (h : m ≤ 9999) : (-9999 ≤ nI m ∧ nI m ≤ 9999) ∧ (-9999 ≤ -(nI m) ∧ -(nI m) ≤ 9999) := by
  have n1 : (-9999 : Int32).toInt = -9999 := by decide
  have n2 : (9999 : Int32).toInt = 9999 := by decide
  have e1 := nI_toInt (n := m) (by omega)
  have e2 := i_neg (a := nI m) ⟨by omega, by omega⟩
  refine ⟨⟨?_, ?_⟩, ⟨?_, ?_⟩⟩ <;> rw [Int32.le_iff_toInt_le] <;> omega
theorem val_bd (hN : scN (c + 1) S) : -9999 ≤ (g_c_2_readValue (c + 1) true S TU).1 ∧ (g_c_2_readValue (c + 1) true S TU).1 ≤ 9999 := by
  have h1 : ∀ k, -9999 ≤ g_c_4_numberAt (c + 1) k S ∧ g_c_4_numberAt (c + 1) k S ≤ 9999 := fun k => by
    obtain ⟨e1, e2⟩ := hN k
    rw [e1]; exact (bd_nI e2).1
  have h2 : ∀ k v, -9999 ≤ -(g_c_4_numberAt (c + 1) k (sI 5 v S)) ∧ -(g_c_4_numberAt (c + 1) k (sI 5 v S)) ≤ 9999 := fun k v => by
    have hN2 : scN (c + 1) (sI 5 v S) := hN.of rfl
    obtain ⟨e1, e2⟩ := hN2 k
    rw [e1]; exact (bd_nI e2).2
  rw [g_c_2_readValue]
  by_cases c1 : S.1 7 = 0
  · rw [if_pos c1]
    by_cases c2 : g_c_2_isAt (c + 1) 3 S TU = true
    · rw [if_pos c2, if_pos rfl]; exact h2 _ _
    · rw [if_neg c2, if_pos rfl]; exact h1 _
  · rw [if_neg c1, if_pos rfl]; exact h1 _
theorem num_no (h : ¬ S.1 7 = 0) : (g_c_2_readNumber c a b S TU).2 = S := by
  rw [g_c_2_readNumber]
  have e1 : g_c_2_fail 2 S TU = S := c_fail_no h
  have e2 : g_c_2_expect c 2 S TU = S := exp_err h
  rw [e1, e2]
  repeat' split
  all_goals rfl
theorem val_no (h : ¬ S.1 7 = 0) : (g_c_2_readValue c true S TU).2 = S := by
  rw [g_c_2_readValue, if_neg h, if_pos rfl]
  exact exp_err h
theorem ends_no {k : Bool} (h : ¬ S.1 7 = 0) : g_c_2_ends c k S TU = (false, S) := by
  have e1 : g_c_2_fail 4 S TU = S := c_fail_no h
  have e2 : g_c_2_expect c 6 S TU = S := exp_err h
  rw [g_c_2_ends]
  simp only [e1, e2, if_neg h]
  repeat' split
  all_goals rfl
theorem b_num {j : Nat} (hS : sP x t c p e S) (hM : sC x t p u M) :
    (∃ v N, g_m_number t j a b M = (true, N) ∧ p < c ∧ (a ≤ v ∧ v ≤ b) ∧ g_c_2_readNumber (c + 1) a b S TU = (v, sI 5 (nI (p + 1)) S) ∧ sC x t (p + 1) u N ∧ N.2 = (sA 12 j v M).2 ∧ kp M N) ∨ ((g_m_number t j a b M).1 = false ∧ Fl c (g_c_2_readNumber (c + 1) a b S TU).2 (g_m_number t j a b M).2) := by
  rcases num_sim (TU := TU) (a := a) (b := b) (j := j) hS.1 hM.2.2.1 hS.2.1 hM.2.2.2.2 with ⟨a1, a2, a3, a4, a5⟩ | h
  · have h9 := (hM.sA (i := j) (v := M.1 26)).next (hS.ho a2)
    have hT : mTk t (sA 12 j (M.1 26) M) := (hM.sA (i := j) (v := M.1 26)).1.tk
    exact Or.inl ⟨M.1 26, g_m_next t (sA 12 j (M.1 26) M), Prod.ext a1 a5, a2, a3, a4, h9, next_2 hT, (kp.sA j _ M).trans (kp_next hT)⟩
  · exact Or.inr h
theorem b_val {j : Nat} (hS : sP x t c p e S) (hM : sC x t p u M) :
    (∃ q v N, p ≤ q ∧ q < c ∧ g_m_signed t j M = (true, sA 12 j v N) ∧ g_c_2_readValue (c + 1) true S TU = (v, sI 5 (nI (q + 1)) S) ∧ sC x t q u N ∧ N.2 = M.2 ∧ kp M N ∧ (-9999 ≤ v ∧ v ≤ 9999)) ∨ ((g_m_signed t j M).1 = false ∧ Fl c (g_c_2_readValue (c + 1) true S TU).2 (g_m_signed t j M).2) := by
  obtain ⟨hL, rfl, hC, h27, h11⟩ := hM
  have hv := val_bd (TU := TU) hS.2.2.2.2
  rcases val_sim (TU := TU) (j := j) hL.tk hS.1 hC hS.2.1 h11 with ⟨q, v, N, q1, q2, q3, q4, q5, q6⟩ | h
  · have hT := hL.tk
    rw [q4] at hv
    refine Or.inl ⟨q, v, N, q1, q2, q3, q4, ?_, ?_, ?_, hv⟩
    · rcases q5 with rfl | rfl
      · exact ⟨hL, rfl, q6, h27, h11⟩
      · exact ⟨lx_next hT, by rw [next_2 hT], q6, ⟨((kp_next hT).1 27 (by decide) (by decide) (by decide) (by decide) (by decide) (by decide)).trans h27.1, (next_err hT).2.trans h27.2⟩, (next_err hT).1.trans h11⟩
    · rcases q5 with rfl | rfl
      · rfl
      · exact next_2 hT
    · rcases q5 with rfl | rfl
      · exact kp.rfl' _
      · exact kp_next hT
  · exact Or.inr h
theorem b_valueAt {j : Nat} (hS : sP x t c p e S) (hM : sC x t p u M) :
    (∃ q v N, p ≤ q ∧ q < c ∧ g_m_valueAt t j M = (true, N) ∧ g_c_2_readValue (c + 1) true S TU = (v, sI 5 (nI (q + 1)) S) ∧ sC x t (q + 1) u N ∧ N.2 = (sA 12 j v M).2 ∧ kp M N ∧ (-9999 ≤ v ∧ v ≤ 9999)) ∨ ((g_m_valueAt t j M).1 = false ∧ Fl c (g_c_2_readValue (c + 1) true S TU).2 (g_m_valueAt t j M).2) := by
  rcases b_val (TU := TU) (j := j) hS hM with ⟨q, v, N, q1, q2, q3, q4, q5, q6, q7, q8⟩ | ⟨h1, h2⟩
  · have h9 := q5.sA (i := j) (v := v)
    have hT := h9.1.tk
    refine Or.inl ⟨q, v, g_m_next t (sA 12 j v N), q1, q2, ?_, q4, h9.next (hS.ho q2), ?_, (q7.trans (kp.sA j v N)).trans (kp_next hT), q8⟩
    · rw [g_m_valueAt, q3, if_pos rfl]
    · rw [next_2 hT]
      show (fun q => if q = 12 then upd (N.2 12) j v else N.2 q) = _
      rw [q6]
      rfl
  · refine Or.inr ?_
    rw [g_m_valueAt, h1, if_neg (by decide)]
    exact ⟨rfl, h2⟩
theorem b_end (can : Bool) (hS : sP x t c p e S) (hM : sC x t p u M) :
    (can = true ∧ M.1 23 = 1 ∧ p < c ∧ g_c_2_ends (c + 1) can S TU = (true, sI 5 (nI (p + 1)) S) ∧ g_m_stops can M = (true, M)) ∨ ((g_c_2_ends (c + 1) can S TU).1 = false ∧ (g_m_stops can M).1 = false ∧ Fl c (g_c_2_ends (c + 1) can S TU).2 (g_m_stops can M).2) := end_sim can hS.1 hM.2.2.1 hS.2.1 hM.2.2.2.2
/-- a range -/
theorem b_range {n : Nat} (hS : sP x t c p e S) (hM : sC x t p u M) (hn : M.2 0 0 = nI n) (h1 : 1 ≤ n) (h40 : n ≤ 40) :
    (∃ f g N, g_m_range t M = (true, N) ∧ f ≤ g ∧ g < n ∧ mN N 0 = f ∧ mN N 1 = g ∧ p + 1 < c ∧ (g_c_2_readNumber (c + 1) 0 (nI (n - 1)) S TU).1 = nI f ∧ g_c_2_readNumber (c + 1) (g_c_2_readNumber (c + 1) 0 (nI (n - 1)) S TU).1 (nI (n - 1)) (g_c_2_readNumber (c + 1) 0 (nI (n - 1)) S TU).2 TU = (nI g, sI 5 (nI (p + 2)) S) ∧ sC x t (p + 2) u N ∧ N.2 0 = M.2 0 ∧ kp M N) ∨ ((g_m_range t M).1 = false ∧ Fl c (g_c_2_readNumber (c + 1) (g_c_2_readNumber (c + 1) 0 (nI (n - 1)) S TU).1 (nI (n - 1)) (g_c_2_readNumber (c + 1) 0 (nI (n - 1)) S TU).2 TU).2 (g_m_range t M).2) := by
  have hn1 : nI n - 1 = nI (n - 1) := pk_sub (a := n) (b := 1) h1
  have hrt := range_t (tl := t) (n := n) hM.1 hn h1 h40
  rw [g_m_range, hn, hn1]
  rw [g_m_range, hn, hn1] at hrt
  rcases b_num (TU := TU) (j := 0) (a := 0) (b := nI (n - 1)) hS hM with ⟨v, N, r1, r2, r3, r4, r5, r6, r7⟩ | ⟨r1, r2⟩
  · have eN0 : N.2 0 = M.2 0 := by rw [r6]; rfl
    have eN12 : N.2 12 0 = v := by rw [r6]; exact sA_same _ _ _ _
    have hS1 : sP x t c (p + 1) e (sI 5 (nI (p + 1)) S) := hS.to r2
    have es : s_m_range_1 t M = (g_m_number t 1 v (nI (n - 1)) N).2 := by
      rw [s_m_range_1, hn, hn1, r1]
      show (g_m_number t 1 (N.2 12 0) (N.2 0 0 - 1) N).2 = _
      rw [eN12, eN0, hn, hn1]
    rw [es] at hrt ⊢
    rw [r1] at hrt ⊢
    simp only [if_true, eN12, eN0, hn, hn1] at hrt ⊢
    rw [r4]
    simp only
    rcases b_num (TU := TU) (j := 1) (a := v) (b := nI (n - 1)) hS1 r5 with ⟨w, N2, s1, s2, s3, s4, s5, s6, s7⟩ | ⟨s1, s2⟩
    · left
      rw [s1] at hrt ⊢
      obtain ⟨t1, t2, t3, t4⟩ := hrt rfl
      have e1 : N2.2 12 0 = v := by rw [s6, sA_o (by decide)]; exact eN12
      have e2 : N2.2 12 1 = w := by rw [s6]; exact sA_same _ _ _ _
      refine ⟨mN N2 0, mN N2 1, N2, rfl, t3, t4, rfl, rfl, s2, ?_, ?_, s5, by rw [s6]; exact eN0, r7.trans s7⟩
      · exact e1.symm.trans t1
      · rw [s4, sI_sI]
        exact Prod.ext (e2.symm.trans t2) rfl
    · right
      rw [s1, if_neg (by decide)]
      exact ⟨rfl, s2⟩
  · right
    rw [r1, if_neg (by decide), num_no r2.1]
    exact ⟨rfl, r2⟩
end BOTH
