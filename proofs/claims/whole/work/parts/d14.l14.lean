variable {sc : SC}
/-! ===== the commands ===== -/
section FORMS
variable {c n : Nat} {S : ZS} {TU : TS} {A : Int32} {B V : Int32 × ZS}
theorem upd_f11 (hA : (g_c_2_readNumber c 0 (nI (n - 1)) S TU).1 = A) (hB : g_c_2_readNumber c A (nI (n - 1)) (g_c_2_readNumber c 0 (nI (n - 1)) S TU).2 TU = B) :
    g_c_2_readUpdate c n 11 S TU = if B.2.1 7 = 0 then (if (g_c_2_ends c true B.2 TU).1 = true then ((g_c_2_ends c true B.2 TU).2, (tUpdate TU A B.1 (-1) 0).1) else ((g_c_2_ends c true B.2 TU).2, TU)) else (B.2, TU) := by
  rw [g_c_2_readUpdate, hA, hB]
  have h1 : ¬ (11 : Int32) = 10 := by decide
  have h2 : ¬ (11 : Int32) = 9 := by decide
  simp only [if_neg h1, if_neg h2, if_true]
theorem upd_f9 (hA : (g_c_2_readNumber c 0 (nI (n - 1)) S TU).1 = A) (hB : g_c_2_readNumber c A (nI (n - 1)) (g_c_2_readNumber c 0 (nI (n - 1)) S TU).2 TU = B) (hV : g_c_2_readValue c true B.2 TU = V) :
    g_c_2_readUpdate c n 9 S TU = if V.2.1 7 = 0 then (if (g_c_2_ends c true V.2 TU).1 = true then ((g_c_2_ends c true V.2 TU).2, (tUpdate TU A B.1 0 V.1).1) else ((g_c_2_ends c true V.2 TU).2, TU)) else (V.2, TU) := by
  rw [g_c_2_readUpdate, hA, hB, hV]
  have h1 : ¬ (9 : Int32) = 10 := by decide
  have h2 : ¬ (9 : Int32) = 11 := by decide
  simp only [if_neg h1, if_neg h2, if_true]
theorem upd_f10 (bc : Bool) (hA : (g_c_2_readNumber c 0 (nI (n - 1)) S TU).1 = A) (hB : g_c_2_readNumber c A (nI (n - 1)) (g_c_2_readNumber c 0 (nI (n - 1)) S TU).2 TU = B) (hV : g_c_2_readValue c true B.2 TU = V) (hbc : decide (tCan TU A.toNatClampNeg B.1.toNatClampNeg V.1) = bc) :
    g_c_2_readUpdate c n 10 S TU = if V.2.1 7 = 0 then (if (g_c_2_ends c bc V.2 TU).1 = true then ((g_c_2_ends c bc V.2 TU).2, (tUpdate TU A B.1 1 V.1).1) else ((g_c_2_ends c bc V.2 TU).2, TU)) else (V.2, TU) := by
  rw [g_c_2_readUpdate, hA, hB, hV]
  have h1 : ¬ (10 : Int32) = 9 := by decide
  have h2 : ¬ (10 : Int32) = 11 := by decide
  simp only [if_neg h1, if_neg h2, if_true]
  cases bc with
  | true => simp only [hbc, if_true]
  | false => simp only [hbc, Bool.false_eq_true, if_false]
end FORMS
/-- what reading a command comes to -/
def rdO (x : Nat → Int32) (t c p e : Nat) (S : ZS) (R : ZS × TS) (r : Bool × ZS) : Prop :=
  (r.1 = true ∧ ∃ q, p ≤ q ∧ q < c ∧ R.1 = sI 5 (nI (q + 1)) S ∧ sC x t q e r.2 ∧ ∃ n, Rel n R.2 (r.2.2 0)) ∨ (r.1 = false ∧ Fl c R.1 r.2)
section CMDS
variable {x : Nat → Int32} {t c p e u n : Nat} {S M : ZS} {TU : TS}
theorem sP.ok (h : sP x t c p e S) {q : Nat} (hq : q ≤ c) : (sI 5 (nI q) S).1 7 = 0 := (h.to hq).2.1
theorem c_negate (hS : sP x t c p e S) (hM : sC x t p u M) (hR : Rel n TU (M.2 0)) (hO : mOK n M) : rdO x t c p u S (g_c_2_readUpdate (c + 1) n 11 S TU) (g_m_readsNegate t n M) := by
  obtain ⟨⟨h1, h40⟩, hn, hw⟩ := hR.1
  rw [g_m_readsNegate]
  rcases b_range (TU := TU) hS hM hw h1 h40 with ⟨f, g, N, r1, r2, r3, r4, r5, r6, r7, r8, r9, r10, r11⟩ | ⟨r1, r2⟩
  · rw [r7] at r8
    rw [upd_f11 r7 r8, r1]
    have hS2 := hS.to (q := p + 2) (by omega)
    have hR2 : Rel n TU (N.2 0) := by rw [r10]; exact hR
    simp only [if_pos hS2.2.1, if_true]
    rcases b_end (TU := TU) true hS2 r9 with ⟨-, s2, s3, s4, s5⟩ | ⟨s1, s2, s3⟩
    · left
      rw [s4, s5]
      simp only [if_true]
      have es : s_m_readsNegate_1 t n M = (g_m_updates n f g (-1) 0 N).2 := by
        rw [s_m_readsNegate_1, r1]
        show (g_m_updates n (mN N 0) (mN N 1) (-1) 0 N).2 = _
        rw [r4, r5]
      rw [es]
      have g9 := (hR2.2.2.2.1 1 (by decide) (by decide) (by rw [gp_1]; exact h1)).2.2.1
      rw [gp_1] at g9
      have hu := Rel_update (A := -1) (B := 0) hR2 r3 r2 (Or.inl rfl) (fun j _ y => bd_neg (g9 j (Nat.zero_le _) (by show j < n; omega)))
      exact ⟨by trivial, p + 2, by omega, s3, by rw [sI_sI], r9.uF (upd_keep h1 h40 (r11.ok hO)).1, n, hu.1⟩
    · right
      rw [s1, s2]
      simp only [Bool.false_eq_true, if_false]
      first | exact ⟨rfl, s3⟩ | exact ⟨trivial, s3⟩ | exact s3
  · right
    rw [upd_f11 rfl rfl, r1, if_neg r2.1]
    simp only [Bool.false_eq_true, if_false]
    first | exact ⟨rfl, r2⟩ | exact ⟨trivial, r2⟩ | exact r2
theorem c_assign (hS : sP x t c p e S) (hM : sC x t p u M) (hR : Rel n TU (M.2 0)) (hO : mOK n M) : rdO x t c p u S (g_c_2_readUpdate (c + 1) n 9 S TU) (g_m_readsAssign t n M) := by
  obtain ⟨⟨h1, h40⟩, hn, hw⟩ := hR.1
  rw [g_m_readsAssign]
  rcases b_range (TU := TU) hS hM hw h1 h40 with ⟨f, g, N, r1, r2, r3, r4, r5, r6, r7, r8, r9, r10, r11⟩ | ⟨r1, r2⟩
  · have hS2 := hS.to (q := p + 2) (by omega)
    rw [r7] at r8
    rw [upd_f9 r7 r8 rfl, r1]
    simp only [if_true]
    rcases b_valueAt (TU := TU) (j := 2) hS2 r9 with ⟨q, v, N2, q1, q2, q3, q4, q5, q6, q7, q8⟩ | ⟨q1, q2⟩
    · have hR2 : Rel n TU (N2.2 0) := by rw [q6]; show Rel n TU (N.2 0); rw [r10]; exact hR
      have hS3 := hS2.to (q := q + 1) (by omega)
      rw [q3, q4]
      simp only [if_pos hS3.2.1, if_true]
      rcases b_end (TU := TU) true hS3 q5 with ⟨-, s2, s3, s4, s5⟩ | ⟨s1, s2, s3⟩
      · left
        rw [s4, s5]
        simp only [if_true]
        have es : s_m_readsAssign_1 t n M = (g_m_updates n f g 0 v N2).2 := by
          rw [s_m_readsAssign_1, r1]
          show (g_m_updates n (mN N 0) (mN N 1) 0 ((g_m_valueAt t 2 N).2.2 12 2) (g_m_valueAt t 2 N).2).2 = _
          rw [q3, r4, r5]
          show (g_m_updates n f g 0 (N2.2 12 2) N2).2 = _
          rw [q6, sA_same]
        rw [es]
        have hu := Rel_update (A := 0) (B := v) hR2 r3 r2 (Or.inr (Or.inl rfl)) (fun j _ _ => by rw [Int32.zero_mul, Int32.zero_add]; exact bd_val q8)
        exact ⟨by trivial, q + 1, by omega, s3, by rw [sI_sI, sI_sI], q5.uF (upd_keep h1 h40 (q7.ok (r11.ok hO))).1, n, hu.1⟩
      · right
        rw [s1, s2]
        simp only [Bool.false_eq_true, if_false]
        first | exact ⟨rfl, s3⟩ | exact ⟨trivial, s3⟩ | exact s3
    · right
      rw [q1]
      simp only [if_neg q2.1, Bool.false_eq_true, if_false]
      first | exact ⟨rfl, q2⟩ | exact ⟨trivial, q2⟩ | exact q2
  · right
    rw [upd_f9 rfl rfl rfl, r1, val_no r2.1, if_neg r2.1]
    simp only [Bool.false_eq_true, if_false]
    first | exact ⟨rfl, r2⟩ | exact ⟨trivial, r2⟩ | exact r2
theorem c_add (hS : sP x t c p e S) (hM : sC x t p u M) (hR : Rel n TU (M.2 0)) (hO : mOK n M) : rdO x t c p u S (g_c_2_readUpdate (c + 1) n 10 S TU) (g_m_readsAdd t n M) := by
  obtain ⟨⟨h1, h40⟩, hn, hw⟩ := hR.1
  rw [g_m_readsAdd]
  rcases b_range (TU := TU) hS hM hw h1 h40 with ⟨f, g, N, r1, r2, r3, r4, r5, r6, r7, r8, r9, r10, r11⟩ | ⟨r1, r2⟩
  · have hS2 := hS.to (q := p + 2) (by omega)
    rw [r7] at r8
    have c1 : (nI f).toNatClampNeg = f := nI_clamp (by omega)
    have c2 : (nI g).toNatClampNeg = g := nI_clamp (by omega)
    rcases b_valueAt (TU := TU) (j := 2) hS2 r9 with ⟨q, v, N2, q1, q2, q3, q4, q5, q6, q7, q8⟩ | ⟨q1, q2⟩
    · have e0 : N2.2 0 = M.2 0 := by rw [q6]; exact r10
      have hR2 : Rel n TU (N2.2 0) := by rw [e0]; exact hR
      have hS3 := hS2.to (q := q + 1) (by omega)
      have hO2 := q7.ok (r11.ok hO)
      have eG : (g_m_grows n N2).2 0 = N2.2 0 := (mEq_grows (n := n) N2 h1 h40).2 0 (by decide) (by decide) (by decide)
      have hR3 : Rel n TU ((g_m_grows n N2).2 0) := by rw [eG]; exact hR2
      have hft := w_fits hR2 r2 r3 q8 N2 (mGr_of h1 h40 hO2) (fun j hj => by rw [valG_el h40 hj, eG]; exact (hR2.2.2.2.2.2 j hj).symm)
      have hG := q5.uF (uF_grows N2 h1 h40)
      have e23 : (g_m_grows n N2).1 23 = N2.1 23 := (uF_grows N2 h1 h40).1 23 (by decide) (by decide) (by decide)
      obtain ⟨bc, hbc⟩ : ∃ bc, decide (tCan TU f g v) = bc := ⟨_, rfl⟩
      have hbc2 : decide (tCan TU (nI f).toNatClampNeg ((nI g, sI 5 (nI (p + 2)) S) : Int32 × ZS).1.toNatClampNeg (g_c_2_readValue (c + 1) true ((nI g, sI 5 (nI (p + 2)) S) : Int32 × ZS).2 TU).1) = bc := by
        show decide (tCan TU (nI f).toNatClampNeg (nI g).toNatClampNeg (g_c_2_readValue (c + 1) true (sI 5 (nI (p + 2)) S) TU).1) = bc
        rw [c1, c2, q4]
        exact hbc
      have es2 : s_m_readsAdd_2 t n M = (g_m_stops bc (g_m_grows n N2)).2 := by
        rw [s_m_readsAdd_2, r1]
        show (g_m_stops (g_m_fits n (mN N 0) (mN N 1) ((g_m_valueAt t 2 N).2.2 12 2) (g_m_valueAt t 2 N).2).1 (g_m_grows n (g_m_valueAt t 2 N).2)).2 = _
        rw [q3, r4, r5]
        show (g_m_stops (g_m_fits n f g (N2.2 12 2) N2).1 (g_m_grows n N2)).2 = _
        rw [q6, sA_same, hft, hbc]
      have es3 : s_m_readsAdd_3 t n M = (g_m_updates n f g 1 v (g_m_grows n N2)).2 := by
        rw [s_m_readsAdd_3, r1]
        show (g_m_updates n (mN N 0) (mN N 1) 1 ((g_m_grows n (g_m_valueAt t 2 N).2).2 12 2) (g_m_grows n (g_m_valueAt t 2 N).2)).2 = _
        rw [q3, r4, r5]
        show (g_m_updates n f g 1 ((g_m_grows n N2).2 12 2) (g_m_grows n N2)).2 = _
        rw [(uF_grows N2 h1 h40).2.1 12 (by decide) (Or.inr rfl), q6, sA_same]
      have efit : (g_m_fits n (mN N 0) (mN N 1) (N2.2 12 2) N2).1 = bc := by rw [r4, r5, q6, sA_same]; exact hft.trans hbc
      rw [upd_f10 bc r7 r8 rfl hbc2, es2, es3, r1]
      simp only [if_true]
      rw [q3, q4]
      simp only [if_pos hS3.2.1, if_true, efit]
      rcases b_end (TU := TU) bc hS3 hG with ⟨s1, s2, s3, s4, s5⟩ | ⟨s1, s2, s3⟩
      · left
        have can := of_decide_eq_true (hbc.trans s1)
        have e1 : g_m_is 1 N2 = (true, N2) := by rw [g_m_is, if_pos (e23.symm.trans s2)]
        rw [s4, s5, e1]
        simp only [if_true]
        have hu := Rel_update (A := 1) (B := v) hR3 r3 r2 (Or.inr (Or.inr rfl)) (fun j y1 y2 => by rw [← hR3.2.2.2.2.2 j (by omega)]; exact can_el (fun j hj => el_bd hR2 hj) q8 r2 r3 can.1 can.2 j y1 y2)
        exact ⟨by trivial, q + 1, by omega, s3, by rw [sI_sI, sI_sI], hG.uF (upd_keep h1 h40 (mGr_of h1 h40 hO2).ok).1, n, hu.1⟩
      · right
        by_cases k1 : N2.1 23 = 1
        · have e1 : g_m_is 1 N2 = (true, N2) := by rw [g_m_is, if_pos k1]
          rw [s1, s2, e1]
          simp only [if_true, Bool.false_eq_true, if_false]
          first | exact ⟨rfl, s3⟩ | exact ⟨trivial, s3⟩ | exact s3
        · have e1 : g_m_is 1 N2 = (false, (g_m_fail 1 N2).2) := by rw [g_m_is, if_neg k1]
          rcases b_end (TU := TU) bc hS3 q5 with ⟨-, z2, -⟩ | ⟨-, -, z3⟩
          · exact absurd z2 k1
          · have e2 : g_m_stops bc N2 = (false, (g_m_fail 1 N2).2) := by
              rw [g_m_stops, g_m_is, if_neg k1, if_neg Bool.false_ne_true]
            rw [e2] at z3
            rw [s1, e1]
            simp only [Bool.false_eq_true, if_false]
            first | exact ⟨rfl, z3⟩ | exact ⟨trivial, z3⟩ | exact z3
    · right
      rw [upd_f10 _ r7 r8 rfl rfl, r1]
      simp only [if_true]
      rw [q1]
      simp only [if_neg q2.1, Bool.false_eq_true, if_false]
      first | exact ⟨rfl, q2⟩ | exact ⟨trivial, q2⟩ | exact q2
  · right
    rw [upd_f10 _ rfl rfl rfl rfl, r1, val_no r2.1, if_neg r2.1]
    simp only [Bool.false_eq_true, if_false]
    first | exact ⟨rfl, r2⟩ | exact ⟨trivial, r2⟩ | exact r2
end CMDS
