variable {sc : SC}
/-! ===== changes ===== -/
theorem remS_1 (c : Nat) (S : ZS) : (remS c S).1 1 = nI (if c < 8 then c + 1 else 8) ∧ (remS c S).1 0 = S.1 0 := by
  by_cases q : c < 8
  · have e : remS c S = sI 1 (nI (c + 1)) S := if_pos q
    rw [e, if_pos q]
    exact ⟨rfl, rfl⟩
  · have e : remS c S = sI 1 (nI (7 + 1)) (sI 1 7 S) := if_neg q
    rw [e, if_neg q]
    exact ⟨rfl, rfl⟩
section CHG
variable {n0 n1 c : Nat} {S X R : ZS} {T T1 : TS} {P : ZS} {TU : TS} {q : Nat} {G : Nat → TS} {TN : TS} {M M' M1 : ZS} {x : Int32}
theorem chg (hI : Inv n0 S X R T P TU q G TN M) (hc : S.1 1 = nI c) (h8 : c ≤ 8) (h5 : M.1 5 = nI c) (hH : HistI c q G (M.2 3)) (hq : q0 M M') (hu : uF (g_m_begins M') M1) (hT : Rel n1 T1 (M1.2 0)) :
    (g_m_remember c x M1).1 = x ∧ (g_m_remember c x M1).2.1 15 = 0 ∧ Inv n1 (remS c S) X R T1 P TU (remR c q) (remG c q G T) TN (g_m_remember c x M1).2 := by
  obtain ⟨a, b, -, d, ⟨t, t1, t2, t3, t4⟩, ⟨e1, ec, eq, e2, e3, e4, e5, e6⟩, ⟨f1, f2, f3', f4⟩⟩ := hI.q hq.1
  obtain ⟨b1, b2, b3⟩ := beg M'
  have k : ∀ j, ¬ j = 19 → ¬ j = 21 → ¬ j = 22 → M1.1 j = M'.1 j := fun j y1 y2 y3 => (hu.1 j y1 y2 y3).trans (congrFun b1 j)
  have w : ∀ j, 2 ≤ j → j ≤ 7 → M1.2 j = M'.2 j := fun j y1 y2 => (hu.2.1 j (by omega) (Or.inl y2)).trans (b2 j (by omega))
  have h5' : M1.1 5 = nI c := (k 5 (by decide) (by decide) (by decide)).trans ((hq.1.1 5 (by decide) (by decide) (by decide) (by decide)).trans h5)
  have hH' : HistI c q G (M1.2 3) := by rw [w 3 (by decide) (by decide), hq.1.2.1 3 (by decide) (by decide)]; exact hH
  obtain ⟨r1, r2, r3, r4⟩ := remember_ok (x := x) (S := M1) h5' h8 a (fun j hj => (congrFun (hu.2.1 1 (by decide) (Or.inl (by decide))) j).trans (b3 j hj)) hH'
  obtain ⟨s1, s2⟩ := remS_1 c S
  have kk : ∀ j, ¬ j = 5 → ¬ j = 19 → ¬ j = 21 → ¬ j = 22 → (g_m_remember c x M1).2.1 j = M'.1 j := fun j y0 y1 y2 y3 => by
    rw [r2, upd_at, if_neg y0]; exact k j y1 y2 y3
  have ww : ∀ j, 4 ≤ j → j ≤ 7 → (g_m_remember c x M1).2.2 j = M'.2 j := fun j y1 y2 => (r3 j (by omega)).trans (w j (by omega) y2)
  have hF2 : mFg (g_m_remember c x M1).2 := by
    have g0 : mFg M1 := (b.gF (begins_gF M')).gF hu.2.2
    refine g0.gF (Or.inl ⟨?_, r3 8 (by decide), r3 9 (by decide), r3 10 (by decide)⟩)
    rw [r2]; rfl
  refine ⟨r1, (kk 15 (by decide) (by decide) (by decide) (by decide)).trans hq.2, ?_⟩
  refine ⟨by rw [r3 0 (by decide)]; exact hT, hF2, ⟨if c < 8 then c + 1 else 8, by split <;> omega, s1, by rw [r2]; rfl, r4⟩, ?_, ⟨t, t1, t2, by rw [kk 9 (by decide) (by decide) (by decide) (by decide)]; exact t3, by rw [ww 5 (by decide) (by decide)]; exact t4⟩, ⟨by rw [kk 11 (by decide) (by decide) (by decide) (by decide)]; exact e1, ec, eq, e2, e3, e4, e5, by rw [kk 12 (by decide) (by decide) (by decide) (by decide)]; exact e6⟩, ⟨f1, f2, by rw [kk 14 (by decide) (by decide) (by decide) (by decide)]; exact f3', by rw [ww 7 (by decide) (by decide)]; exact f4⟩⟩
  unfold SnapI
  rw [s2, kk 6 (by decide) (by decide) (by decide) (by decide), ww 4 (by decide) (by decide)]
  exact d
/-- what the operation finds -/
theorem fnd (hI : Inv n0 S X R T P TU q G TN M) (hq : q0 M M') : Rel n0 T ((g_m_begins M').2 0) ∧ mOK n0 (g_m_begins M') := by
  obtain ⟨a, b, -⟩ := hI.q hq.1
  have e : (g_m_begins M').2 0 = M'.2 0 := (beg M').2.1 0 (by decide)
  have hR : Rel n0 T ((g_m_begins M').2 0) := by rw [e]; exact a
  exact ⟨hR, rel_ok hR (b.gF (begins_gF M'))⟩
end CHG
theorem bd_val {v : Int32} (h : -9999 ≤ v ∧ v ≤ 9999) : bd v := by
  obtain ⟨h1, h2⟩ := h
  have a1 := Int32.le_iff_toInt_le.mp h1
  have a2 := Int32.le_iff_toInt_le.mp h2
  have n1 : (-9999 : Int32).toInt = -9999 := by decide
  have n2 : (9999 : Int32).toInt = 9999 := by decide
  exact ⟨by omega, by omega⟩
theorem bd_neg {v : Int32} (h : bd v) : bd (-1 * v + 0) := by
  obtain ⟨h1, h2⟩ := h
  rw [Int32.add_zero, i_m1]
  have := i_neg (a := v) ⟨by omega, by omega⟩
  exact ⟨by omega, by omega⟩
/-- what fits a range fits each of its elements -/
theorem can_el {n : Nat} {w : Nat → Int32} {a b : Nat} {v : Int32} (hb : ∀ i, i < n → bd (w i)) (hv : -9999 ≤ v ∧ v ≤ 9999) (hab : a ≤ b) (hbn : b < n) (h1 : tEl (tMinF w (b - a) (a + 1) (w a) + v)) (h2 : tEl (tMaxF w (b - a) (a + 1) (w a) + v)) : ∀ i, a ≤ i → i ≤ b → bd (1 * w i + v) := by
  have mn : ∀ (fu i : Nat) (x : Int32), i + fu ≤ n → (tMinF w fu i x).toInt ≤ x.toInt ∧ ∀ j, i ≤ j → j < i + fu → (tMinF w fu i x).toInt ≤ (w j).toInt := by
    intro fu
    induction fu with
    | zero => intro i x _; exact ⟨Int.le_refl _, fun j p r => by omega⟩
    | succ fu ih =>
      intro i x hi
      obtain ⟨r1, r2⟩ := ih (i + 1) (zmin x (w i)) (by omega)
      show (tMinF w fu (i + 1) (zmin x (w i))).toInt ≤ x.toInt ∧ ∀ j, i ≤ j → j < i + (fu + 1) → (tMinF w fu (i + 1) (zmin x (w i))).toInt ≤ (w j).toInt
      have z := zmin_or x (w i)
      refine ⟨by rcases z with ⟨z1, z2⟩ | ⟨z1, z2⟩ <;> rw [z1] at r1 ⊢ <;> omega, fun j p r => ?_⟩
      by_cases y : j = i
      · rw [y]; rcases z with ⟨z1, z2⟩ | ⟨z1, z2⟩ <;> rw [z1] at r1 ⊢ <;> omega
      · exact r2 j (by omega) (by omega)
  have mx : ∀ (fu i : Nat) (x : Int32), i + fu ≤ n → x.toInt ≤ (tMaxF w fu i x).toInt ∧ ∀ j, i ≤ j → j < i + fu → (w j).toInt ≤ (tMaxF w fu i x).toInt := by
    intro fu
    induction fu with
    | zero => intro i x _; exact ⟨Int.le_refl _, fun j p r => by omega⟩
    | succ fu ih =>
      intro i x hi
      obtain ⟨r1, r2⟩ := ih (i + 1) (zmax x (w i)) (by omega)
      show x.toInt ≤ (tMaxF w fu (i + 1) (zmax x (w i))).toInt ∧ ∀ j, i ≤ j → j < i + (fu + 1) → (w j).toInt ≤ (tMaxF w fu (i + 1) (zmax x (w i))).toInt
      have z := zmax_or x (w i)
      refine ⟨by rcases z with ⟨z1, z2⟩ | ⟨z1, z2⟩ <;> rw [z1] at r1 ⊢ <;> omega, fun j p r => ?_⟩
      by_cases y : j = i
      · rw [y]; rcases z with ⟨z1, z2⟩ | ⟨z1, z2⟩ <;> rw [z1] at r1 ⊢ <;> omega
      · exact r2 j (by omega) (by omega)
  obtain ⟨a1, a2⟩ := mn (b - a) (a + 1) (w a) (by omega)
  obtain ⟨c1, c2⟩ := mx (b - a) (a + 1) (w a) (by omega)
  obtain ⟨⟨d1, d2⟩, -⟩ := min_bd hb (b - a) (a + 1) (w a) (by omega) (hb a (by omega))
  obtain ⟨⟨g1, g2⟩, -⟩ := max_bd hb (b - a) (a + 1) (w a) (by omega) (hb a (by omega))
  obtain ⟨v1, v2⟩ := hv
  have u1 := Int32.le_iff_toInt_le.mp v1
  have u2 := Int32.le_iff_toInt_le.mp v2
  have n1 : (-9999 : Int32).toInt = -9999 := by decide
  have n2 : (9999 : Int32).toInt = 9999 := by decide
  have n3 : (-1000000 : Int32).toInt = -1000000 := by decide
  have n4 : (1000000 : Int32).toInt = 1000000 := by decide
  have k1 := i_add (a := tMinF w (b - a) (a + 1) (w a)) (b := v) ⟨by omega, by omega⟩ ⟨by omega, by omega⟩
  have k2 := i_add (a := tMaxF w (b - a) (a + 1) (w a)) (b := v) ⟨by omega, by omega⟩ ⟨by omega, by omega⟩
  have l1 := Int32.le_iff_toInt_le.mp h1.1
  have l2 := Int32.le_iff_toInt_le.mp h2.2
  intro i p r
  have hi := hb i (by omega)
  obtain ⟨i1, i2⟩ := hi
  have k3 := i_add (a := w i) (b := v) ⟨by omega, by omega⟩ ⟨by omega, by omega⟩
  have lo : (tMinF w (b - a) (a + 1) (w a)).toInt ≤ (w i).toInt := by
    by_cases y : i = a
    · rw [y]; exact a1
    · exact a2 i (by omega) (by omega)
  have hi2 : (w i).toInt ≤ (tMaxF w (b - a) (a + 1) (w a)).toInt := by
    by_cases y : i = a
    · rw [y]; exact c1
    · exact c2 i (by omega) (by omega)
  rw [Int32.one_mul]
  exact ⟨by omega, by omega⟩
section STEP
variable {d i : Nat} {S X R : ZS} {T : TS} {P : ZS} {TU : TS} {q : Nat} {G : Nat → TS} {TN : TS} {fl : Nat → Int64} {fd : Nat → UInt64} {n : Nat} {f : Nat → Int32} {M : ZS} {n0 : Nat}
theorem l_step3 (hI : Inv n0 S X R T P TU q G TN M) (hi : i + 6 ≤ n) (hn : n ≤ 3072) (hd : 30 ≤ d) (hc : f i &&& 63 = 3) : lStp d i n f S X R T P TU q G TN fl fd M := by
  have hR := hI.1
  have hF := hI.2.1
  have h1 := hR.1.1.1
  have h40 := hR.1.1.2
  have hn0 := hR.1.2.1
  have hO := rel_ok hR hF
  obtain ⟨c, c8, hc1, hc5, hH⟩ := hI.2.2.1
  rcases idx2 hR (f (i + 1)) (f (i + 2)) with ⟨a, b, ea, eb, hab, hb, hm⟩ | ⟨⟨t1, t2, t3⟩, hm⟩ | ⟨t1, hm⟩
  · by_cases hv : -9999 ≤ f (i + 3) ∧ f (i + 3) ≤ 9999
    · have hv2 : g_m_isValue (f (i + 3)) = true := (isVal _).trans (decide_eq_true hv)
      obtain ⟨g1, g2⟩ := fnd hI (q0_15 hF)
      obtain ⟨u1, u2, u3⟩ := Rel_update (A := 0) (B := f (i + 3)) g1 hb hab (Or.inr (Or.inl rfl)) (fun j _ _ => by rw [Int32.zero_mul, Int32.zero_add]; exact bd_val hv)
      obtain ⟨r1, r2, r3⟩ := chg (x := (g_m_updates n0 a b 0 (f (i + 3)) (g_m_begins (sI 15 0 M))).1) hI hc1 c8 hc5 hH (q0_15 hF) (upd_keep h1 h40 g2).1 u1
      refine ⟨remS c S, X, R, _, P, TU, remR c q, remG c q G T, TN, vp_updL fl 0 ((nI (tUpdate T (nI a) (nI b) 0 (f (i + 3))).2).toInt64), fd, (g_m_assign n0 c a b (f (i + 3)) M).2, ⟨n0, r3⟩, fun mc ms r h' K => ?_⟩
      exact l_case3 hi hn hc (k := 0) (b := (g_m_assign n0 c a b (f (i + 3)) M).1) (d2 := 4) (mc2 := 0) (ms2 := 0) (d3 := 12) (by omega) (by decide) (by decide) (by rw [ea, eb]; exact k_L_assign S X R T P TU q G TN c hc1 c8 n0 a b hn0 h40 hab hb (f (i + 3)) hv fl) (by omega) (by rw [ea, eb]; exact k_m_assign n0 c a b (f (i + 3)) M h1 h40 hab hb hO hv2 hc5 c8) r2 (fun _ => (if_pos rfl).trans (congrArg Int32.toInt64 (u2.trans r1.symm))) K
    · have hv2 : g_m_isValue (f (i + 3)) = false := (isVal _).trans (decide_eq_false hv)
      have nz : ¬ f (i + 2) < f (i + 1) := by rw [ea, eb, nI_ltI (by omega) (by omega)]; omega
      have e9 : (g_m_assign_x3 (f (i + 1)) (f (i + 2)) (f (i + 3)) M).2 = sI 15 2 M := by first | rfl | (rw [g_m_assign_x3]; repeat' split) <;> rfl
      refine ⟨S, X, R, T, P, TU, q, G, TN, fl, fd, (g_m_assign_x3 (f (i + 1)) (f (i + 2)) (f (i + 3)) M).2, ⟨n0, hI.q (by rw [e9]; exact qF_15 2 hF)⟩, fun mc ms r h' K => ?_⟩
      exact l_case3 hi hn hc (k := 2) (b := (g_m_assign_x3 (f (i + 1)) (f (i + 2)) (f (i + 3)) M).1) (d2 := 10) (mc2 := 1) (ms2 := 6) (d3 := 3) (by omega) (by decide) (by decide) (by rw [ea, eb]; exact k_L_assign_x3 n0 a b (f (i + 3)) S X R T hn0 h40 hab hb hv P TU q G TN fl) (by omega) (k_m_assign_x3 (f (i + 1)) (f (i + 2)) (f (i + 3)) M hm nz hv2) (by rw [e9]; exact sI_same _ _ _) (fun e => absurd e (by decide)) K
  · have e9 : (g_m_assign_x2 (f (i + 1)) (f (i + 2)) (f (i + 3)) M).2 = sI 15 2 M := by first | rfl | (rw [g_m_assign_x2]; repeat' split) <;> rfl
    refine ⟨S, X, R, T, P, TU, q, G, TN, fl, fd, (g_m_assign_x2 (f (i + 1)) (f (i + 2)) (f (i + 3)) M).2, ⟨n0, hI.q (by rw [e9]; exact qF_15 2 hF)⟩, fun mc ms r h' K => ?_⟩
    exact l_case3 hi hn hc (k := 2) (b := (g_m_assign_x2 (f (i + 1)) (f (i + 2)) (f (i + 3)) M).1) (d2 := 11) (mc2 := 1) (ms2 := 6) (d3 := 3) (by omega) (by decide) (by decide) (k_L_assign_x2 n0 (f (i + 1)) (f (i + 2)) (f (i + 3)) S X R T hn0 h40 t1 t2 t3 P TU q G TN fl) (by omega) (k_m_assign_x2 (f (i + 1)) (f (i + 2)) (f (i + 3)) M hm t3) (by rw [e9]; exact sI_same _ _ _) (fun e => absurd e (by decide)) K
  · have e9 : (g_m_assign_x1 (f (i + 1)) (f (i + 2)) (f (i + 3)) M).2 = sI 15 1 M := by first | rfl | (rw [g_m_assign_x1]; repeat' split) <;> rfl
    refine ⟨S, X, R, T, P, TU, q, G, TN, fl, fd, (g_m_assign_x1 (f (i + 1)) (f (i + 2)) (f (i + 3)) M).2, ⟨n0, hI.q (by rw [e9]; exact qF_15 1 hF)⟩, fun mc ms r h' K => ?_⟩
    exact l_case3 hi hn hc (k := 1) (b := (g_m_assign_x1 (f (i + 1)) (f (i + 2)) (f (i + 3)) M).1) (d2 := 11) (mc2 := 1) (ms2 := 6) (d3 := 3) (by omega) (by decide) (by decide) (k_L_assign_x1 n0 (f (i + 1)) (f (i + 2)) (f (i + 3)) S X R T hn0 h40 t1 P TU q G TN fl) (by omega) (k_m_assign_x1 (f (i + 1)) (f (i + 2)) (f (i + 3)) M hm) (by rw [e9]; exact sI_same _ _ _) (fun e => absurd e (by decide)) K
end STEP
