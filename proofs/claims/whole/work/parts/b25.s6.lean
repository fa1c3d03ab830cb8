variable {sc : SC}
/-! ===== the input, the report, the past ===== -/
theorem i_nI {x : Int32} {b : Nat} (h0 : 0 ≤ x) (hb : x ≤ nI b) (h : b < 2 ^ 31) : ∃ k, x = nI k ∧ k ≤ b := by
  have c3 := Int32.le_iff_toInt_le.mp h0
  have c4 := Int32.le_iff_toInt_le.mp hb
  have e1 : (0 : Int32).toInt = 0 := by decide
  rw [e1] at c3
  rw [nI_toInt h] at c4
  refine ⟨x.toInt.toNat, ?_, by omega⟩
  apply Int32.toInt_inj.mp
  rw [nI_toInt (by omega)]
  omega
theorem bd_tEl {v : Int32} (h : bd v) : tEl v := by
  obtain ⟨h1, h2⟩ := h
  have n3 : (-1000000 : Int32).toInt = -1000000 := by decide
  have n4 : (1000000 : Int32).toInt = 1000000 := by decide
  exact ⟨Int32.le_iff_toInt_le.mpr (by omega), Int32.le_iff_toInt_le.mpr (by omega)⟩
section INV2
variable {n : Nat} {S X R X' R' : ZS} {T : TS} {P : ZS} {TU : TS} {rk : Nat} {G : Nat → TS} {TN : TS} {M M' : ZS}
theorem Inv.inp (h : Inv n S X R T P TU rk G TN M) (k : ∀ j, ¬ j = 9 → ¬ j = 15 → M'.1 j = M.1 j) (w : ∀ j, ¬ j = 5 → M'.2 j = M.2 j) (hi : InpI X' M') : Inv n S X' R T P TU rk G TN M' := by
  obtain ⟨a, b, ⟨c, c1, c2, c3, c4⟩, d, -, ⟨e1, ec, eq, e2, e3, e4, e5, e6⟩, ⟨f1, f2, f3', f4⟩⟩ := h
  refine ⟨by rw [w 0 (by decide)]; exact a, b.gF (Or.inl ⟨k 19 (by decide) (by decide), w 8 (by decide), w 9 (by decide), w 10 (by decide)⟩), ⟨c, c1, c2, by rw [k 5 (by decide) (by decide)]; exact c3, by rw [w 3 (by decide)]; exact c4⟩, ?_, hi, ⟨by rw [k 11 (by decide) (by decide)]; exact e1, ec, eq, e2, e3, e4, e5, by rw [k 12 (by decide) (by decide)]; exact e6⟩, ⟨f1, f2, by rw [k 14 (by decide) (by decide)]; exact f3', by rw [w 7 (by decide)]; exact f4⟩⟩
  unfold SnapI
  rw [k 6 (by decide) (by decide), w 4 (by decide)]
  exact d
theorem Inv.rep (h : Inv n S X R T P TU rk G TN M) (u : wF (g_m_grows n (sI 14 0 (sI 15 0 M))) M') (hi : RepI R' M') : Inv n S X R' T P TU rk G TN M' := by
  obtain ⟨a, b, ⟨c, c1, c2, c3, c4⟩, d, ⟨t, t1, t2, t3, t4⟩, ⟨e1, ec, eq, e2, e3, e4, e5, e6⟩, -⟩ := h
  have h1 := a.1.1.1
  have h40 := a.1.1.2
  have g := mEq_grows (n := n) (sI 14 0 (sI 15 0 M)) h1 h40
  have k : ∀ j, ¬ j = 14 → ¬ j = 15 → ¬ j = 19 → M'.1 j = M.1 j := fun j y1 y2 y3 => (u.1 j y1).trans ((g.1 j y3).trans ((sI_o y1).trans (sI_o y2)))
  have w : ∀ j, ¬ j = 7 → ¬ j = 8 → ¬ j = 9 → ¬ j = 10 → M'.2 j = M.2 j := fun j y1 y2 y3 y4 => (u.2 j y1).trans (g.2 j y2 y3 y4)
  have hF : mFg M' := (((b.gF (gF_I (k := 15) (v := 0) (by decide))).gF (gF_I (k := 14) (v := 0) (by decide))).gF (uF_grows (n := n) (sI 14 0 (sI 15 0 M)) h1 h40).2.2).gF (Or.inl ⟨u.1 19 (by decide), u.2 8 (by decide), u.2 9 (by decide), u.2 10 (by decide)⟩)
  refine ⟨by rw [w 0 (by decide) (by decide) (by decide) (by decide)]; exact a, hF, ⟨c, c1, c2, by rw [k 5 (by decide) (by decide) (by decide)]; exact c3, by rw [w 3 (by decide) (by decide) (by decide) (by decide)]; exact c4⟩, ?_, ⟨t, t1, t2, by rw [k 9 (by decide) (by decide) (by decide)]; exact t3, by rw [w 5 (by decide) (by decide) (by decide) (by decide)]; exact t4⟩, ⟨by rw [k 11 (by decide) (by decide) (by decide)]; exact e1, ec, eq, e2, e3, e4, e5, by rw [k 12 (by decide) (by decide) (by decide)]; exact e6⟩, hi⟩
  unfold SnapI
  rw [k 6 (by decide) (by decide) (by decide), w 4 (by decide) (by decide) (by decide) (by decide)]
  exact d
/-- the tree, the past and the snapshot may change -/
theorem Inv.cng {n' : Nat} {S' : ZS} {T' : TS} {rk' : Nat} {G' : Nat → TS} {TN' : TS} (h : Inv n S X R T P TU rk G TN M) (hT : Rel n' T' (M'.2 0)) (k : ∀ j, ¬ j = 5 → ¬ j = 6 → ¬ j = 15 → M'.1 j = M.1 j) (w : ∀ j, 5 ≤ j → M'.2 j = M.2 j) (hH : ∃ c, c ≤ 8 ∧ S'.1 1 = nI c ∧ M'.1 5 = nI c ∧ HistI c rk' G' (M'.2 3)) (hS : SnapI S' TN' M') : Inv n' S' X R T' P TU rk' G' TN' M' := by
  obtain ⟨a, b, -, -, ⟨t, t1, t2, t3, t4⟩, ⟨e1, ec, eq, e2, e3, e4, e5, e6⟩, ⟨f1, f2, f3', f4⟩⟩ := h
  exact ⟨hT, b.gF (Or.inl ⟨k 19 (by decide) (by decide) (by decide), w 8 (by decide), w 9 (by decide), w 10 (by decide)⟩), hH, hS, ⟨t, t1, t2, by rw [k 9 (by decide) (by decide) (by decide)]; exact t3, by rw [w 5 (by decide)]; exact t4⟩, ⟨by rw [k 11 (by decide) (by decide) (by decide)]; exact e1, ec, eq, e2, e3, e4, e5, by rw [k 12 (by decide) (by decide) (by decide)]; exact e6⟩, ⟨f1, f2, by rw [k 14 (by decide) (by decide) (by decide)]; exact f3', by rw [w 7 (by decide)]; exact f4⟩⟩
end INV2
section STEP
variable {d i : Nat} {S X R : ZS} {T : TS} {P : ZS} {TU : TS} {q : Nat} {G : Nat → TS} {TN : TS} {fl : Nat → Int64} {fd : Nat → UInt64} {n : Nat} {f : Nat → Int32} {M : ZS} {n0 : Nat}
theorem l_step0 (hI : Inv n0 S X R T P TU q G TN M) (hi : i + 6 ≤ n) (hn : n ≤ 3072) (hd : 30 ≤ d) (hc : f i &&& 63 = 0) : lStp d i n f S X R T P TU q G TN fl fd M := by
  obtain ⟨t, t6, hX⟩ := hI.2.2.2.2.1
  obtain ⟨r1, ⟨t', t6', r2⟩, r3⟩ := e_append (a := f (i + 1)) (b := f (i + 2)) (c := f (i + 3)) (d := f (i + 4)) (e := f (i + 5)) (S := S) (R := R) (T := T) (M := M) hX t6
  refine ⟨S, (g_c_6_append t (f (i + 1)) (f (i + 2)) (f (i + 3)) (f (i + 4)) (f (i + 5)) S X R T).2, R, T, P, TU, q, G, TN, fl, fd, (g_m_append t (f (i + 1)) (f (i + 2)) (f (i + 3)) (f (i + 4)) (f (i + 5)) M).2, ⟨n0, hI.inp (fun j y1 y2 => (r3.1 j y1).trans (sI_o y2)) (fun j y => r3.2 j y) ⟨t', t6', r2⟩⟩, fun mc ms r h' K => ?_⟩
  exact l_case0 hi hn hc (by omega) (k_c_6_append t _ _ _ _ _ S X R T hX.1 t6) (by omega) (k_m_append t _ _ _ _ _ M hX.2.1 t6) r1 K
theorem l_step1 (hI : Inv n0 S X R T P TU q G TN M) (hi : i + 6 ≤ n) (hn : n ≤ 3072) (hd : 30 ≤ d) (hc : f i &&& 63 = 1) : lStp d i n f S X R T P TU q G TN fl fd M := by
  obtain ⟨t, t6, t2, t3, t4⟩ := hI.2.2.2.2.1
  have hin := m_in (f (i + 1)) 0 (M.1 9)
  by_cases c : 0 ≤ f (i + 1) ∧ f (i + 1) ≤ X.1 2
  · obtain ⟨k, ek, hk⟩ := i_nI c.1 (by rw [← t2]; exact c.2) (by omega)
    have hin2 : g_m_in (f (i + 1)) 0 (M.1 9) = true := hin.trans (decide_eq_true ⟨c.1, by rw [t3, ← t2]; exact c.2⟩)
    refine ⟨S, g_c_3_shorten t k X, R, T, P, TU, q, G, TN, vp_updL fl 0 ((nI k).toInt64), fd, (g_m_truncateInput (f (i + 1)) M).2, ⟨n0, hI.inp (fun j y1 y2 => (sI_o y1).trans (sI_o y2)) (fun j y => rfl) ⟨k, by omega, sI_same _ _ _, (sI_same _ _ _).trans ek, fun i hi => t4 i (by omega)⟩⟩, fun mc ms r h' K => ?_⟩
    exact l_case1 hi hn hc (k := 0) (b := (g_m_truncateInput (f (i + 1)) M).1) (d2 := 2) (mc2 := 0) (ms2 := 0) (d3 := 1) (by omega) (by decide) (by decide) (by rw [ek]; exact k_L_truncateInput t k S X R T t2 t6 hk P TU q G TN fl) (by omega) (k_m_truncateInput (f (i + 1)) M hin2) ((sI_o (by decide)).trans (sI_same _ _ _)) (fun _ => (if_pos rfl).trans (congrArg Int32.toInt64 ek.symm)) K
  · have hin2 : g_m_in (f (i + 1)) 0 (M.1 9) = false := hin.trans (decide_eq_false (fun z => c ⟨z.1, by rw [t2, ← t3]; exact z.2⟩))
    refine ⟨S, X, R, T, P, TU, q, G, TN, fl, fd, (g_m_truncateInput_x1 (f (i + 1)) M).2, ⟨n0, hI.q (qF_15 1 hI.2.1)⟩, fun mc ms r h' K => ?_⟩
    exact l_case1 hi hn hc (k := 1) (b := (g_m_truncateInput_x1 (f (i + 1)) M).1) (d2 := 9) (mc2 := 1) (ms2 := 6) (d3 := 1) (by omega) (by decide) (by decide) (k_L_truncateInput_x1 (f (i + 1)) S X R T c P TU q G TN fl) (by omega) (k_m_truncateInput_x1 (f (i + 1)) M hin2) (sI_same _ _ _) (fun e => absurd e (by decide)) K
theorem l_step62 (hI : Inv n0 S X R T P TU q G TN M) (hi : i + 6 ≤ n) (hn : n ≤ 3072) (hd : 30 ≤ d) (hc : f i &&& 63 = 62) : lStp d i n f S X R T P TU q G TN fl fd M := by
  have hR := hI.1
  have hF := hI.2.1
  have h1 := hR.1.1.1
  have h40 := hR.1.1.2
  have hn0 := hR.1.2.1
  have hO := rel_ok hR hF
  rcases idx2 hR (f (i + 1)) (f (i + 2)) with ⟨a, b, ea, eb, hab, hb, hm⟩ | ⟨⟨t1, t2, t3⟩, hm⟩ | ⟨t1, hm⟩
  · obtain ⟨r1, r2, r3⟩ := e_writeRange (S := S) (X := X) hR hO hab hb hI.2.2.2.2.2.2
    have hB : mBd n0 M := fun j hj => by
      rw [valG_el h40 hj, ← hR.2.2.2.2.2 j hj]
      exact bd_tEl (el_bd hR hj)
    have g := mEq_grows (n := n0) (sI 14 0 (sI 15 0 M)) h1 h40
    refine ⟨S, X, (g_c_6_writeRange n0 a b S X R T).2, T, P, TU, q, G, TN, vp_updL fl 0 ((g_c_6_writeRange n0 a b S X R T).1.toInt64), fd, (g_m_writeRange n0 a b M).2, ⟨n0, hI.rep r3 r2⟩, fun mc ms r h' K => ?_⟩
    exact l_case62 hi hn hc (k := 0) (b := (g_m_writeRange n0 a b M).1) (d2 := 4) (mc2 := 0) (ms2 := 0) (d3 := 9) (by omega) (by decide) (by decide) (by rw [ea, eb]; exact k_L_writeRange n0 a b S X R T hn0 h40 hab hb (fun j hj => bd_tEl (el_bd hR hj)) P TU q G TN fl) (by omega) (by rw [ea, eb]; exact k_m_writeRange n0 a b M h1 h40 hab hb hO hB) ((r3.1 15 (by decide)).trans ((g.1 15 (by decide)).trans ((sI_o (by decide)).trans (sI_same _ _ _)))) (fun _ => (if_pos rfl).trans (congrArg Int32.toInt64 r1)) K
  · -- it ends before it begins
    refine ⟨S, X, R, T, P, TU, q, G, TN, fl, fd, (g_m_writeRange_x2 (f (i + 1)) (f (i + 2)) M).2, ⟨n0, hI.q (qF_15 2 hF)⟩, fun mc ms r h' K => ?_⟩
    exact l_case62 hi hn hc (k := 2) (b := (g_m_writeRange_x2 (f (i + 1)) (f (i + 2)) M).1) (d2 := 11) (mc2 := 1) (ms2 := 6) (d3 := 4) (by omega) (by decide) (by decide) (k_L_writeRange_x2 n0 (f (i + 1)) (f (i + 2)) S X R T hn0 h40 t1 t2 t3 P TU q G TN fl) (by omega) (k_m_writeRange_x2 (f (i + 1)) (f (i + 2)) M hm t3) (sI_same _ _ _) (fun e => absurd e (by decide)) K
  · -- no index
    refine ⟨S, X, R, T, P, TU, q, G, TN, fl, fd, (g_m_writeRange_x1 (f (i + 1)) (f (i + 2)) M).2, ⟨n0, hI.q (qF_15 1 hF)⟩, fun mc ms r h' K => ?_⟩
    exact l_case62 hi hn hc (k := 1) (b := (g_m_writeRange_x1 (f (i + 1)) (f (i + 2)) M).1) (d2 := 11) (mc2 := 1) (ms2 := 6) (d3 := 4) (by omega) (by decide) (by decide) (k_L_writeRange_x1 n0 (f (i + 1)) (f (i + 2)) S X R T hn0 h40 t1 P TU q G TN fl) (by omega) (k_m_writeRange_x1 (f (i + 1)) (f (i + 2)) M hm) (sI_same _ _ _) (fun e => absurd e (by decide)) K
theorem l_step63 (hI : Inv n0 S X R T P TU q G TN M) (hi : i + 6 ≤ n) (hn : n ≤ 3072) (hd : 30 ≤ d) (hc : f i &&& 63 = 63) : lStp d i n f S X R T P TU q G TN fl fd M := by
  have hF := hI.2.1
  obtain ⟨r1, r2, r3, r4⟩ := hI.2.2.2.2.2.2
  have hin := m_in (f (i + 1)) 0 (M.1 14 - 1)
  have e14 : M.1 14 = nI (rr R) := r3.trans r1
  have ht : (nI (rr R) - 1).toInt = (rr R : Int) - 1 := by
    rw [show (1 : Int32) = nI 1 by decide, pk_sub_toInt (by omega) (by decide)]
    rfl
  by_cases c : 0 ≤ f (i + 1)
  · obtain ⟨k, ek, hk⟩ := i_nI (b := 2147483647) c (by
      rw [Int32.le_iff_toInt_le, nI_toInt (by decide)]
      have := Int32.toInt_lt (f (i + 1))
      omega) (by decide)
    by_cases c2 : k < rr R
    · have hin2 : g_m_in (nI k) 0 (M.1 14 - 1) = true := (m_in _ _ _).trans (decide_eq_true ⟨by rw [← ek]; exact c, by
        rw [e14, Int32.le_iff_toInt_le, ht, nI_toInt (by omega)]
        omega⟩)
      refine ⟨S, X, R, T, P, TU, q, G, TN, fl, fd, (g_m_reportByte_v k M).2, ⟨n0, hI.q (qF_15 0 hF)⟩, fun mc ms r h' K => ?_⟩
      exact l_case63 hi hn hc (a := g_c_6_reportByte k S X R T) (b := (g_m_reportByte_v k M).1) (d2 := 1) (d3 := 1) (by omega) (by rw [ek]; exact k_c_6_reportByte k S X R T r1 r2 (by omega)) (by omega) (by rw [ek]; exact k_m_reportByte_v k M (by omega) hin2) ((if_neg (by omega)).trans (r4 k c2)) K
    · have hin2 : g_m_in (f (i + 1)) 0 (M.1 14 - 1) = false := hin.trans (decide_eq_false (fun z => by
        have z2 := z.2
        rw [ek, e14, Int32.le_iff_toInt_le, ht, nI_toInt (by omega)] at z2
        omega))
      refine ⟨S, X, R, T, P, TU, q, G, TN, fl, fd, (g_m_reportByte (f (i + 1)) M).2, ⟨n0, hI.q (qF_15 0 hF)⟩, fun mc ms r h' K => ?_⟩
      exact l_case63 hi hn hc (a := g_c_6_reportByte k S X R T) (b := (g_m_reportByte (f (i + 1)) M).1) (d2 := 1) (d3 := 1) (by omega) (by rw [ek]; exact k_c_6_reportByte k S X R T r1 r2 (by omega)) (by omega) (k_m_reportByte (f (i + 1)) M hin2) (if_pos (by omega)) K
  · have hin2 : g_m_in (f (i + 1)) 0 (M.1 14 - 1) = false := hin.trans (decide_eq_false (fun z => c z.1))
    refine ⟨S, X, R, T, P, TU, q, G, TN, fl, fd, (g_m_reportByte (f (i + 1)) M).2, ⟨n0, hI.q (qF_15 0 hF)⟩, fun mc ms r h' K => ?_⟩
    exact l_case63 hi hn hc (a := g_c_6_reportByte_neg (f (i + 1)) S X R T) (b := (g_m_reportByte (f (i + 1)) M).1) (d2 := 1) (d3 := 1) (by omega) (k_c_6_reportByte_neg (f (i + 1)) S X R T (by
      rw [Int32.lt_iff_toInt_lt]
      have : ¬ (0 : Int32).toInt ≤ (f (i + 1)).toInt := fun z => c (Int32.le_iff_toInt_le.mpr z)
      omega)) (by omega) (k_m_reportByte (f (i + 1)) M hin2) rfl K
theorem l_step10 (hI : Inv n0 S X R T P TU q G TN M) (hi : i + 6 ≤ n) (hn : n ≤ 3072) (hd : 30 ≤ d) (hc : f i &&& 63 = 10) : lStp d i n f S X R T P TU q G TN fl fd M := by
  obtain ⟨c, c8, hc1, hc5, hH⟩ := hI.2.2.1
  cases c with
  | zero =>
    refine ⟨S, X, R, T, P, TU, q, G, TN, fl, fd, (g_m_undo 0 M).2, ⟨n0, hI.q (qF_15 0 hI.2.1)⟩, fun mc ms r h' K => ?_⟩
    exact l_case10 hi hn hc (by omega) (k_f_undo_no S X R T P TU q G TN hc1) (by omega) (k_m_undo 0 M hc5 c8) rfl K
  | succ c =>
    obtain ⟨u1, u2, u3, u4⟩ := und_L (p := c + 1) 300 0 c (sI 5 (nI c) (sI 15 (0) M)) (by decide)
    have e : g_m_undo (c + 1) M = g_m_undo_L (c + 1) 300 0 c (sI 5 (nI c) (sI 15 (0) M)) := if_neg (by omega)
    obtain ⟨m, hm⟩ := hH c (by omega)
    refine ⟨sI 1 (nI c) S, X, R, tCopy (G ((c + q) % 8)) T, P, TU, q, G, TN, fl, fd, (g_m_undo (c + 1) M).2, ⟨m, ?_⟩, fun mc ms r h' K => ?_⟩
    · rw [e]
      refine hI.cng ?_ (fun j y1 y2 y3 => by rw [u2]; exact (sI_o y1).trans (sI_o y3)) (fun j y => u3 j (by omega)) ⟨c, by omega, sI_same _ _ _, by rw [u2]; exact sI_same _ _ _, fun p hp => ?_⟩ ?_
      · exact (hm.copy).cong (fun k hk => (u4 k).trans (if_pos ⟨Nat.zero_le _, hk⟩))
      · rw [u3 3 (by decide)]
        exact hH p (by omega)
      · have hs := hI.2.2.2.1
        unfold SnapI at hs ⊢
        rw [u3 4 (by decide), u2]
        exact hs
    · exact l_case10 hi hn hc (by omega) (k_f_undo_ok S X R T P TU q G TN c hc1 (by omega)) (by omega) (k_m_undo (c + 1) M hc5 c8) (by rw [e]; exact u1.symm) K
theorem l_step11 (hI : Inv n0 S X R T P TU q G TN M) (hi : i + 6 ≤ n) (hn : n ≤ 3072) (hd : 30 ≤ d) (hc : f i &&& 63 = 11) : lStp d i n f S X R T P TU q G TN fl fd M := by
  obtain ⟨c, c8, hc1, hc5, hH⟩ := hI.2.2.1
  refine ⟨S, X, R, T, P, TU, q, G, TN, fl, fd, (g_m_undoCount M).2, ⟨n0, hI.q (qF_15 0 hI.2.1)⟩, fun mc ms r h' K => ?_⟩
  exact l_case11 hi hn hc (by omega) (k_f_undoCount S X R T P TU q G TN) (by omega) (k_m_undoCount M) (hc1.trans hc5.symm) K
theorem l_step12 (hI : Inv n0 S X R T P TU q G TN M) (hi : i + 6 ≤ n) (hn : n ≤ 3072) (hd : 30 ≤ d) (hc : f i &&& 63 = 12) : lStp d i n f S X R T P TU q G TN fl fd M := by
  have hR := hI.1
  obtain ⟨c, c8, hc1, hc5, hH⟩ := hI.2.2.1
  obtain ⟨u1, u2, u3, u4⟩ := sav_L 300 0 (sI 6 (1) (sI 15 (0) M)) (by decide)
  have e : g_m_saveSnapshot M = g_m_saveSnapshot_L 300 0 (sI 6 (1) (sI 15 (0) M)) := rfl
  refine ⟨sI 0 1 S, X, R, T, P, TU, q, G, tCopy T TN, fl, fd, (g_m_saveSnapshot M).2, ⟨n0, ?_⟩, fun mc ms r h' K => ?_⟩
  · rw [e]
    refine hI.cng ?_ (fun j y1 y2 y3 => by rw [u2]; exact (sI_o y2).trans (sI_o y3)) (fun j y => u3 j (by omega)) ⟨c, c8, (sI_o (by decide)).trans hc1, by rw [u2]; exact ((sI_o (by decide)).trans (sI_o (by decide))).trans hc5, by rw [u3 3 (by decide)]; exact hH⟩ (Or.inr ⟨sI_same _ _ _, by rw [u2]; exact sI_same _ _ _, n0, ?_⟩)
    · rw [u3 0 (by decide)]; exact hR
    · exact (hR.copy).cong (fun k hk => (u4 k).trans (if_pos ⟨Nat.zero_le _, hk⟩))
  · exact l_case12 hi hn hc (by omega) (k_f_saveSnapshot S X R T P TU q G TN) (by omega) (k_m_saveSnapshot M) (by rw [e, u1]; exact hR.1.2.1.trans hR.1.2.2.symm) K
theorem l_step14 (hI : Inv n0 S X R T P TU q G TN M) (hi : i + 6 ≤ n) (hn : n ≤ 3072) (hd : 30 ≤ d) (hc : f i &&& 63 = 14) : lStp d i n f S X R T P TU q G TN fl fd M := by
  obtain ⟨e1, -⟩ := hI.2.2.2.2.2.1
  refine ⟨S, X, R, T, P, TU, q, G, TN, fl, fd, (g_m_scriptErrorKind M).2, ⟨n0, hI.q (qF_15 0 hI.2.1)⟩, fun mc ms r h' K => ?_⟩
  exact l_case14 hi hn hc (by omega) (k_f_scriptErrorKind S X R T P TU q G TN) (by omega) (k_m_scriptErrorKind M) e1 K
theorem l_step15 (hI : Inv n0 S X R T P TU q G TN M) (hi : i + 6 ≤ n) (hn : n ≤ 3072) (hd : 30 ≤ d) (hc : f i &&& 63 = 15) : lStp d i n f S X R T P TU q G TN fl fd M := by
  obtain ⟨e1, ec, eq, e2, e3, e4, e5, e6⟩ := hI.2.2.2.2.2.1
  refine ⟨S, X, R, T, P, TU, q, G, TN, fl, fd, (g_m_scriptErrorOffset M).2, ⟨n0, hI.q (qF_15 0 hI.2.1)⟩, fun mc ms r h' K => ?_⟩
  exact l_case15 hi hn hc (by omega) (k_f_scriptErrorOffset S X R T P TU q G TN ec eq e2 e3 e4 e5) (by omega) (k_m_scriptErrorOffset M) e6 K
theorem l_step13 (hno : S.1 0 = 0 → zMW (n, f) yL_restoreSnapshot cL_restoreSnapshot 3 (some .int) 10 1 6 [.ref 0, .ref 115] (WL S X R T P TU q G TN fl) (some (.int 1)) (WL S X R T P TU q G TN fl)) (hI : Inv n0 S X R T P TU q G TN M) (hi : i + 6 ≤ n) (hn : n ≤ 3072) (hd : 30 ≤ d) (hc : f i &&& 63 = 13) : lStp d i n f S X R T P TU q G TN fl fd M := by
  rcases hI.2.2.2.1 with ⟨s1, s2⟩ | ⟨s1, s2, m, hm⟩
  · refine ⟨S, X, R, T, P, TU, q, G, TN, fl, fd, (g_m_restoreSnapshot_x1 M).2, ⟨n0, hI.q (qF_15 1 hI.2.1)⟩, fun mc ms r h' K => ?_⟩
    exact l_case13 hi hn hc (k := 1) (b := (g_m_restoreSnapshot_x1 M).1) (d2 := 10) (mc2 := 1) (ms2 := 6) (d3 := 1) (by omega) (by decide) (by decide) (hno s1) (by omega) (k_m_restoreSnapshot_x1 M s2) (sI_same _ _ _) (fun e => absurd e (by decide)) K
  · obtain ⟨u1, u2, u3, u4⟩ := res_L 300 0 (sI 15 (0) M) (by decide)
    have e : g_m_restoreSnapshot M = g_m_restoreSnapshot_L 300 0 (sI 15 (0) M) := rfl
    refine ⟨sI 1 0 S, X, R, tCopy TN T, P, TU, q, G, TN, vp_updL fl 0 ((tn TN).toInt64), fd, (g_m_restoreSnapshot M).2, ⟨m, ?_⟩, fun mc ms r h' K => ?_⟩
    · rw [e]
      refine hI.cng ?_ (fun j y1 y2 y3 => by rw [u2, upd_at, if_neg y1]; exact sI_o y3) (fun j y => u3 j (by omega)) ⟨0, by decide, sI_same _ _ _, by rw [u2]; rfl, fun p hp => absurd hp (Nat.not_lt_zero _)⟩ (Or.inr ⟨(sI_o (by decide)).trans s1, ?_, m, ?_⟩)
      · exact (hm.copy).cong (fun k hk => (u4 k).trans (if_pos ⟨Nat.zero_le _, hk⟩))
      · rw [u2, upd_at, if_neg (by decide)]; exact (sI_o (by decide)).trans s2
      · rw [u3 4 (by decide)]; exact hm
    · exact l_case13 hi hn hc (k := 0) (b := (g_m_restoreSnapshot M).1) (d2 := 3) (mc2 := 0) (ms2 := 0) (d3 := 1) (by omega) (by decide) (by decide) (k_L_restoreSnapshot S X R T P TU q G TN s1 fl) (by omega) (k_m_restoreSnapshot M s2) (by rw [e, u2, upd_at, if_neg (by decide)]; exact sI_same _ _ _) (fun _ => (if_pos rfl).trans (congrArg Int32.toInt64 (by rw [e, u1 (Or.inr (by decide)), if_pos rfl]; exact hm.1.2.1.trans hm.1.2.2.symm))) K
end STEP
