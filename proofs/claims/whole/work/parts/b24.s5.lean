variable {sc : SC}

section STEP
variable {d i : Nat} {S X R : ZS} {T : TS} {P : ZS} {TU : TS} {q : Nat} {G : Nat → TS} {TN : TS} {fl : Nat → Int64} {fd : Nat → UInt64} {n : Nat} {f : Nat → Int32} {M : ZS} {n0 : Nat}
theorem l_step4 (hI : Inv n0 S X R T P TU q G TN M) (hi : i + 6 ≤ n) (hn : n ≤ 3072) (hd : 30 ≤ d) (hc : f i &&& 63 = 4) : lStp d i n f S X R T P TU q G TN fl fd M := by
  have hR := hI.1
  have hF := hI.2.1
  have h1 := hR.1.1.1
  have h40 := hR.1.1.2
  have hn0 := hR.1.2.1
  have hO := rel_ok hR hF
  obtain ⟨c, c8, hc1, hc5, hH⟩ := hI.2.2.1
  rcases idx2 hR (f (i + 1)) (f (i + 2)) with ⟨a, b, ea, eb, hab, hb, hm⟩ | ⟨⟨t1, t2, t3⟩, hm⟩ | ⟨t1, hm⟩
  · by_cases hv : -9999 ≤ f (i + 3) ∧ f (i + 3) ≤ 9999
    · have hv2 : g_m_isValue (f (i + 3)) = true := (isVal _).trans (decide_eq_true hv)
      have eg : (g_m_grows n0 M).2 0 = M.2 0 := (mEq_grows (n := n0) M h1 h40).2 0 (by decide) (by decide) (by decide)
      have hft := w_fits hR hab hb hv M (mGr_of h1 h40 hO) (fun j hj => by rw [valG_el h40 hj, eg]; exact (hR.2.2.2.2.2 j hj).symm)
      by_cases hcan : tCan T a b (f (i + 3))
      · have hq : q0 M (sI 15 0 (g_m_grows n0 M)) := q0_s (qF_gr (qF_rfl hF) h1 h40)
        obtain ⟨g1, g2⟩ := fnd hI hq
        obtain ⟨u1, u2, u3⟩ := Rel_update (A := 1) (B := f (i + 3)) g1 hb hab (Or.inr (Or.inr rfl)) (fun j y1 y2 => by rw [← g1.2.2.2.2.2 j (by omega)]; exact can_el (fun j hj => el_bd hR hj) hv hab hb hcan.1 hcan.2 j y1 y2)
        obtain ⟨r1, r2, r3⟩ := chg (x := (g_m_updates n0 a b 1 (f (i + 3)) (g_m_begins (sI 15 0 (g_m_grows n0 M)))).1) hI hc1 c8 hc5 hH hq (upd_keep h1 h40 g2).1 u1
        refine ⟨remS c S, X, R, _, P, TU, remR c q, remG c q G T, TN, vp_updL fl 0 ((nI (tUpdate T (nI a) (nI b) 1 (f (i + 3))).2).toInt64), fd, (g_m_add n0 c a b (f (i + 3)) M).2, ⟨n0, r3⟩, fun mc ms r h' K => ?_⟩
        exact l_case4 hi hn hc (k := 0) (b := (g_m_add n0 c a b (f (i + 3)) M).1) (d2 := 4) (mc2 := 0) (ms2 := 0) (d3 := 12) (by omega) (by decide) (by decide) (by rw [ea, eb]; exact k_L_add S X R T P TU q G TN c hc1 c8 n0 a b hn0 h40 hab hb (f (i + 3)) hv hcan fl) (by omega) (by rw [ea, eb]; exact k_m_add n0 c a b (f (i + 3)) M h1 h40 hab hb hO hv2 hc5 c8 (hft.trans (decide_eq_true hcan))) r2 (fun _ => (if_pos rfl).trans (congrArg Int32.toInt64 (u2.trans r1.symm))) K
      · -- an element would be out of range
        have e9 : (g_m_add_x4 n0 a b (f (i + 3)) M).2 = sI 15 3 (g_m_grows n0 M) := by first | rfl | (rw [g_m_add_x4]; repeat' split) <;> rfl
        refine ⟨S, X, R, T, P, TU, q, G, TN, fl, fd, (g_m_add_x4 n0 a b (f (i + 3)) M).2, ⟨n0, hI.q (by rw [e9]; exact qF_s 3 (qF_gr (qF_rfl hF) h1 h40))⟩, fun mc ms r h' K => ?_⟩
        exact l_case4 hi hn hc (k := 3) (b := (g_m_add_x4 n0 a b (f (i + 3)) M).1) (d2 := 9) (mc2 := 1) (ms2 := 6) (d3 := 4) (by omega) (by decide) (by decide) (by rw [ea, eb]; exact k_L_add_x4 n0 a b (f (i + 3)) S X R T hn0 h40 hab hb hv hcan P TU q G TN fl) (by omega) (by rw [ea, eb]; exact k_m_add_x4 n0 a b (f (i + 3)) M h1 h40 hab hb hO hv2 (hft.trans (decide_eq_false hcan))) (by rw [e9]; exact sI_same _ _ _) (fun e => absurd e (by decide)) K
    · have hv2 : g_m_isValue (f (i + 3)) = false := (isVal _).trans (decide_eq_false hv)
      have nz : ¬ f (i + 2) < f (i + 1) := by rw [ea, eb, nI_ltI (by omega) (by omega)]; omega
      have e9 : (g_m_add_x3 (f (i + 1)) (f (i + 2)) (f (i + 3)) M).2 = sI 15 2 M := by first | rfl | (rw [g_m_add_x3]; repeat' split) <;> rfl
      refine ⟨S, X, R, T, P, TU, q, G, TN, fl, fd, (g_m_add_x3 (f (i + 1)) (f (i + 2)) (f (i + 3)) M).2, ⟨n0, hI.q (by rw [e9]; exact qF_15 2 hF)⟩, fun mc ms r h' K => ?_⟩
      exact l_case4 hi hn hc (k := 2) (b := (g_m_add_x3 (f (i + 1)) (f (i + 2)) (f (i + 3)) M).1) (d2 := 10) (mc2 := 1) (ms2 := 6) (d3 := 3) (by omega) (by decide) (by decide) (by rw [ea, eb]; exact k_L_add_x3 n0 a b (f (i + 3)) S X R T hn0 h40 hab hb hv P TU q G TN fl) (by omega) (k_m_add_x3 (f (i + 1)) (f (i + 2)) (f (i + 3)) M hm nz hv2) (by rw [e9]; exact sI_same _ _ _) (fun e => absurd e (by decide)) K
  · -- it ends before it begins
    have e9 : (g_m_add_x2 (f (i + 1)) (f (i + 2)) (f (i + 3)) M).2 = sI 15 2 M := by first | rfl | (rw [g_m_add_x2]; repeat' split) <;> rfl
    refine ⟨S, X, R, T, P, TU, q, G, TN, fl, fd, (g_m_add_x2 (f (i + 1)) (f (i + 2)) (f (i + 3)) M).2, ⟨n0, hI.q (by rw [e9]; exact qF_15 2 hF)⟩, fun mc ms r h' K => ?_⟩
    exact l_case4 hi hn hc (k := 2) (b := (g_m_add_x2 (f (i + 1)) (f (i + 2)) (f (i + 3)) M).1) (d2 := 11) (mc2 := 1) (ms2 := 6) (d3 := 3) (by omega) (by decide) (by decide) (k_L_add_x2 n0 (f (i + 1)) (f (i + 2)) (f (i + 3)) S X R T hn0 h40 t1 t2 t3 P TU q G TN fl) (by omega) (k_m_add_x2 (f (i + 1)) (f (i + 2)) (f (i + 3)) M hm t3) (by rw [e9]; exact sI_same _ _ _) (fun e => absurd e (by decide)) K
  · -- no index
    have e9 : (g_m_add_x1 (f (i + 1)) (f (i + 2)) (f (i + 3)) M).2 = sI 15 1 M := by first | rfl | (rw [g_m_add_x1]; repeat' split) <;> rfl
    refine ⟨S, X, R, T, P, TU, q, G, TN, fl, fd, (g_m_add_x1 (f (i + 1)) (f (i + 2)) (f (i + 3)) M).2, ⟨n0, hI.q (by rw [e9]; exact qF_15 1 hF)⟩, fun mc ms r h' K => ?_⟩
    exact l_case4 hi hn hc (k := 1) (b := (g_m_add_x1 (f (i + 1)) (f (i + 2)) (f (i + 3)) M).1) (d2 := 11) (mc2 := 1) (ms2 := 6) (d3 := 3) (by omega) (by decide) (by decide) (k_L_add_x1 n0 (f (i + 1)) (f (i + 2)) (f (i + 3)) S X R T hn0 h40 t1 P TU q G TN fl) (by omega) (k_m_add_x1 (f (i + 1)) (f (i + 2)) (f (i + 3)) M hm) (by rw [e9]; exact sI_same _ _ _) (fun e => absurd e (by decide)) K
theorem l_step5 (hI : Inv n0 S X R T P TU q G TN M) (hi : i + 6 ≤ n) (hn : n ≤ 3072) (hd : 30 ≤ d) (hc : f i &&& 63 = 5) : lStp d i n f S X R T P TU q G TN fl fd M := by
  have hR := hI.1
  have hF := hI.2.1
  have h1 := hR.1.1.1
  have h40 := hR.1.1.2
  have hn0 := hR.1.2.1
  have hO := rel_ok hR hF
  obtain ⟨c, c8, hc1, hc5, hH⟩ := hI.2.2.1
  rcases idx2 hR (f (i + 1)) (f (i + 2)) with ⟨a, b, ea, eb, hab, hb, -⟩ | ⟨⟨t1, t2, t3⟩, hm⟩ | ⟨t1, hm⟩
  · obtain ⟨g1, g2⟩ := fnd hI (q0_15 hF)
    have g9 := (g1.2.2.2.1 1 (by decide) (by decide) (by rw [gp_1]; exact h1)).2.2.1
    rw [gp_1] at g9
    obtain ⟨u1, u2, u3⟩ := Rel_update (A := -1) (B := 0) g1 hb hab (Or.inl rfl) (fun j _ y => bd_neg (g9 j (Nat.zero_le _) (by show j < n0; omega)))
    obtain ⟨r1, r2, r3⟩ := chg (x := (g_m_updates n0 a b (-1) 0 (g_m_begins (sI 15 0 M))).1) hI hc1 c8 hc5 hH (q0_15 hF) (upd_keep h1 h40 g2).1 u1
    refine ⟨remS c S, X, R, _, P, TU, remR c q, remG c q G T, TN, vp_updL fl 0 ((nI (tUpdate T (nI a) (nI b) (-1) 0).2).toInt64), fd, (g_m_negate n0 c a b M).2, ⟨n0, r3⟩, fun mc ms r h' K => ?_⟩
    exact l_case5 hi hn hc (k := 0) (b := (g_m_negate n0 c a b M).1) (d2 := 4) (mc2 := 0) (ms2 := 0) (d3 := 12) (by omega) (by decide) (by decide) (by rw [ea, eb]; exact k_L_negate S X R T P TU q G TN c hc1 c8 n0 a b hn0 h40 hab hb fl) (by omega) (by rw [ea, eb]; exact k_m_negate n0 c a b M h1 h40 hab hb hO hc5 c8) r2 (fun _ => (if_pos rfl).trans (congrArg Int32.toInt64 (u2.trans r1.symm))) K
  · -- it ends before it begins
    have e9 : (g_m_negate_x2 (f (i + 1)) (f (i + 2)) M).2 = sI 15 2 M := by first | rfl | (rw [g_m_negate_x2]; repeat' split) <;> rfl
    refine ⟨S, X, R, T, P, TU, q, G, TN, fl, fd, (g_m_negate_x2 (f (i + 1)) (f (i + 2)) M).2, ⟨n0, hI.q (by rw [e9]; exact qF_15 2 hF)⟩, fun mc ms r h' K => ?_⟩
    exact l_case5 hi hn hc (k := 2) (b := (g_m_negate_x2 (f (i + 1)) (f (i + 2)) M).1) (d2 := 11) (mc2 := 1) (ms2 := 6) (d3 := 4) (by omega) (by decide) (by decide) (k_L_negate_x2 n0 (f (i + 1)) (f (i + 2)) S X R T hn0 h40 t1 t2 t3 P TU q G TN fl) (by omega) (k_m_negate_x2 (f (i + 1)) (f (i + 2)) M hm t3) (by rw [e9]; exact sI_same _ _ _) (fun e => absurd e (by decide)) K
  · -- no index
    have e9 : (g_m_negate_x1 (f (i + 1)) (f (i + 2)) M).2 = sI 15 1 M := by first | rfl | (rw [g_m_negate_x1]; repeat' split) <;> rfl
    refine ⟨S, X, R, T, P, TU, q, G, TN, fl, fd, (g_m_negate_x1 (f (i + 1)) (f (i + 2)) M).2, ⟨n0, hI.q (by rw [e9]; exact qF_15 1 hF)⟩, fun mc ms r h' K => ?_⟩
    exact l_case5 hi hn hc (k := 1) (b := (g_m_negate_x1 (f (i + 1)) (f (i + 2)) M).1) (d2 := 11) (mc2 := 1) (ms2 := 6) (d3 := 4) (by omega) (by decide) (by decide) (k_L_negate_x1 n0 (f (i + 1)) (f (i + 2)) S X R T hn0 h40 t1 P TU q G TN fl) (by omega) (k_m_negate_x1 (f (i + 1)) (f (i + 2)) M hm) (by rw [e9]; exact sI_same _ _ _) (fun e => absurd e (by decide)) K
theorem l_step7 (hI : Inv n0 S X R T P TU q G TN M) (hi : i + 6 ≤ n) (hn : n ≤ 3072) (hd : 30 ≤ d) (hc : f i &&& 63 = 7) : lStp d i n f S X R T P TU q G TN fl fd M := by
  have hR := hI.1
  have hF := hI.2.1
  have h1 := hR.1.1.1
  have h40 := hR.1.1.2
  have hn0 := hR.1.2.1
  have hO := rel_ok hR hF
  obtain ⟨c, c8, hc1, hc5, hH⟩ := hI.2.2.1
  obtain ⟨g1, g2⟩ := fnd hI (q0_15 hF)
  obtain ⟨u1, u2⟩ := Rel_pushEach g1
  obtain ⟨r1, r2, r3⟩ := chg (x := nI (g_m_allPushes n0 (g_m_begins (sI 15 0 M))).1) hI hc1 c8 hc5 hH (q0_15 hF) (all_keep h1 h40 g2).1 u1
  refine ⟨remS c S, X, R, _, P, TU, remR c q, remG c q G T, TN, fl, fd, (g_m_pushAll n0 c M).2, ⟨n0, r3⟩, fun mc ms r h' K => ?_⟩
  exact l_case7 hi hn hc (a := nI (tPushEach T).2) (b := (g_m_pushAll n0 c M).1) (d2 := 3) (d3 := 4) (by omega) (k_f_pushAll S X R T P TU q G TN c hc1 c8) (by omega) (k_m_pushAll n0 c M h1 h40 hO hc5 c8) ((congrArg nI u2).trans r1.symm) K
theorem l_step8 (hI : Inv n0 S X R T P TU q G TN M) (hi : i + 6 ≤ n) (hn : n ≤ 3072) (hd : 30 ≤ d) (hc : f i &&& 63 = 8) : lStp d i n f S X R T P TU q G TN fl fd M := by
  have hR := hI.1
  have hF := hI.2.1
  have h1 := hR.1.1.1
  have h40 := hR.1.1.2
  have hn0 := hR.1.2.1
  have hO := rel_ok hR hF
  obtain ⟨c, c8, hc1, hc5, hH⟩ := hI.2.2.1
  by_cases hv : -9999 ≤ f (i + 1) ∧ f (i + 1) ≤ 9999
  · have hv2 : g_m_isValue (f (i + 1)) = true := (isVal _).trans (decide_eq_true hv)
    by_cases h39 : n0 < 40
    · obtain ⟨g1, g2⟩ := fnd hI (q0_15 hF)
      have u1 := Rel_append (v := f (i + 1)) g1 g2 h39 (bd_val hv)
      obtain ⟨r1, r2, r3⟩ := chg (x := nI (g_m_appends n0 (f (i + 1)) (g_m_begins (sI 15 0 M))).1) hI hc1 c8 hc5 hH (q0_15 hF) (app_keep h1 h39 g2).1 u1
      refine ⟨remS c S, X, R, _, P, TU, remR c q, remG c q G T, TN, vp_updL fl 0 ((nI (n0 + 1)).toInt64), fd, (g_m_appendElement n0 c (f (i + 1)) M).2, ⟨n0 + 1, r3⟩, fun mc ms r h' K => ?_⟩
      exact l_case8 hi hn hc (k := 0) (b := (g_m_appendElement n0 c (f (i + 1)) M).1) (d2 := 5) (mc2 := 0) (ms2 := 0) (d3 := 4) (by omega) (by decide) (by decide) (k_L_appendElement S X R T P TU q G TN c hc1 c8 n0 hn0 h39 (f (i + 1)) hv fl) (by omega) (k_m_appendElement n0 c (f (i + 1)) M h1 h40 hO hv2 hc5 c8 h39) r2 (fun _ => (if_pos rfl).trans (congrArg Int32.toInt64 r1.symm)) K
    · have hw : M.2 0 0 = nI 40 := by rw [hR.1.2.2]; congr 1; omega
      have e9 : (g_m_appendElement_x2 (f (i + 1)) M).2 = sI 15 2 M := by first | rfl | (rw [g_m_appendElement_x2]; repeat' split) <;> rfl
      refine ⟨S, X, R, T, P, TU, q, G, TN, fl, fd, (g_m_appendElement_x2 (f (i + 1)) M).2, ⟨n0, hI.q (by rw [e9]; exact qF_15 2 hF)⟩, fun mc ms r h' K => ?_⟩
      exact l_case8 hi hn hc (k := 2) (b := (g_m_appendElement_x2 (f (i + 1)) M).1) (d2 := 9) (mc2 := 1) (ms2 := 6) (d3 := 2) (by omega) (by decide) (by decide) (k_L_appendElement_x2 n0 (f (i + 1)) S X R T hn0 h40 hv (by omega) P TU q G TN fl) (by omega) (k_m_appendElement_x2 (f (i + 1)) M hv2 hw) (by rw [e9]; exact sI_same _ _ _) (fun e => absurd e (by decide)) K
  · have hv2 : g_m_isValue (f (i + 1)) = false := (isVal _).trans (decide_eq_false hv)
    have e9 : (g_m_appendElement_x1 (f (i + 1)) M).2 = sI 15 1 M := by first | rfl | (rw [g_m_appendElement_x1]; repeat' split) <;> rfl
    refine ⟨S, X, R, T, P, TU, q, G, TN, fl, fd, (g_m_appendElement_x1 (f (i + 1)) M).2, ⟨n0, hI.q (by rw [e9]; exact qF_15 1 hF)⟩, fun mc ms r h' K => ?_⟩
    exact l_case8 hi hn hc (k := 1) (b := (g_m_appendElement_x1 (f (i + 1)) M).1) (d2 := 10) (mc2 := 1) (ms2 := 6) (d3 := 2) (by omega) (by decide) (by decide) (k_L_appendElement_x1 (f (i + 1)) S X R T hv P TU q G TN fl) (by omega) (k_m_appendElement_x1 (f (i + 1)) M hv2) (by rw [e9]; exact sI_same _ _ _) (fun e => absurd e (by decide)) K
theorem l_step9 (hI : Inv n0 S X R T P TU q G TN M) (hi : i + 6 ≤ n) (hn : n ≤ 3072) (hd : 30 ≤ d) (hc : f i &&& 63 = 9) : lStp d i n f S X R T P TU q G TN fl fd M := by
  have hR := hI.1
  have hF := hI.2.1
  have h1 := hR.1.1.1
  have h40 := hR.1.1.2
  have hn0 := hR.1.2.1
  have hO := rel_ok hR hF
  obtain ⟨c, c8, hc1, hc5, hH⟩ := hI.2.2.1
  by_cases h2 : 2 ≤ n0
  · obtain ⟨n1, rfl⟩ : ∃ n1, n0 = n1 + 1 := ⟨n0 - 1, by omega⟩
    obtain ⟨g1, g2⟩ := fnd hI (q0_15 hF)
    obtain ⟨u1, u2⟩ := Rel_remove g1 g2 (by omega)
    obtain ⟨r1, r2, r3⟩ := chg (x := (g_m_removes (n1 + 1) (g_m_begins (sI 15 0 M))).1) hI hc1 c8 hc5 hH (q0_15 hF) (rem_keep h2 h40 g2).1 u1
    refine ⟨remS c S, X, R, _, P, TU, remR c q, remG c q G T, TN, vp_updL fl 0 ((tva T n1).toInt64), fd, (g_m_removeLast (n1 + 1) c M).2, ⟨n1, r3⟩, fun mc ms r h' K => ?_⟩
    exact l_case9 hi hn hc (k := 0) (b := (g_m_removeLast (n1 + 1) c M).1) (d2 := 5) (mc2 := 0) (ms2 := 0) (d3 := 4) (by omega) (by decide) (by decide) (k_L_removeLast S X R T P TU q G TN c hc1 c8 n1 hn0 (by omega) (by omega) fl) (by omega) (k_m_removeLast (n1 + 1) c M h1 h40 hO hc5 c8 h2) r2 (fun _ => (if_pos rfl).trans (congrArg Int32.toInt64 (u2.symm.trans r1.symm))) K
  · have hw : M.2 0 0 = nI 1 := by rw [hR.1.2.2]; congr 1; omega
    have e9 : (g_m_removeLast_x1  M).2 = sI 15 1 M := by first | rfl | (rw [g_m_removeLast_x1]; repeat' split) <;> rfl
    refine ⟨S, X, R, T, P, TU, q, G, TN, fl, fd, (g_m_removeLast_x1  M).2, ⟨n0, hI.q (by rw [e9]; exact qF_15 1 hF)⟩, fun mc ms r h' K => ?_⟩
    exact l_case9 hi hn hc (k := 1) (b := (g_m_removeLast_x1  M).1) (d2 := 9) (mc2 := 1) (ms2 := 6) (d3 := 1) (by omega) (by decide) (by decide) (k_L_removeLast_x1 n0 S X R T hn0 h40 (by omega) P TU q G TN fl) (by omega) (k_m_removeLast_x1 M hw) (by rw [e9]; exact sI_same _ _ _) (fun e => absurd e (by decide)) K
theorem l_step6 (hI : Inv n0 S X R T P TU q G TN M) (hi : i + 6 ≤ n) (hn : n ≤ 3072) (hd : 30 ≤ d) (hc : f i &&& 63 = 6) : lStp d i n f S X R T P TU q G TN fl fd M := by
  have hR := hI.1
  have hF := hI.2.1
  have h1 := hR.1.1.1
  have h40 := hR.1.1.2
  have hn0 := hR.1.2.1
  have hO := rel_ok hR hF
  obtain ⟨c, c8, hc1, hc5, hH⟩ := hI.2.2.1
  rcases node1 hR (f (i + 1)) with ⟨k, ek, k1, k2, kx, k3⟩ | ⟨t1, ⟨k, ek, k1, k2, kx⟩ | t2⟩
  · by_cases cin : (gp n0 k).1 + 2 ≤ (gp n0 k).2
    · have hin : tIn T k := ⟨gp_near n0 k h40 k2 cin, (lay_in hR.2.2.1 h40 k1 k2).mpr cin⟩
      have hq : q0 M (sI 15 0 (g_m_grows n0 M)) := q0_s (qF_gr (qF_rfl hF) h1 h40)
      obtain ⟨g1, g2⟩ := fnd hI hq
      obtain ⟨u1, u2⟩ := Rel_push g1 k1 k2 cin
      have hu := uF_push n0 k (g_m_begins (sI 15 0 (g_m_grows n0 M)))
      have eT : tPushIf T k = if tDo T k then tPush T k else T := rfl
      obtain ⟨r1, r2, r3⟩ := chg (x := 1) hI hc1 c8 hc5 hH hq hu u1
      obtain ⟨s1, s2, s3⟩ := chg (x := 0) hI hc1 c8 hc5 hH hq hu u1
      have key : (g_m_pushDown n0 c k M).1 = decide (tDo T k) ∧ (g_m_pushDown n0 c k M).2.1 15 = 0 ∧ Inv n0 (remS c S) X R (tPushIf T k) P TU (remR c q) (remG c q G T) TN (g_m_pushDown n0 c k M).2 := by
        rw [g_m_pushDown, u2]
        by_cases d9 : tDo T k
        · rw [decide_eq_true d9, if_pos rfl, if_pos r1]
          exact ⟨rfl, r2, r3⟩
        · rw [decide_eq_false d9, if_neg (by decide), if_neg (by rw [s1]; decide)]
          exact ⟨rfl, s2, s3⟩
      obtain ⟨v1, v2, v3⟩ := key
      refine ⟨remS c S, X, R, _, P, TU, remR c q, remG c q G T, TN, vp_updL fl 0 (if (decide (tDo T k)) = true then 1 else 0), fd, (g_m_pushDown n0 c k M).2, ⟨n0, v3⟩, fun mc ms r h' K => ?_⟩
      exact l_case6 hi hn hc (k := 0) (b := (g_m_pushDown n0 c k M).1) (d2 := 4) (mc2 := 0) (ms2 := 0) (d3 := 3) (by omega) (by decide) (by decide) (by rw [ek]; exact k_L_pushDown S X R T P TU q G TN c hc1 c8 k k1 k2 k3 hin fl) (by omega) (by rw [ek]; exact k_m_pushDown n0 c k M h1 h40 k1 k2 cin hO hc5 c8) v2 (fun _ => (if_pos rfl).trans (by rw [v1])) K
    · have hni : ¬ tIn T k := fun z => cin ((lay_in hR.2.2.1 h40 k1 k2).mp z.2)
      have e9 : (g_m_pushDown_x3 n0 k M).2 = sI 15 2 (g_m_grows n0 M) := by first | rfl | (rw [g_m_pushDown_x3]; repeat' split) <;> rfl
      refine ⟨S, X, R, T, P, TU, q, G, TN, fl, fd, (g_m_pushDown_x3 n0 k M).2, ⟨n0, hI.q (by rw [e9]; exact qF_s 2 (qF_gr (qF_rfl hF) h1 h40))⟩, fun mc ms r h' K => ?_⟩
      exact l_case6 hi hn hc (k := 2) (b := (g_m_pushDown_x3 n0 k M).1) (d2 := 9) (mc2 := 1) (ms2 := 6) (d3 := 2) (by omega) (by decide) (by decide) (by rw [ek]; exact k_L_pushDown_x2 k S X R T k1 k2 k3 hni P TU q G TN fl) (by omega) (by rw [ek]; exact k_m_pushDown_x3 n0 k M h1 h40 k1 k2 (by omega) hO) (by rw [e9]; exact sI_same _ _ _) (fun e => absurd e (by decide)) K
  · -- a number without a node
    have e9 : (g_m_pushDown_x1 n0 k M).2 = sI 15 1 (g_m_grows n0 M) := by first | rfl | (rw [g_m_pushDown_x1]; repeat' split) <;> rfl
    refine ⟨S, X, R, T, P, TU, q, G, TN, fl, fd, (g_m_pushDown_x1 n0 k M).2, ⟨n0, hI.q (by rw [e9]; exact qF_s 1 (qF_gr (qF_rfl hF) h1 h40))⟩, fun mc ms r h' K => ?_⟩
    exact l_case6 hi hn hc (k := 1) (b := (g_m_pushDown_x1 n0 k M).1) (d2 := 10) (mc2 := 1) (ms2 := 6) (d3 := 2) (by omega) (by decide) (by decide) (k_L_pushDown_x1 (f (i + 1)) S X R T t1 P TU q G TN fl) (by omega) (by rw [ek]; exact k_m_pushDown_x1 n0 k M h1 h40 k1 k2 kx hO) (by rw [e9]; exact sI_same _ _ _) (fun e => absurd e (by decide)) K
  · -- no number of a node
    have e9 : (g_m_pushDown_x2 n0 (f (i + 1)) M).2 = sI 15 1 (g_m_grows n0 M) := by first | rfl | (rw [g_m_pushDown_x2]; repeat' split) <;> rfl
    refine ⟨S, X, R, T, P, TU, q, G, TN, fl, fd, (g_m_pushDown_x2 n0 (f (i + 1)) M).2, ⟨n0, hI.q (by rw [e9]; exact qF_s 1 (qF_gr (qF_rfl hF) h1 h40))⟩, fun mc ms r h' K => ?_⟩
    exact l_case6 hi hn hc (k := 1) (b := (g_m_pushDown_x2 n0 (f (i + 1)) M).1) (d2 := 10) (mc2 := 1) (ms2 := 6) (d3 := 2) (by omega) (by decide) (by decide) (k_L_pushDown_x1 (f (i + 1)) S X R T t1 P TU q G TN fl) (by omega) (k_m_pushDown_x2 n0 (f (i + 1)) M h1 h40 t2 hO) (by rw [e9]; exact sI_same _ _ _) (fun e => absurd e (by decide)) K
end STEP
