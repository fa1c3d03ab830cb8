variable {sc : SC}

section STEP
variable {d i : Nat} {S X R : ZS} {T : TS} {P : ZS} {TU : TS} {q : Nat} {G : Nat → TS} {TN : TS} {fl : Nat → Int64} {fd : Nat → UInt64} {n : Nat} {f : Nat → Int32} {M : ZS} {n0 : Nat}
theorem l_step55 (hI : Inv n0 S X R T P TU q G TN M) (hi : i + 6 ≤ n) (hn : n ≤ 3072) (hd : 30 ≤ d) (hc : f i &&& 63 = 55) : lStp d i n f S X R T P TU q G TN fl fd M := by
  have hR := hI.1
  have hF := hI.2.1
  have h1 := hR.1.1.1
  have h40 := hR.1.1.2
  have hn0 := hR.1.2.1
  have hO := rel_ok hR hF
  rcases idx2 hR (f (i + 1)) (f (i + 2)) with ⟨a, b, ea, eb, hab, hb, hm⟩ | ⟨⟨t1, t2, t3⟩, hm⟩ | ⟨t1, hm⟩
  · by_cases hv : -9999 ≤ f (i + 3) ∧ f (i + 3) ≤ 9999
    · have hv2 : g_m_isValue (f (i + 3)) = true := (isVal _).trans (decide_eq_true hv)
      refine ⟨S, X, R, T, P, TU, q, G, TN, vp_updL fl 0 (if (g_c_6_canAdd n0 a b (f (i + 3)) S X R T) = true then 1 else 0), fd, (g_m_canAdd n0 a b (f (i + 3)) M).2, ⟨n0, hI.q (qf_canAdd hF h1 h40).1⟩, fun mc ms r h' K => ?_⟩
      exact l_case55 hi hn hc (k := 0) (b := (g_m_canAdd n0 a b (f (i + 3)) M).1) (d2 := 4) (mc2 := 0) (ms2 := 0) (d3 := 4) (by omega) (by decide) (by decide) (by rw [ea, eb]; exact k_L_canAdd n0 a b (f (i + 3)) S X R T hn0 h40 hab hb hv P TU q G TN fl) (by omega) (by rw [ea, eb]; exact k_m_canAdd n0 a b (f (i + 3)) M h1 h40 hab hb hO hv2) (qf_canAdd hF h1 h40).2 (fun _ => (if_pos rfl).trans (by rw [e_canAdd hR hO hab hb hv])) K
    · have hv2 : g_m_isValue (f (i + 3)) = false := (isVal _).trans (decide_eq_false hv)
      have nz : ¬ f (i + 2) < f (i + 1) := by rw [ea, eb, nI_ltI (by omega) (by omega)]; omega
      have e9 : (g_m_canAdd_x3 (f (i + 1)) (f (i + 2)) (f (i + 3)) M).2 = sI 15 2 M := by first | rfl | (rw [g_m_canAdd_x3]; repeat' split) <;> rfl
      refine ⟨S, X, R, T, P, TU, q, G, TN, fl, fd, (g_m_canAdd_x3 (f (i + 1)) (f (i + 2)) (f (i + 3)) M).2, ⟨n0, hI.q (by rw [e9]; exact qF_15 2 hF)⟩, fun mc ms r h' K => ?_⟩
      exact l_case55 hi hn hc (k := 2) (b := (g_m_canAdd_x3 (f (i + 1)) (f (i + 2)) (f (i + 3)) M).1) (d2 := 10) (mc2 := 1) (ms2 := 6) (d3 := 3) (by omega) (by decide) (by decide) (by rw [ea, eb]; exact k_L_canAdd_x3 n0 a b (f (i + 3)) S X R T hn0 h40 hab hb hv P TU q G TN fl) (by omega) (k_m_canAdd_x3 (f (i + 1)) (f (i + 2)) (f (i + 3)) M hm nz hv2) (by rw [e9]; exact sI_same _ _ _) (fun e => absurd e (by decide)) K
  · -- it ends before it begins
    have e9 : (g_m_canAdd_x2 (f (i + 1)) (f (i + 2)) (f (i + 3)) M).2 = sI 15 2 M := by first | rfl | (rw [g_m_canAdd_x2]; repeat' split) <;> rfl
    refine ⟨S, X, R, T, P, TU, q, G, TN, fl, fd, (g_m_canAdd_x2 (f (i + 1)) (f (i + 2)) (f (i + 3)) M).2, ⟨n0, hI.q (by rw [e9]; exact qF_15 2 hF)⟩, fun mc ms r h' K => ?_⟩
    exact l_case55 hi hn hc (k := 2) (b := (g_m_canAdd_x2 (f (i + 1)) (f (i + 2)) (f (i + 3)) M).1) (d2 := 11) (mc2 := 1) (ms2 := 6) (d3 := 3) (by omega) (by decide) (by decide) (k_L_canAdd_x2 n0 (f (i + 1)) (f (i + 2)) (f (i + 3)) S X R T hn0 h40 t1 t2 t3 P TU q G TN fl) (by omega) (k_m_canAdd_x2 (f (i + 1)) (f (i + 2)) (f (i + 3)) M hm t3) (by rw [e9]; exact sI_same _ _ _) (fun e => absurd e (by decide)) K
  · -- no index
    have e9 : (g_m_canAdd_x1 (f (i + 1)) (f (i + 2)) (f (i + 3)) M).2 = sI 15 1 M := by first | rfl | (rw [g_m_canAdd_x1]; repeat' split) <;> rfl
    refine ⟨S, X, R, T, P, TU, q, G, TN, fl, fd, (g_m_canAdd_x1 (f (i + 1)) (f (i + 2)) (f (i + 3)) M).2, ⟨n0, hI.q (by rw [e9]; exact qF_15 1 hF)⟩, fun mc ms r h' K => ?_⟩
    exact l_case55 hi hn hc (k := 1) (b := (g_m_canAdd_x1 (f (i + 1)) (f (i + 2)) (f (i + 3)) M).1) (d2 := 11) (mc2 := 1) (ms2 := 6) (d3 := 3) (by omega) (by decide) (by decide) (k_L_canAdd_x1 n0 (f (i + 1)) (f (i + 2)) (f (i + 3)) S X R T hn0 h40 t1 P TU q G TN fl) (by omega) (k_m_canAdd_x1 (f (i + 1)) (f (i + 2)) (f (i + 3)) M hm) (by rw [e9]; exact sI_same _ _ _) (fun e => absurd e (by decide)) K
theorem l_step57 (hI : Inv n0 S X R T P TU q G TN M) (hi : i + 6 ≤ n) (hn : n ≤ 3072) (hd : 30 ≤ d) (hc : f i &&& 63 = 57) : lStp d i n f S X R T P TU q G TN fl fd M := by
  have hR := hI.1
  have hF := hI.2.1
  have h1 := hR.1.1.1
  have h40 := hR.1.1.2
  have hn0 := hR.1.2.1
  have hO := rel_ok hR hF
  rcases idx2 hR (f (i + 1)) (f (i + 2)) with ⟨a, b, ea, eb, hab, hb, hm⟩ | ⟨⟨t1, t2, t3⟩, hm⟩ | ⟨t1, hm⟩
  · by_cases hv : -9999 ≤ f (i + 3) ∧ f (i + 3) ≤ 9999
    · have hv2 : g_m_isValue (f (i + 3)) = true := (isVal _).trans (decide_eq_true hv)
      refine ⟨S, X, R, T, P, TU, q, G, TN, vp_updL fl 0 (g_c_6_totalIfAssigned n0 a b (f (i + 3)) S X R T), fd, (g_m_totalIfAssigned n0 a b (f (i + 3)) M).2, ⟨n0, hI.q (qf_totalIfAssigned hF h1 h40).1⟩, fun mc ms r h' K => ?_⟩
      exact l_case57 hi hn hc (k := 0) (b := (g_m_totalIfAssigned n0 a b (f (i + 3)) M).1) (d2 := 4) (mc2 := 0) (ms2 := 0) (d3 := 3) (by omega) (by decide) (by decide) (by rw [ea, eb]; exact k_L_totalIfAssigned n0 a b (f (i + 3)) S X R T hn0 h40 hab hb hv P TU q G TN fl) (by omega) (by rw [ea, eb]; exact k_m_totalIfAssigned n0 a b (f (i + 3)) M h1 h40 hab hb hO hv2) (qf_totalIfAssigned hF h1 h40).2 (fun _ => (if_pos rfl).trans (e_totalIfAssigned hR hO hab hb)) K
    · have hv2 : g_m_isValue (f (i + 3)) = false := (isVal _).trans (decide_eq_false hv)
      have nz : ¬ f (i + 2) < f (i + 1) := by rw [ea, eb, nI_ltI (by omega) (by omega)]; omega
      have e9 : (g_m_totalIfAssigned_x3 (f (i + 1)) (f (i + 2)) (f (i + 3)) M).2 = sI 15 2 M := by first | rfl | (rw [g_m_totalIfAssigned_x3]; repeat' split) <;> rfl
      refine ⟨S, X, R, T, P, TU, q, G, TN, fl, fd, (g_m_totalIfAssigned_x3 (f (i + 1)) (f (i + 2)) (f (i + 3)) M).2, ⟨n0, hI.q (by rw [e9]; exact qF_15 2 hF)⟩, fun mc ms r h' K => ?_⟩
      exact l_case57 hi hn hc (k := 2) (b := (g_m_totalIfAssigned_x3 (f (i + 1)) (f (i + 2)) (f (i + 3)) M).1) (d2 := 10) (mc2 := 1) (ms2 := 6) (d3 := 3) (by omega) (by decide) (by decide) (by rw [ea, eb]; exact k_L_totalIfAssigned_x3 n0 a b (f (i + 3)) S X R T hn0 h40 hab hb hv P TU q G TN fl) (by omega) (k_m_totalIfAssigned_x3 (f (i + 1)) (f (i + 2)) (f (i + 3)) M hm nz hv2) (by rw [e9]; exact sI_same _ _ _) (fun e => absurd e (by decide)) K
  · -- it ends before it begins
    have e9 : (g_m_totalIfAssigned_x2 (f (i + 1)) (f (i + 2)) (f (i + 3)) M).2 = sI 15 2 M := by first | rfl | (rw [g_m_totalIfAssigned_x2]; repeat' split) <;> rfl
    refine ⟨S, X, R, T, P, TU, q, G, TN, fl, fd, (g_m_totalIfAssigned_x2 (f (i + 1)) (f (i + 2)) (f (i + 3)) M).2, ⟨n0, hI.q (by rw [e9]; exact qF_15 2 hF)⟩, fun mc ms r h' K => ?_⟩
    exact l_case57 hi hn hc (k := 2) (b := (g_m_totalIfAssigned_x2 (f (i + 1)) (f (i + 2)) (f (i + 3)) M).1) (d2 := 11) (mc2 := 1) (ms2 := 6) (d3 := 3) (by omega) (by decide) (by decide) (k_L_totalIfAssigned_x2 n0 (f (i + 1)) (f (i + 2)) (f (i + 3)) S X R T hn0 h40 t1 t2 t3 P TU q G TN fl) (by omega) (k_m_totalIfAssigned_x2 (f (i + 1)) (f (i + 2)) (f (i + 3)) M hm t3) (by rw [e9]; exact sI_same _ _ _) (fun e => absurd e (by decide)) K
  · -- no index
    have e9 : (g_m_totalIfAssigned_x1 (f (i + 1)) (f (i + 2)) (f (i + 3)) M).2 = sI 15 1 M := by first | rfl | (rw [g_m_totalIfAssigned_x1]; repeat' split) <;> rfl
    refine ⟨S, X, R, T, P, TU, q, G, TN, fl, fd, (g_m_totalIfAssigned_x1 (f (i + 1)) (f (i + 2)) (f (i + 3)) M).2, ⟨n0, hI.q (by rw [e9]; exact qF_15 1 hF)⟩, fun mc ms r h' K => ?_⟩
    exact l_case57 hi hn hc (k := 1) (b := (g_m_totalIfAssigned_x1 (f (i + 1)) (f (i + 2)) (f (i + 3)) M).1) (d2 := 11) (mc2 := 1) (ms2 := 6) (d3 := 3) (by omega) (by decide) (by decide) (k_L_totalIfAssigned_x1 n0 (f (i + 1)) (f (i + 2)) (f (i + 3)) S X R T hn0 h40 t1 P TU q G TN fl) (by omega) (k_m_totalIfAssigned_x1 (f (i + 1)) (f (i + 2)) (f (i + 3)) M hm) (by rw [e9]; exact sI_same _ _ _) (fun e => absurd e (by decide)) K
theorem l_step17 (hI : Inv n0 S X R T P TU q G TN M) (hi : i + 6 ≤ n) (hn : n ≤ 3072) (hd : 30 ≤ d) (hc : f i &&& 63 = 17) : lStp d i n f S X R T P TU q G TN fl fd M := by
  have hR := hI.1
  have hF := hI.2.1
  have h1 := hR.1.1.1
  have h40 := hR.1.1.2
  have hn0 := hR.1.2.1
  have hO := rel_ok hR hF
  rcases idx1 hR (f (i + 1)) with ⟨a, ea, ha⟩ | ⟨t1, hm⟩
  · -- it answers
    refine ⟨S, X, R, T, P, TU, q, G, TN, vp_updL fl 0 ((g_c_6_element n0 a S X R T).toInt64), fd, (g_m_element n0 a M).2, ⟨n0, hI.q (qf_element hF h1 h40).1⟩, fun mc ms r h' K => ?_⟩
    exact l_case17 hi hn hc (k := 0) (b := (g_m_element n0 a M).1) (d2 := 3) (mc2 := 0) (ms2 := 0) (d3 := 2) (by omega) (by decide) (by decide) (by rw [ea]; exact k_L_element n0 a S X R T hn0 h40 ha P TU q G TN fl) (by omega) (by rw [ea]; exact k_m_element n0 a M h1 h40 ha hO) (qf_element hF h1 h40).2 (fun _ => (if_pos rfl).trans (congrArg Int32.toInt64 (e_element hR hO ha))) K
  · -- no index
    have e9 : (g_m_element_x1 (f (i + 1)) M).2 = sI 15 1 M := by first | rfl | (rw [g_m_element_x1]; repeat' split) <;> rfl
    refine ⟨S, X, R, T, P, TU, q, G, TN, fl, fd, (g_m_element_x1 (f (i + 1)) M).2, ⟨n0, hI.q (by rw [e9]; exact qF_15 1 hF)⟩, fun mc ms r h' K => ?_⟩
    exact l_case17 hi hn hc (k := 1) (b := (g_m_element_x1 (f (i + 1)) M).1) (d2 := 10) (mc2 := 1) (ms2 := 6) (d3 := 2) (by omega) (by decide) (by decide) (k_L_element_x1 (f (i + 1)) S X R T t1 P TU q G TN fl) (by omega) (k_m_element_x1 (f (i + 1)) M hm) (by rw [e9]; exact sI_same _ _ _) (fun e => absurd e (by decide)) K
theorem l_step40 (hI : Inv n0 S X R T P TU q G TN M) (hi : i + 6 ≤ n) (hn : n ≤ 3072) (hd : 30 ≤ d) (hc : f i &&& 63 = 40) : lStp d i n f S X R T P TU q G TN fl fd M := by
  have hR := hI.1
  have hF := hI.2.1
  have h1 := hR.1.1.1
  have h40 := hR.1.1.2
  have hn0 := hR.1.2.1
  have hO := rel_ok hR hF
  rcases idx1 hR (f (i + 1)) with ⟨a, ea, ha⟩ | ⟨t1, hm⟩
  · -- it answers
    refine ⟨S, X, R, T, P, TU, q, G, TN, vp_updL fl 0 ((nI (g_c_6_leafOf n0 a S X R T)).toInt64), fd, (g_m_leafOf n0 a M).2, ⟨n0, hI.q (qf_leafOf hF h1 h40).1⟩, fun mc ms r h' K => ?_⟩
    exact l_case40 hi hn hc (k := 0) (b := (g_m_leafOf n0 a M).1) (d2 := 3) (mc2 := 0) (ms2 := 0) (d3 := 2) (by omega) (by decide) (by decide) (by rw [ea]; exact k_L_leafOf n0 a S X R T hn0 h40 ha P TU q G TN fl) (by omega) (by rw [ea]; exact k_m_leafOf n0 a M h1 h40 ha hO) (qf_leafOf hF h1 h40).2 (fun _ => (if_pos rfl).trans (congrArg Int32.toInt64 (e_leafOf (M := M) hR ha))) K
  · -- no index
    have hm9 : g_m_isIndex (f (i + 1)) (g_m_grows n0 M) = false := by rw [← hm, g_m_isIndex, g_m_isIndex, (mEq_grows (n := n0) M h1 h40).2 0 (by decide) (by decide) (by decide)]
    have e9 : (g_m_leafOf_x1 n0 (f (i + 1)) M).2 = sI 15 1 (g_m_grows n0 M) := by first | rfl | (rw [g_m_leafOf_x1]; repeat' split) <;> rfl
    refine ⟨S, X, R, T, P, TU, q, G, TN, fl, fd, (g_m_leafOf_x1 n0 (f (i + 1)) M).2, ⟨n0, hI.q (by rw [e9]; exact qF_s 1 (qF_gr (qF_rfl hF) h1 h40))⟩, fun mc ms r h' K => ?_⟩
    exact l_case40 hi hn hc (k := 1) (b := (g_m_leafOf_x1 n0 (f (i + 1)) M).1) (d2 := 10) (mc2 := 1) (ms2 := 6) (d3 := 2) (by omega) (by decide) (by decide) (k_L_leafOf_x1 (f (i + 1)) S X R T t1 P TU q G TN fl) (by omega) (k_m_leafOf_x1 n0 (f (i + 1)) M h1 h40 hm9 hO) (by rw [e9]; exact sI_same _ _ _) (fun e => absurd e (by decide)) K
theorem l_step50 (hI : Inv n0 S X R T P TU q G TN M) (hi : i + 6 ≤ n) (hn : n ≤ 3072) (hd : 30 ≤ d) (hc : f i &&& 63 = 50) : lStp d i n f S X R T P TU q G TN fl fd M := by
  have hR := hI.1
  have hF := hI.2.1
  have h1 := hR.1.1.1
  have h40 := hR.1.1.2
  have hn0 := hR.1.2.1
  have hO := rel_ok hR hF
  rcases idx1 hR (f (i + 1)) with ⟨a, ea, ha⟩ | ⟨t1, hm⟩
  · -- it answers
    refine ⟨S, X, R, T, P, TU, q, G, TN, vp_updL fl 0 ((g_c_6_marksAbove n0 a S X R T).toInt64), fd, (g_m_marksAbove n0 a M).2, ⟨n0, hI.q (qf_marksAbove hF h1 h40).1⟩, fun mc ms r h' K => ?_⟩
    exact l_case50 hi hn hc (k := 0) (b := (g_m_marksAbove n0 a M).1) (d2 := 3) (mc2 := 0) (ms2 := 0) (d3 := 2) (by omega) (by decide) (by decide) (by rw [ea]; exact k_L_marksAbove n0 a S X R T hn0 h40 ha P TU q G TN fl) (by omega) (by rw [ea]; exact k_m_marksAbove n0 a M h1 h40 ha hO) (qf_marksAbove hF h1 h40).2 (fun _ => (if_pos rfl).trans (congrArg Int32.toInt64 (e_marksAbove hR hO ha))) K
  · -- no index
    have hm9 : g_m_isIndex (f (i + 1)) (g_m_grows n0 M) = false := by rw [← hm, g_m_isIndex, g_m_isIndex, (mEq_grows (n := n0) M h1 h40).2 0 (by decide) (by decide) (by decide)]
    have e9 : (g_m_marksAbove_x1 n0 (f (i + 1)) M).2 = sI 15 1 (g_m_grows n0 M) := by first | rfl | (rw [g_m_marksAbove_x1]; repeat' split) <;> rfl
    refine ⟨S, X, R, T, P, TU, q, G, TN, fl, fd, (g_m_marksAbove_x1 n0 (f (i + 1)) M).2, ⟨n0, hI.q (by rw [e9]; exact qF_s 1 (qF_gr (qF_rfl hF) h1 h40))⟩, fun mc ms r h' K => ?_⟩
    exact l_case50 hi hn hc (k := 1) (b := (g_m_marksAbove_x1 n0 (f (i + 1)) M).1) (d2 := 10) (mc2 := 1) (ms2 := 6) (d3 := 2) (by omega) (by decide) (by decide) (k_L_marksAbove_x1 (f (i + 1)) S X R T t1 P TU q G TN fl) (by omega) (k_m_marksAbove_x1 n0 (f (i + 1)) M h1 h40 hm9 hO) (by rw [e9]; exact sI_same _ _ _) (fun e => absurd e (by decide)) K
theorem l_step31 (hI : Inv n0 S X R T P TU q G TN M) (hi : i + 6 ≤ n) (hn : n ≤ 3072) (hd : 30 ≤ d) (hc : f i &&& 63 = 31) : lStp d i n f S X R T P TU q G TN fl fd M := by
  have hR := hI.1
  have hF := hI.2.1
  have h1 := hR.1.1.1
  have h40 := hR.1.1.2
  have hn0 := hR.1.2.1
  have hO := rel_ok hR hF
  rcases idx1 hR (f (i + 1)) with ⟨a, ea, ha⟩ | ⟨t1, hm⟩
  · -- it answers
    refine ⟨S, X, R, T, P, TU, q, G, TN, vp_updL fl 0 ((g_c_6_firstAtLeast n0 a (f (i + 2)) S X R T).toInt64), fd, (g_m_firstAtLeast n0 a (f (i + 2)) M).2, ⟨n0, hI.q (qf_firstAtLeast hF h1 h40).1⟩, fun mc ms r h' K => ?_⟩
    exact l_case31 hi hn hc (k := 0) (b := (g_m_firstAtLeast n0 a (f (i + 2)) M).1) (d2 := 3) (mc2 := 0) (ms2 := 0) (d3 := 2) (by omega) (by decide) (by decide) (by rw [ea]; exact k_L_firstAtLeast n0 a (f (i + 2)) S X R T hn0 h40 ha P TU q G TN fl) (by omega) (by rw [ea]; exact k_m_firstAtLeast n0 a (f (i + 2)) M h1 h40 ha hO) (qf_firstAtLeast hF h1 h40).2 (fun _ => (if_pos rfl).trans (congrArg Int32.toInt64 (e_firstAtLeast hR hO ha))) K
  · -- no index
    have e9 : (g_m_firstAtLeast_x1 (f (i + 1)) (f (i + 2)) M).2 = sI 15 1 M := by first | rfl | (rw [g_m_firstAtLeast_x1]; repeat' split) <;> rfl
    refine ⟨S, X, R, T, P, TU, q, G, TN, fl, fd, (g_m_firstAtLeast_x1 (f (i + 1)) (f (i + 2)) M).2, ⟨n0, hI.q (by rw [e9]; exact qF_15 1 hF)⟩, fun mc ms r h' K => ?_⟩
    exact l_case31 hi hn hc (k := 1) (b := (g_m_firstAtLeast_x1 (f (i + 1)) (f (i + 2)) M).1) (d2 := 10) (mc2 := 1) (ms2 := 6) (d3 := 2) (by omega) (by decide) (by decide) (k_L_firstAtLeast_x1 (f (i + 1)) (f (i + 2)) S X R T t1 P TU q G TN fl) (by omega) (k_m_firstAtLeast_x1 (f (i + 1)) (f (i + 2)) M hm) (by rw [e9]; exact sI_same _ _ _) (fun e => absurd e (by decide)) K
theorem l_step32 (hI : Inv n0 S X R T P TU q G TN M) (hi : i + 6 ≤ n) (hn : n ≤ 3072) (hd : 30 ≤ d) (hc : f i &&& 63 = 32) : lStp d i n f S X R T P TU q G TN fl fd M := by
  have hR := hI.1
  have hF := hI.2.1
  have h1 := hR.1.1.1
  have h40 := hR.1.1.2
  have hn0 := hR.1.2.1
  have hO := rel_ok hR hF
  rcases idx1 hR (f (i + 1)) with ⟨a, ea, ha⟩ | ⟨t1, hm⟩
  · -- it answers
    refine ⟨S, X, R, T, P, TU, q, G, TN, vp_updL fl 0 ((g_c_6_firstBelow n0 a (f (i + 2)) S X R T).toInt64), fd, (g_m_firstBelow n0 a (f (i + 2)) M).2, ⟨n0, hI.q (qf_firstBelow hF h1 h40).1⟩, fun mc ms r h' K => ?_⟩
    exact l_case32 hi hn hc (k := 0) (b := (g_m_firstBelow n0 a (f (i + 2)) M).1) (d2 := 3) (mc2 := 0) (ms2 := 0) (d3 := 2) (by omega) (by decide) (by decide) (by rw [ea]; exact k_L_firstBelow n0 a (f (i + 2)) S X R T hn0 h40 ha P TU q G TN fl) (by omega) (by rw [ea]; exact k_m_firstBelow n0 a (f (i + 2)) M h1 h40 ha hO) (qf_firstBelow hF h1 h40).2 (fun _ => (if_pos rfl).trans (congrArg Int32.toInt64 (e_firstBelow hR hO ha))) K
  · -- no index
    have e9 : (g_m_firstBelow_x1 (f (i + 1)) (f (i + 2)) M).2 = sI 15 1 M := by first | rfl | (rw [g_m_firstBelow_x1]; repeat' split) <;> rfl
    refine ⟨S, X, R, T, P, TU, q, G, TN, fl, fd, (g_m_firstBelow_x1 (f (i + 1)) (f (i + 2)) M).2, ⟨n0, hI.q (by rw [e9]; exact qF_15 1 hF)⟩, fun mc ms r h' K => ?_⟩
    exact l_case32 hi hn hc (k := 1) (b := (g_m_firstBelow_x1 (f (i + 1)) (f (i + 2)) M).1) (d2 := 10) (mc2 := 1) (ms2 := 6) (d3 := 2) (by omega) (by decide) (by decide) (k_L_firstBelow_x1 (f (i + 1)) (f (i + 2)) S X R T t1 P TU q G TN fl) (by omega) (k_m_firstBelow_x1 (f (i + 1)) (f (i + 2)) M hm) (by rw [e9]; exact sI_same _ _ _) (fun e => absurd e (by decide)) K
theorem l_step33 (hI : Inv n0 S X R T P TU q G TN M) (hi : i + 6 ≤ n) (hn : n ≤ 3072) (hd : 30 ≤ d) (hc : f i &&& 63 = 33) : lStp d i n f S X R T P TU q G TN fl fd M := by
  have hR := hI.1
  have hF := hI.2.1
  have h1 := hR.1.1.1
  have h40 := hR.1.1.2
  have hn0 := hR.1.2.1
  have hO := rel_ok hR hF
  rcases idx1 hR (f (i + 1)) with ⟨a, ea, ha⟩ | ⟨t1, hm⟩
  · -- it answers
    refine ⟨S, X, R, T, P, TU, q, G, TN, vp_updL fl 0 ((g_c_6_lastAtLeast n0 a (f (i + 2)) S X R T).toInt64), fd, (g_m_lastAtLeast n0 a (f (i + 2)) M).2, ⟨n0, hI.q (qf_lastAtLeast hF h1 h40).1⟩, fun mc ms r h' K => ?_⟩
    exact l_case33 hi hn hc (k := 0) (b := (g_m_lastAtLeast n0 a (f (i + 2)) M).1) (d2 := 3) (mc2 := 0) (ms2 := 0) (d3 := 2) (by omega) (by decide) (by decide) (by rw [ea]; exact k_L_lastAtLeast n0 a (f (i + 2)) S X R T hn0 h40 ha P TU q G TN fl) (by omega) (by rw [ea]; exact k_m_lastAtLeast n0 a (f (i + 2)) M h1 h40 ha hO) (qf_lastAtLeast hF h1 h40).2 (fun _ => (if_pos rfl).trans (congrArg Int32.toInt64 (e_lastAtLeast hR hO ha))) K
  · -- no index
    have e9 : (g_m_lastAtLeast_x1 (f (i + 1)) (f (i + 2)) M).2 = sI 15 1 M := by first | rfl | (rw [g_m_lastAtLeast_x1]; repeat' split) <;> rfl
    refine ⟨S, X, R, T, P, TU, q, G, TN, fl, fd, (g_m_lastAtLeast_x1 (f (i + 1)) (f (i + 2)) M).2, ⟨n0, hI.q (by rw [e9]; exact qF_15 1 hF)⟩, fun mc ms r h' K => ?_⟩
    exact l_case33 hi hn hc (k := 1) (b := (g_m_lastAtLeast_x1 (f (i + 1)) (f (i + 2)) M).1) (d2 := 10) (mc2 := 1) (ms2 := 6) (d3 := 2) (by omega) (by decide) (by decide) (k_L_lastAtLeast_x1 (f (i + 1)) (f (i + 2)) S X R T t1 P TU q G TN fl) (by omega) (k_m_lastAtLeast_x1 (f (i + 1)) (f (i + 2)) M hm) (by rw [e9]; exact sI_same _ _ _) (fun e => absurd e (by decide)) K
end STEP
