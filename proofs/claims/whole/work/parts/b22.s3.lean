variable {sc : SC}

section STEP
variable {d i : Nat} {S X R : ZS} {T : TS} {P : ZS} {TU : TS} {q : Nat} {G : Nat → TS} {TN : TS} {fl : Nat → Int64} {fd : Nat → UInt64} {n : Nat} {f : Nat → Int32} {M : ZS} {n0 : Nat}
theorem l_step41 (hI : Inv n0 S X R T P TU q G TN M) (hi : i + 6 ≤ n) (hn : n ≤ 3072) (hd : 30 ≤ d) (hc : f i &&& 63 = 41) : lStp d i n f S X R T P TU q G TN fl fd M := by
  have hR := hI.1
  have hF := hI.2.1
  have h1 := hR.1.1.1
  have h40 := hR.1.1.2
  have hn0 := hR.1.2.1
  have hO := rel_ok hR hF
  rcases node1 hR (f (i + 1)) with ⟨k, ek, k1, k2, kx, k3⟩ | ⟨t1, ⟨k, ek, k1, k2, kx⟩ | t2⟩
  · -- it answers
    refine ⟨S, X, R, T, P, TU, q, G, TN, vp_updL fl 0 (if (g_c_6_isLeaf k S X R T) = true then 1 else 0), fd, (g_m_isLeaf n0 k M).2, ⟨n0, hI.q (qf_isLeaf hF h1 h40).1⟩, fun mc ms r h' K => ?_⟩
    exact l_case41 hi hn hc (k := 0) (b := (g_m_isLeaf n0 k M).1) (d2 := 3) (mc2 := 0) (ms2 := 0) (d3 := 2) (by omega) (by decide) (by decide) (by rw [ek]; exact k_L_isLeaf k S X R T k1 k2 k3 P TU q G TN fl) (by omega) (by rw [ek]; exact k_m_isLeaf n0 k M h1 h40 k1 k2 kx hO) (qf_isLeaf hF h1 h40).2 (fun _ => (if_pos rfl).trans (by rw [e_isLeaf (M := M) hR k1 k2 kx])) K
  · -- a number without a node
    have e9 : (g_m_isLeaf_x1 n0 k M).2 = sI 15 1 (g_m_grows n0 M) := by first | rfl | (rw [g_m_isLeaf_x1]; repeat' split) <;> rfl
    refine ⟨S, X, R, T, P, TU, q, G, TN, fl, fd, (g_m_isLeaf_x1 n0 k M).2, ⟨n0, hI.q (by rw [e9]; exact qF_s 1 (qF_gr (qF_rfl hF) h1 h40))⟩, fun mc ms r h' K => ?_⟩
    exact l_case41 hi hn hc (k := 1) (b := (g_m_isLeaf_x1 n0 k M).1) (d2 := 10) (mc2 := 1) (ms2 := 6) (d3 := 2) (by omega) (by decide) (by decide) (k_L_isLeaf_x1 (f (i + 1)) S X R T t1 P TU q G TN fl) (by omega) (by rw [ek]; exact k_m_isLeaf_x1 n0 k M h1 h40 k1 k2 kx hO) (by rw [e9]; exact sI_same _ _ _) (fun e => absurd e (by decide)) K
  · -- no number of a node
    have e9 : (g_m_isLeaf_x2 n0 (f (i + 1)) M).2 = sI 15 1 (g_m_grows n0 M) := by first | rfl | (rw [g_m_isLeaf_x2]; repeat' split) <;> rfl
    refine ⟨S, X, R, T, P, TU, q, G, TN, fl, fd, (g_m_isLeaf_x2 n0 (f (i + 1)) M).2, ⟨n0, hI.q (by rw [e9]; exact qF_s 1 (qF_gr (qF_rfl hF) h1 h40))⟩, fun mc ms r h' K => ?_⟩
    exact l_case41 hi hn hc (k := 1) (b := (g_m_isLeaf_x2 n0 (f (i + 1)) M).1) (d2 := 10) (mc2 := 1) (ms2 := 6) (d3 := 2) (by omega) (by decide) (by decide) (k_L_isLeaf_x1 (f (i + 1)) S X R T t1 P TU q G TN fl) (by omega) (k_m_isLeaf_x2 n0 (f (i + 1)) M h1 h40 t2 hO) (by rw [e9]; exact sI_same _ _ _) (fun e => absurd e (by decide)) K
theorem l_step42 (hI : Inv n0 S X R T P TU q G TN M) (hi : i + 6 ≤ n) (hn : n ≤ 3072) (hd : 30 ≤ d) (hc : f i &&& 63 = 42) : lStp d i n f S X R T P TU q G TN fl fd M := by
  have hR := hI.1
  have hF := hI.2.1
  have h1 := hR.1.1.1
  have h40 := hR.1.1.2
  have hn0 := hR.1.2.1
  have hO := rel_ok hR hF
  rcases node1 hR (f (i + 1)) with ⟨k, ek, k1, k2, kx, k3⟩ | ⟨t1, ⟨k, ek, k1, k2, kx⟩ | t2⟩
  · -- it answers
    refine ⟨S, X, R, T, P, TU, q, G, TN, vp_updL fl 0 ((g_c_6_firstIndex k S X R T).toInt64), fd, (g_m_firstIndex n0 k M).2, ⟨n0, hI.q (qf_firstIndex hF h1 h40).1⟩, fun mc ms r h' K => ?_⟩
    exact l_case42 hi hn hc (k := 0) (b := (g_m_firstIndex n0 k M).1) (d2 := 3) (mc2 := 0) (ms2 := 0) (d3 := 2) (by omega) (by decide) (by decide) (by rw [ek]; exact k_L_firstIndex k S X R T k1 k2 k3 P TU q G TN fl) (by omega) (by rw [ek]; exact k_m_firstIndex n0 k M h1 h40 k1 k2 kx hO) (qf_firstIndex hF h1 h40).2 (fun _ => (if_pos rfl).trans (congrArg Int32.toInt64 (e_firstIndex (M := M) hR k1 k2 kx))) K
  · -- a number without a node
    have e9 : (g_m_firstIndex_x1 n0 k M).2 = sI 15 1 (g_m_grows n0 M) := by first | rfl | (rw [g_m_firstIndex_x1]; repeat' split) <;> rfl
    refine ⟨S, X, R, T, P, TU, q, G, TN, fl, fd, (g_m_firstIndex_x1 n0 k M).2, ⟨n0, hI.q (by rw [e9]; exact qF_s 1 (qF_gr (qF_rfl hF) h1 h40))⟩, fun mc ms r h' K => ?_⟩
    exact l_case42 hi hn hc (k := 1) (b := (g_m_firstIndex_x1 n0 k M).1) (d2 := 10) (mc2 := 1) (ms2 := 6) (d3 := 2) (by omega) (by decide) (by decide) (k_L_firstIndex_x1 (f (i + 1)) S X R T t1 P TU q G TN fl) (by omega) (by rw [ek]; exact k_m_firstIndex_x1 n0 k M h1 h40 k1 k2 kx hO) (by rw [e9]; exact sI_same _ _ _) (fun e => absurd e (by decide)) K
  · -- no number of a node
    have e9 : (g_m_firstIndex_x2 n0 (f (i + 1)) M).2 = sI 15 1 (g_m_grows n0 M) := by first | rfl | (rw [g_m_firstIndex_x2]; repeat' split) <;> rfl
    refine ⟨S, X, R, T, P, TU, q, G, TN, fl, fd, (g_m_firstIndex_x2 n0 (f (i + 1)) M).2, ⟨n0, hI.q (by rw [e9]; exact qF_s 1 (qF_gr (qF_rfl hF) h1 h40))⟩, fun mc ms r h' K => ?_⟩
    exact l_case42 hi hn hc (k := 1) (b := (g_m_firstIndex_x2 n0 (f (i + 1)) M).1) (d2 := 10) (mc2 := 1) (ms2 := 6) (d3 := 2) (by omega) (by decide) (by decide) (k_L_firstIndex_x1 (f (i + 1)) S X R T t1 P TU q G TN fl) (by omega) (k_m_firstIndex_x2 n0 (f (i + 1)) M h1 h40 t2 hO) (by rw [e9]; exact sI_same _ _ _) (fun e => absurd e (by decide)) K
theorem l_step43 (hI : Inv n0 S X R T P TU q G TN M) (hi : i + 6 ≤ n) (hn : n ≤ 3072) (hd : 30 ≤ d) (hc : f i &&& 63 = 43) : lStp d i n f S X R T P TU q G TN fl fd M := by
  have hR := hI.1
  have hF := hI.2.1
  have h1 := hR.1.1.1
  have h40 := hR.1.1.2
  have hn0 := hR.1.2.1
  have hO := rel_ok hR hF
  rcases node1 hR (f (i + 1)) with ⟨k, ek, k1, k2, kx, k3⟩ | ⟨t1, ⟨k, ek, k1, k2, kx⟩ | t2⟩
  · -- it answers
    refine ⟨S, X, R, T, P, TU, q, G, TN, vp_updL fl 0 ((g_c_6_lastIndex k S X R T).toInt64), fd, (g_m_lastIndex n0 k M).2, ⟨n0, hI.q (qf_lastIndex hF h1 h40).1⟩, fun mc ms r h' K => ?_⟩
    exact l_case43 hi hn hc (k := 0) (b := (g_m_lastIndex n0 k M).1) (d2 := 3) (mc2 := 0) (ms2 := 0) (d3 := 2) (by omega) (by decide) (by decide) (by rw [ek]; exact k_L_lastIndex k S X R T k1 k2 k3 P TU q G TN fl) (by omega) (by rw [ek]; exact k_m_lastIndex n0 k M h1 h40 k1 k2 kx hO) (qf_lastIndex hF h1 h40).2 (fun _ => (if_pos rfl).trans (congrArg Int32.toInt64 (e_lastIndex (M := M) hR k1 k2 kx))) K
  · -- a number without a node
    have e9 : (g_m_lastIndex_x1 n0 k M).2 = sI 15 1 (g_m_grows n0 M) := by first | rfl | (rw [g_m_lastIndex_x1]; repeat' split) <;> rfl
    refine ⟨S, X, R, T, P, TU, q, G, TN, fl, fd, (g_m_lastIndex_x1 n0 k M).2, ⟨n0, hI.q (by rw [e9]; exact qF_s 1 (qF_gr (qF_rfl hF) h1 h40))⟩, fun mc ms r h' K => ?_⟩
    exact l_case43 hi hn hc (k := 1) (b := (g_m_lastIndex_x1 n0 k M).1) (d2 := 10) (mc2 := 1) (ms2 := 6) (d3 := 2) (by omega) (by decide) (by decide) (k_L_lastIndex_x1 (f (i + 1)) S X R T t1 P TU q G TN fl) (by omega) (by rw [ek]; exact k_m_lastIndex_x1 n0 k M h1 h40 k1 k2 kx hO) (by rw [e9]; exact sI_same _ _ _) (fun e => absurd e (by decide)) K
  · -- no number of a node
    have e9 : (g_m_lastIndex_x2 n0 (f (i + 1)) M).2 = sI 15 1 (g_m_grows n0 M) := by first | rfl | (rw [g_m_lastIndex_x2]; repeat' split) <;> rfl
    refine ⟨S, X, R, T, P, TU, q, G, TN, fl, fd, (g_m_lastIndex_x2 n0 (f (i + 1)) M).2, ⟨n0, hI.q (by rw [e9]; exact qF_s 1 (qF_gr (qF_rfl hF) h1 h40))⟩, fun mc ms r h' K => ?_⟩
    exact l_case43 hi hn hc (k := 1) (b := (g_m_lastIndex_x2 n0 (f (i + 1)) M).1) (d2 := 10) (mc2 := 1) (ms2 := 6) (d3 := 2) (by omega) (by decide) (by decide) (k_L_lastIndex_x1 (f (i + 1)) S X R T t1 P TU q G TN fl) (by omega) (k_m_lastIndex_x2 n0 (f (i + 1)) M h1 h40 t2 hO) (by rw [e9]; exact sI_same _ _ _) (fun e => absurd e (by decide)) K
theorem l_step44 (hI : Inv n0 S X R T P TU q G TN M) (hi : i + 6 ≤ n) (hn : n ≤ 3072) (hd : 30 ≤ d) (hc : f i &&& 63 = 44) : lStp d i n f S X R T P TU q G TN fl fd M := by
  have hR := hI.1
  have hF := hI.2.1
  have h1 := hR.1.1.1
  have h40 := hR.1.1.2
  have hn0 := hR.1.2.1
  have hO := rel_ok hR hF
  rcases node1 hR (f (i + 1)) with ⟨k, ek, k1, k2, kx, k3⟩ | ⟨t1, ⟨k, ek, k1, k2, kx⟩ | t2⟩
  · -- it answers
    refine ⟨S, X, R, T, P, TU, q, G, TN, vp_updL fl 0 (g_c_6_storedSum k S X R T), fd, (g_m_storedSum n0 k M).2, ⟨n0, hI.q (qf_storedSum hF h1 h40).1⟩, fun mc ms r h' K => ?_⟩
    exact l_case44 hi hn hc (k := 0) (b := (g_m_storedSum n0 k M).1) (d2 := 3) (mc2 := 0) (ms2 := 0) (d3 := 2) (by omega) (by decide) (by decide) (by rw [ek]; exact k_L_storedSum k S X R T k1 k2 k3 P TU q G TN fl) (by omega) (by rw [ek]; exact k_m_storedSum n0 k M h1 h40 k1 k2 kx hO) (qf_storedSum hF h1 h40).2 (fun _ => (if_pos rfl).trans (e_storedSum (M := M) hR k1 k2 kx)) K
  · -- a number without a node
    have e9 : (g_m_storedSum_x1 n0 k M).2 = sI 15 1 (g_m_grows n0 M) := by first | rfl | (rw [g_m_storedSum_x1]; repeat' split) <;> rfl
    refine ⟨S, X, R, T, P, TU, q, G, TN, fl, fd, (g_m_storedSum_x1 n0 k M).2, ⟨n0, hI.q (by rw [e9]; exact qF_s 1 (qF_gr (qF_rfl hF) h1 h40))⟩, fun mc ms r h' K => ?_⟩
    exact l_case44 hi hn hc (k := 1) (b := (g_m_storedSum_x1 n0 k M).1) (d2 := 10) (mc2 := 1) (ms2 := 6) (d3 := 2) (by omega) (by decide) (by decide) (k_L_storedSum_x1 (f (i + 1)) S X R T t1 P TU q G TN fl) (by omega) (by rw [ek]; exact k_m_storedSum_x1 n0 k M h1 h40 k1 k2 kx hO) (by rw [e9]; exact sI_same _ _ _) (fun e => absurd e (by decide)) K
  · -- no number of a node
    have e9 : (g_m_storedSum_x2 n0 (f (i + 1)) M).2 = sI 15 1 (g_m_grows n0 M) := by first | rfl | (rw [g_m_storedSum_x2]; repeat' split) <;> rfl
    refine ⟨S, X, R, T, P, TU, q, G, TN, fl, fd, (g_m_storedSum_x2 n0 (f (i + 1)) M).2, ⟨n0, hI.q (by rw [e9]; exact qF_s 1 (qF_gr (qF_rfl hF) h1 h40))⟩, fun mc ms r h' K => ?_⟩
    exact l_case44 hi hn hc (k := 1) (b := (g_m_storedSum_x2 n0 (f (i + 1)) M).1) (d2 := 10) (mc2 := 1) (ms2 := 6) (d3 := 2) (by omega) (by decide) (by decide) (k_L_storedSum_x1 (f (i + 1)) S X R T t1 P TU q G TN fl) (by omega) (k_m_storedSum_x2 n0 (f (i + 1)) M h1 h40 t2 hO) (by rw [e9]; exact sI_same _ _ _) (fun e => absurd e (by decide)) K
theorem l_step45 (hI : Inv n0 S X R T P TU q G TN M) (hi : i + 6 ≤ n) (hn : n ≤ 3072) (hd : 30 ≤ d) (hc : f i &&& 63 = 45) : lStp d i n f S X R T P TU q G TN fl fd M := by
  have hR := hI.1
  have hF := hI.2.1
  have h1 := hR.1.1.1
  have h40 := hR.1.1.2
  have hn0 := hR.1.2.1
  have hO := rel_ok hR hF
  rcases node1 hR (f (i + 1)) with ⟨k, ek, k1, k2, kx, k3⟩ | ⟨t1, ⟨k, ek, k1, k2, kx⟩ | t2⟩
  · -- it answers
    refine ⟨S, X, R, T, P, TU, q, G, TN, vp_updL fl 0 ((g_c_6_storedLeast k S X R T).toInt64), fd, (g_m_storedLeast n0 k M).2, ⟨n0, hI.q (qf_storedLeast hF h1 h40).1⟩, fun mc ms r h' K => ?_⟩
    exact l_case45 hi hn hc (k := 0) (b := (g_m_storedLeast n0 k M).1) (d2 := 3) (mc2 := 0) (ms2 := 0) (d3 := 3) (by omega) (by decide) (by decide) (by rw [ek]; exact k_L_storedLeast k S X R T k1 k2 k3 P TU q G TN fl) (by omega) (by rw [ek]; exact k_m_storedLeast n0 k M h1 h40 k1 k2 kx hO) (qf_storedLeast hF h1 h40).2 (fun _ => (if_pos rfl).trans (congrArg Int32.toInt64 (e_storedLeast (M := M) hR k1 k2 kx))) K
  · -- a number without a node
    have e9 : (g_m_storedLeast_x1 n0 k M).2 = sI 15 1 (g_m_grows n0 M) := by first | rfl | (rw [g_m_storedLeast_x1]; repeat' split) <;> rfl
    refine ⟨S, X, R, T, P, TU, q, G, TN, fl, fd, (g_m_storedLeast_x1 n0 k M).2, ⟨n0, hI.q (by rw [e9]; exact qF_s 1 (qF_gr (qF_rfl hF) h1 h40))⟩, fun mc ms r h' K => ?_⟩
    exact l_case45 hi hn hc (k := 1) (b := (g_m_storedLeast_x1 n0 k M).1) (d2 := 10) (mc2 := 1) (ms2 := 6) (d3 := 3) (by omega) (by decide) (by decide) (k_L_storedLeast_x1 (f (i + 1)) S X R T t1 P TU q G TN fl) (by omega) (by rw [ek]; exact k_m_storedLeast_x1 n0 k M h1 h40 k1 k2 kx hO) (by rw [e9]; exact sI_same _ _ _) (fun e => absurd e (by decide)) K
  · -- no number of a node
    have e9 : (g_m_storedLeast_x2 n0 (f (i + 1)) M).2 = sI 15 1 (g_m_grows n0 M) := by first | rfl | (rw [g_m_storedLeast_x2]; repeat' split) <;> rfl
    refine ⟨S, X, R, T, P, TU, q, G, TN, fl, fd, (g_m_storedLeast_x2 n0 (f (i + 1)) M).2, ⟨n0, hI.q (by rw [e9]; exact qF_s 1 (qF_gr (qF_rfl hF) h1 h40))⟩, fun mc ms r h' K => ?_⟩
    exact l_case45 hi hn hc (k := 1) (b := (g_m_storedLeast_x2 n0 (f (i + 1)) M).1) (d2 := 10) (mc2 := 1) (ms2 := 6) (d3 := 3) (by omega) (by decide) (by decide) (k_L_storedLeast_x1 (f (i + 1)) S X R T t1 P TU q G TN fl) (by omega) (k_m_storedLeast_x2 n0 (f (i + 1)) M h1 h40 t2 hO) (by rw [e9]; exact sI_same _ _ _) (fun e => absurd e (by decide)) K
theorem l_step46 (hI : Inv n0 S X R T P TU q G TN M) (hi : i + 6 ≤ n) (hn : n ≤ 3072) (hd : 30 ≤ d) (hc : f i &&& 63 = 46) : lStp d i n f S X R T P TU q G TN fl fd M := by
  have hR := hI.1
  have hF := hI.2.1
  have h1 := hR.1.1.1
  have h40 := hR.1.1.2
  have hn0 := hR.1.2.1
  have hO := rel_ok hR hF
  rcases node1 hR (f (i + 1)) with ⟨k, ek, k1, k2, kx, k3⟩ | ⟨t1, ⟨k, ek, k1, k2, kx⟩ | t2⟩
  · -- it answers
    refine ⟨S, X, R, T, P, TU, q, G, TN, vp_updL fl 0 ((g_c_6_storedGreatest k S X R T).toInt64), fd, (g_m_storedGreatest n0 k M).2, ⟨n0, hI.q (qf_storedGreatest hF h1 h40).1⟩, fun mc ms r h' K => ?_⟩
    exact l_case46 hi hn hc (k := 0) (b := (g_m_storedGreatest n0 k M).1) (d2 := 3) (mc2 := 0) (ms2 := 0) (d3 := 3) (by omega) (by decide) (by decide) (by rw [ek]; exact k_L_storedGreatest k S X R T k1 k2 k3 P TU q G TN fl) (by omega) (by rw [ek]; exact k_m_storedGreatest n0 k M h1 h40 k1 k2 kx hO) (qf_storedGreatest hF h1 h40).2 (fun _ => (if_pos rfl).trans (congrArg Int32.toInt64 (e_storedGreatest (M := M) hR k1 k2 kx))) K
  · -- a number without a node
    have e9 : (g_m_storedGreatest_x1 n0 k M).2 = sI 15 1 (g_m_grows n0 M) := by first | rfl | (rw [g_m_storedGreatest_x1]; repeat' split) <;> rfl
    refine ⟨S, X, R, T, P, TU, q, G, TN, fl, fd, (g_m_storedGreatest_x1 n0 k M).2, ⟨n0, hI.q (by rw [e9]; exact qF_s 1 (qF_gr (qF_rfl hF) h1 h40))⟩, fun mc ms r h' K => ?_⟩
    exact l_case46 hi hn hc (k := 1) (b := (g_m_storedGreatest_x1 n0 k M).1) (d2 := 10) (mc2 := 1) (ms2 := 6) (d3 := 3) (by omega) (by decide) (by decide) (k_L_storedGreatest_x1 (f (i + 1)) S X R T t1 P TU q G TN fl) (by omega) (by rw [ek]; exact k_m_storedGreatest_x1 n0 k M h1 h40 k1 k2 kx hO) (by rw [e9]; exact sI_same _ _ _) (fun e => absurd e (by decide)) K
  · -- no number of a node
    have e9 : (g_m_storedGreatest_x2 n0 (f (i + 1)) M).2 = sI 15 1 (g_m_grows n0 M) := by first | rfl | (rw [g_m_storedGreatest_x2]; repeat' split) <;> rfl
    refine ⟨S, X, R, T, P, TU, q, G, TN, fl, fd, (g_m_storedGreatest_x2 n0 (f (i + 1)) M).2, ⟨n0, hI.q (by rw [e9]; exact qF_s 1 (qF_gr (qF_rfl hF) h1 h40))⟩, fun mc ms r h' K => ?_⟩
    exact l_case46 hi hn hc (k := 1) (b := (g_m_storedGreatest_x2 n0 (f (i + 1)) M).1) (d2 := 10) (mc2 := 1) (ms2 := 6) (d3 := 3) (by omega) (by decide) (by decide) (k_L_storedGreatest_x1 (f (i + 1)) S X R T t1 P TU q G TN fl) (by omega) (k_m_storedGreatest_x2 n0 (f (i + 1)) M h1 h40 t2 hO) (by rw [e9]; exact sI_same _ _ _) (fun e => absurd e (by decide)) K
theorem l_step47 (hI : Inv n0 S X R T P TU q G TN M) (hi : i + 6 ≤ n) (hn : n ≤ 3072) (hd : 30 ≤ d) (hc : f i &&& 63 = 47) : lStp d i n f S X R T P TU q G TN fl fd M := by
  have hR := hI.1
  have hF := hI.2.1
  have h1 := hR.1.1.1
  have h40 := hR.1.1.2
  have hn0 := hR.1.2.1
  have hO := rel_ok hR hF
  rcases node1 hR (f (i + 1)) with ⟨k, ek, k1, k2, kx, k3⟩ | ⟨t1, ⟨k, ek, k1, k2, kx⟩ | t2⟩
  · -- it answers
    refine ⟨S, X, R, T, P, TU, q, G, TN, vp_updL fl 0 ((g_c_6_markFactor k S X R T).toInt64), fd, (g_m_markFactor n0 k M).2, ⟨n0, hI.q (qf_markFactor hF h1 h40).1⟩, fun mc ms r h' K => ?_⟩
    exact l_case47 hi hn hc (k := 0) (b := (g_m_markFactor n0 k M).1) (d2 := 3) (mc2 := 0) (ms2 := 0) (d3 := 2) (by omega) (by decide) (by decide) (by rw [ek]; exact k_L_markFactor k S X R T k1 k2 k3 P TU q G TN fl) (by omega) (by rw [ek]; exact k_m_markFactor n0 k M h1 h40 k1 k2 kx hO) (qf_markFactor hF h1 h40).2 (fun _ => (if_pos rfl).trans (congrArg Int32.toInt64 (e_markFactor (M := M) hR k1 k2 kx))) K
  · -- a number without a node
    have e9 : (g_m_markFactor_x1 n0 k M).2 = sI 15 1 (g_m_grows n0 M) := by first | rfl | (rw [g_m_markFactor_x1]; repeat' split) <;> rfl
    refine ⟨S, X, R, T, P, TU, q, G, TN, fl, fd, (g_m_markFactor_x1 n0 k M).2, ⟨n0, hI.q (by rw [e9]; exact qF_s 1 (qF_gr (qF_rfl hF) h1 h40))⟩, fun mc ms r h' K => ?_⟩
    exact l_case47 hi hn hc (k := 1) (b := (g_m_markFactor_x1 n0 k M).1) (d2 := 10) (mc2 := 1) (ms2 := 6) (d3 := 2) (by omega) (by decide) (by decide) (k_L_markFactor_x1 (f (i + 1)) S X R T t1 P TU q G TN fl) (by omega) (by rw [ek]; exact k_m_markFactor_x1 n0 k M h1 h40 k1 k2 kx hO) (by rw [e9]; exact sI_same _ _ _) (fun e => absurd e (by decide)) K
  · -- no number of a node
    have e9 : (g_m_markFactor_x2 n0 (f (i + 1)) M).2 = sI 15 1 (g_m_grows n0 M) := by first | rfl | (rw [g_m_markFactor_x2]; repeat' split) <;> rfl
    refine ⟨S, X, R, T, P, TU, q, G, TN, fl, fd, (g_m_markFactor_x2 n0 (f (i + 1)) M).2, ⟨n0, hI.q (by rw [e9]; exact qF_s 1 (qF_gr (qF_rfl hF) h1 h40))⟩, fun mc ms r h' K => ?_⟩
    exact l_case47 hi hn hc (k := 1) (b := (g_m_markFactor_x2 n0 (f (i + 1)) M).1) (d2 := 10) (mc2 := 1) (ms2 := 6) (d3 := 2) (by omega) (by decide) (by decide) (k_L_markFactor_x1 (f (i + 1)) S X R T t1 P TU q G TN fl) (by omega) (k_m_markFactor_x2 n0 (f (i + 1)) M h1 h40 t2 hO) (by rw [e9]; exact sI_same _ _ _) (fun e => absurd e (by decide)) K
theorem l_step48 (hI : Inv n0 S X R T P TU q G TN M) (hi : i + 6 ≤ n) (hn : n ≤ 3072) (hd : 30 ≤ d) (hc : f i &&& 63 = 48) : lStp d i n f S X R T P TU q G TN fl fd M := by
  have hR := hI.1
  have hF := hI.2.1
  have h1 := hR.1.1.1
  have h40 := hR.1.1.2
  have hn0 := hR.1.2.1
  have hO := rel_ok hR hF
  rcases node1 hR (f (i + 1)) with ⟨k, ek, k1, k2, kx, k3⟩ | ⟨t1, ⟨k, ek, k1, k2, kx⟩ | t2⟩
  · -- it answers
    refine ⟨S, X, R, T, P, TU, q, G, TN, vp_updL fl 0 ((g_c_6_markOffset k S X R T).toInt64), fd, (g_m_markOffset n0 k M).2, ⟨n0, hI.q (qf_markOffset hF h1 h40).1⟩, fun mc ms r h' K => ?_⟩
    exact l_case48 hi hn hc (k := 0) (b := (g_m_markOffset n0 k M).1) (d2 := 3) (mc2 := 0) (ms2 := 0) (d3 := 2) (by omega) (by decide) (by decide) (by rw [ek]; exact k_L_markOffset k S X R T k1 k2 k3 P TU q G TN fl) (by omega) (by rw [ek]; exact k_m_markOffset n0 k M h1 h40 k1 k2 kx hO) (qf_markOffset hF h1 h40).2 (fun _ => (if_pos rfl).trans (congrArg Int32.toInt64 (e_markOffset (M := M) hR k1 k2 kx))) K
  · -- a number without a node
    have e9 : (g_m_markOffset_x1 n0 k M).2 = sI 15 1 (g_m_grows n0 M) := by first | rfl | (rw [g_m_markOffset_x1]; repeat' split) <;> rfl
    refine ⟨S, X, R, T, P, TU, q, G, TN, fl, fd, (g_m_markOffset_x1 n0 k M).2, ⟨n0, hI.q (by rw [e9]; exact qF_s 1 (qF_gr (qF_rfl hF) h1 h40))⟩, fun mc ms r h' K => ?_⟩
    exact l_case48 hi hn hc (k := 1) (b := (g_m_markOffset_x1 n0 k M).1) (d2 := 10) (mc2 := 1) (ms2 := 6) (d3 := 2) (by omega) (by decide) (by decide) (k_L_markOffset_x1 (f (i + 1)) S X R T t1 P TU q G TN fl) (by omega) (by rw [ek]; exact k_m_markOffset_x1 n0 k M h1 h40 k1 k2 kx hO) (by rw [e9]; exact sI_same _ _ _) (fun e => absurd e (by decide)) K
  · -- no number of a node
    have e9 : (g_m_markOffset_x2 n0 (f (i + 1)) M).2 = sI 15 1 (g_m_grows n0 M) := by first | rfl | (rw [g_m_markOffset_x2]; repeat' split) <;> rfl
    refine ⟨S, X, R, T, P, TU, q, G, TN, fl, fd, (g_m_markOffset_x2 n0 (f (i + 1)) M).2, ⟨n0, hI.q (by rw [e9]; exact qF_s 1 (qF_gr (qF_rfl hF) h1 h40))⟩, fun mc ms r h' K => ?_⟩
    exact l_case48 hi hn hc (k := 1) (b := (g_m_markOffset_x2 n0 (f (i + 1)) M).1) (d2 := 10) (mc2 := 1) (ms2 := 6) (d3 := 2) (by omega) (by decide) (by decide) (k_L_markOffset_x1 (f (i + 1)) S X R T t1 P TU q G TN fl) (by omega) (k_m_markOffset_x2 n0 (f (i + 1)) M h1 h40 t2 hO) (by rw [e9]; exact sI_same _ _ _) (fun e => absurd e (by decide)) K
theorem l_step34 (hI : Inv n0 S X R T P TU q G TN M) (hi : i + 6 ≤ n) (hn : n ≤ 3072) (hd : 30 ≤ d) (hc : f i &&& 63 = 34) : lStp d i n f S X R T P TU q G TN fl fd M := by
  have hR := hI.1
  have hF := hI.2.1
  have h1 := hR.1.1.1
  have h40 := hR.1.1.2
  have hn0 := hR.1.2.1
  have hO := rel_ok hR hF

  refine ⟨S, X, R, T, P, TU, q, G, TN, fl, fd, (g_m_longestRun n0 (f (i + 1)) M).2, ⟨n0, hI.q ((qf_longestRun hF h1 h40).1)⟩, fun mc ms r h' K => ?_⟩
  exact l_case34 hi hn hc (a := g_c_6_longestRun n0 (f (i + 1)) S X R T) (b := (g_m_longestRun n0 (f (i + 1)) M).1) (d2 := 1) (d3 := 2) (by omega) (k_c_6_longestRun n0 (f (i + 1)) S X R T hn0 h40) (by omega) (k_m_longestRun n0 (f (i + 1)) M h1 h40 hO) (e_longestRun hR hO) K
theorem l_step35 (hI : Inv n0 S X R T P TU q G TN M) (hi : i + 6 ≤ n) (hn : n ≤ 3072) (hd : 30 ≤ d) (hc : f i &&& 63 = 35) : lStp d i n f S X R T P TU q G TN fl fd M := by
  have hR := hI.1
  have hF := hI.2.1
  have h1 := hR.1.1.1
  have h40 := hR.1.1.2
  have hn0 := hR.1.2.1
  have hO := rel_ok hR hF

  refine ⟨S, X, R, T, P, TU, q, G, TN, fl, fd, (g_m_occurrence n0 (f (i + 1)) (f (i + 2)) M).2, ⟨n0, hI.q ((qf_occurrence hF h1 h40).1)⟩, fun mc ms r h' K => ?_⟩
  exact l_case35 hi hn hc (a := g_c_6_occurrence n0 (f (i + 1)) (f (i + 2)) S X R T) (b := (g_m_occurrence n0 (f (i + 1)) (f (i + 2)) M).1) (d2 := 1) (d3 := 2) (by omega) (k_c_6_occurrence n0 (f (i + 1)) (f (i + 2)) S X R T hn0 h40) (by omega) (k_m_occurrence n0 (f (i + 1)) (f (i + 2)) M h1 h40 hO) (e_occurrence hR hO) K
theorem l_step36 (hI : Inv n0 S X R T P TU q G TN M) (hi : i + 6 ≤ n) (hn : n ≤ 3072) (hd : 30 ≤ d) (hc : f i &&& 63 = 36) : lStp d i n f S X R T P TU q G TN fl fd M := by
  have hR := hI.1
  have hF := hI.2.1
  have h1 := hR.1.1.1
  have h40 := hR.1.1.2
  have hn0 := hR.1.2.1
  have hO := rel_ok hR hF

  refine ⟨S, X, R, T, P, TU, q, G, TN, fl, fd, (g_m_prefixAtLeast n0 (lq f i) M).2, ⟨n0, hI.q ((qf_prefixAtLeast hF h1 h40).1)⟩, fun mc ms r h' K => ?_⟩
  exact l_case36 hi hn hc (a := g_c_6_prefixAtLeast n0 (lq f i) S X R T) (b := (g_m_prefixAtLeast n0 (lq f i) M).1) (d2 := 1) (d3 := 2) (by omega) (k_c_6_prefixAtLeast n0 (lq f i) S X R T hn0 h40) (by omega) (k_m_prefixAtLeast n0 (lq f i) M h1 h40 hO) (e_prefixAtLeast hR hO) K
theorem l_step38 (hI : Inv n0 S X R T P TU q G TN M) (hi : i + 6 ≤ n) (hn : n ≤ 3072) (hd : 30 ≤ d) (hc : f i &&& 63 = 38) : lStp d i n f S X R T P TU q G TN fl fd M := by
  have hR := hI.1
  have hF := hI.2.1
  have h1 := hR.1.1.1
  have h40 := hR.1.1.2
  have hn0 := hR.1.2.1
  have hO := rel_ok hR hF

  refine ⟨S, X, R, T, P, TU, q, G, TN, fl, fd, (g_m_nodeCount n0 M).2, ⟨n0, hI.q (qF_15 0 hF)⟩, fun mc ms r h' K => ?_⟩
  exact l_case38 hi hn hc (a := nI (g_c_6_nodeCount n0 S X R T)) (b := nI (g_m_nodeCount n0 M).1) (d2 := 1) (d3 := 0) (by omega) (k_c_6_nodeCount n0 S X R T hn0 h40 h1) (by omega) (k_m_nodeCount n0 M h1 h40 hO) (rfl) K
theorem l_step39 (hI : Inv n0 S X R T P TU q G TN M) (hi : i + 6 ≤ n) (hn : n ≤ 3072) (hd : 30 ≤ d) (hc : f i &&& 63 = 39) : lStp d i n f S X R T P TU q G TN fl fd M := by
  have hR := hI.1
  have hF := hI.2.1
  have h1 := hR.1.1.1
  have h40 := hR.1.1.2
  have hn0 := hR.1.2.1
  have hO := rel_ok hR hF

  refine ⟨S, X, R, T, P, TU, q, G, TN, fl, fd, (g_m_depth n0 M).2, ⟨n0, hI.q ((qf_depth hF h1 h40).1)⟩, fun mc ms r h' K => ?_⟩
  exact l_case39 hi hn hc (a := g_c_6_depth n0 S X R T) (b := (g_m_depth n0 M).1) (d2 := 2) (d3 := 1) (by omega) (k_c_6_depth n0 S X R T hn0 h40) (by omega) (k_m_depth n0 M h1 h40 hO) (e_depth hR) K
theorem l_step49 (hI : Inv n0 S X R T P TU q G TN M) (hi : i + 6 ≤ n) (hn : n ≤ 3072) (hd : 30 ≤ d) (hc : f i &&& 63 = 49) : lStp d i n f S X R T P TU q G TN fl fd M := by
  have hR := hI.1
  have hF := hI.2.1
  have h1 := hR.1.1.1
  have h40 := hR.1.1.2
  have hn0 := hR.1.2.1
  have hO := rel_ok hR hF

  refine ⟨S, X, R, T, P, TU, q, G, TN, fl, fd, (g_m_markedNodes n0 M).2, ⟨n0, hI.q ((qf_markedNodes hF h1 h40).1)⟩, fun mc ms r h' K => ?_⟩
  exact l_case49 hi hn hc (a := g_c_6_markedNodes n0 S X R T) (b := nI (g_m_markedNodes n0 M).1) (d2 := 1) (d3 := 2) (by omega) (k_c_6_markedNodes n0 S X R T hn0 h40) (by omega) (k_m_markedNodes n0 M h1 h40 hO) (e_markedNodes hR hO) K
theorem l_step61 (hI : Inv n0 S X R T P TU q G TN M) (hi : i + 6 ≤ n) (hn : n ≤ 3072) (hd : 30 ≤ d) (hc : f i &&& 63 = 61) : lStp d i n f S X R T P TU q G TN fl fd M := by
  have hR := hI.1
  have hF := hI.2.1
  have h1 := hR.1.1.1
  have h40 := hR.1.1.2
  have hn0 := hR.1.2.1
  have hO := rel_ok hR hF

  refine ⟨S, X, R, T, P, TU, q, G, TN, fl, fd, (g_m_violations n0 M).2, ⟨n0, hI.q ((qf_violations hF h1 h40).1)⟩, fun mc ms r h' K => ?_⟩
  exact l_case61 hi hn hc (a := g_c_6_violations n0 S X R T) (b := nI (g_m_violations n0 M).1) (d2 := 2) (d3 := 2) (by omega) (k_c_6_violations n0 S X R T hn0 h40) (by omega) (k_m_violations n0 M h1 h40 hO) (e_violations hR hO) K
theorem l_step16 (hI : Inv n0 S X R T P TU q G TN M) (hi : i + 6 ≤ n) (hn : n ≤ 3072) (hd : 30 ≤ d) (hc : f i &&& 63 = 16) : lStp d i n f S X R T P TU q G TN fl fd M := by
  have hR := hI.1
  have hF := hI.2.1
  have h1 := hR.1.1.1
  have h40 := hR.1.1.2
  have hn0 := hR.1.2.1
  have hO := rel_ok hR hF

  refine ⟨S, X, R, T, P, TU, q, G, TN, fl, fd, (g_m_elementCount  M).2, ⟨n0, hI.q (qF_15 0 hF)⟩, fun mc ms r h' K => ?_⟩
  exact l_case16 hi hn hc (a := g_c_6_elementCount n0 S X R T) (b := (g_m_elementCount  M).1) (d2 := 1) (d3 := 1) (by omega) (k_c_6_elementCount n0 S X R T hn0 h40) (by omega) (k_m_elementCount M) (hR.1.2.2.symm) K
theorem l_step58 (hI : Inv n0 S X R T P TU q G TN M) (hi : i + 6 ≤ n) (hn : n ≤ 3072) (hd : 30 ≤ d) (hc : f i &&& 63 = 58) : lStp d i n f S X R T P TU q G TN fl fd M := by
  have hR := hI.1
  have hF := hI.2.1
  have h1 := hR.1.1.1
  have h40 := hR.1.1.2
  have hn0 := hR.1.2.1
  have hO := rel_ok hR hF

  refine ⟨S, X, R, T, P, TU, q, G, TN, fl, fd, (g_m_updateCount  M).2, ⟨n0, hI.q (qF_15 0 hF)⟩, fun mc ms r h' K => ?_⟩
  exact l_case58 hi hn hc (a := g_c_6_updateCount n0 S X R T) (b := (g_m_updateCount  M).1) (d2 := 1) (d3 := 1) (by omega) (k_c_6_updateCount n0 S X R T hn0 h40) (by omega) (k_m_updateCount M) (hR.2.1.1) K
theorem l_step59 (hI : Inv n0 S X R T P TU q G TN M) (hi : i + 6 ≤ n) (hn : n ≤ 3072) (hd : 30 ≤ d) (hc : f i &&& 63 = 59) : lStp d i n f S X R T P TU q G TN fl fd M := by
  have hR := hI.1
  have hF := hI.2.1
  have h1 := hR.1.1.1
  have h40 := hR.1.1.2
  have hn0 := hR.1.2.1
  have hO := rel_ok hR hF

  refine ⟨S, X, R, T, P, TU, q, G, TN, fl, fd, (g_m_pushCount  M).2, ⟨n0, hI.q (qF_15 0 hF)⟩, fun mc ms r h' K => ?_⟩
  exact l_case59 hi hn hc (a := g_c_6_pushCount n0 S X R T) (b := (g_m_pushCount  M).1) (d2 := 1) (d3 := 1) (by omega) (k_c_6_pushCount n0 S X R T hn0 h40) (by omega) (k_m_pushCount M) (hR.2.1.2.1) K
theorem l_step60 (hI : Inv n0 S X R T P TU q G TN M) (hi : i + 6 ≤ n) (hn : n ≤ 3072) (hd : 30 ≤ d) (hc : f i &&& 63 = 60) : lStp d i n f S X R T P TU q G TN fl fd M := by
  have hR := hI.1
  have hF := hI.2.1
  have h1 := hR.1.1.1
  have h40 := hR.1.1.2
  have hn0 := hR.1.2.1
  have hO := rel_ok hR hF

  refine ⟨S, X, R, T, P, TU, q, G, TN, fl, fd, (g_m_appliedCount  M).2, ⟨n0, hI.q (qF_15 0 hF)⟩, fun mc ms r h' K => ?_⟩
  exact l_case60 hi hn hc (a := g_c_6_appliedCount n0 S X R T) (b := (g_m_appliedCount  M).1) (d2 := 1) (d3 := 1) (by omega) (k_c_6_appliedCount n0 S X R T hn0 h40) (by omega) (k_m_appliedCount M) (hR.2.1.2.2) K
end STEP
