variable {sc : SC}
/-! ===== steps: what an update would do ===== -/
section STEP
variable {d i : Nat} {S X R : ZS} {T : TS} {P : ZS} {TU : TS} {q : Nat} {G : Nat → TS} {TN : TS} {fl : Nat → Int64} {fd : Nat → UInt64} {n : Nat} {f : Nat → Int32} {M : ZS} {n0 : Nat}
theorem l_step51 (hI : Inv n0 S X R T P TU q G TN M) (hi : i + 6 ≤ n) (hn : n ≤ 3072) (hd : 30 ≤ d) (hc : f i &&& 63 = 51) : lStp d i n f S X R T P TU q G TN fl fd M := by
  have hR := hI.1
  have hF := hI.2.1
  have h1 := hR.1.1.1
  have h40 := hR.1.1.2
  have hn0 := hR.1.2.1
  have hO := rel_ok hR hF
  rcases idx2 hR (f (i + 1)) (f (i + 2)) with ⟨a, b, ea, eb, hab, hb, hm⟩ | ⟨⟨t1, t2, t3⟩, hm⟩ | ⟨t1, hm⟩
  · obtain ⟨y1, y2⟩ := e_appliedFor (S := S) (X := X) (R := R) hR hF hab hb
    refine ⟨S, X, R, T, P, TU, q, G, TN, vp_updL fl 0 ((g_c_6_appliedFor n0 a b S X R T).toInt64), fd, (g_m_appliedFor n0 a b M).2, ⟨n0, hI.q y1.1⟩, fun mc ms r h' K => ?_⟩
    exact l_case51 hi hn hc (k := 0) (b := (g_m_appliedFor n0 a b M).1) (d2 := 4) (mc2 := 0) (ms2 := 0) (d3 := 13) (by omega) (by decide) (by decide) (by rw [ea, eb]; exact k_L_appliedFor n0 a b S X R T hn0 h40 hab hb P TU q G TN fl) (by omega) (by rw [ea, eb]; exact k_m_appliedFor n0 a b M h1 h40 hab hb hO) y1.2 (fun _ => (if_pos rfl).trans (congrArg Int32.toInt64 y2)) K
  · refine ⟨S, X, R, T, P, TU, q, G, TN, fl, fd, (g_m_appliedFor_x2 (f (i + 1)) (f (i + 2)) M).2, ⟨n0, hI.q (qF_15 2 hF)⟩, fun mc ms r h' K => ?_⟩
    exact l_case51 hi hn hc (k := 2) (b := (g_m_appliedFor_x2 (f (i + 1)) (f (i + 2)) M).1) (d2 := 11) (mc2 := 1) (ms2 := 6) (d3 := 4) (by omega) (by decide) (by decide) (k_L_appliedFor_x2 n0 (f (i + 1)) (f (i + 2)) S X R T hn0 h40 t1 t2 t3 P TU q G TN fl) (by omega) (k_m_appliedFor_x2 (f (i + 1)) (f (i + 2)) M hm t3) (sI_same _ _ _) (fun e => absurd e (by decide)) K
  · refine ⟨S, X, R, T, P, TU, q, G, TN, fl, fd, (g_m_appliedFor_x1 (f (i + 1)) (f (i + 2)) M).2, ⟨n0, hI.q (qF_15 1 hF)⟩, fun mc ms r h' K => ?_⟩
    exact l_case51 hi hn hc (k := 1) (b := (g_m_appliedFor_x1 (f (i + 1)) (f (i + 2)) M).1) (d2 := 11) (mc2 := 1) (ms2 := 6) (d3 := 4) (by omega) (by decide) (by decide) (k_L_appliedFor_x1 n0 (f (i + 1)) (f (i + 2)) S X R T hn0 h40 t1 P TU q G TN fl) (by omega) (k_m_appliedFor_x1 (f (i + 1)) (f (i + 2)) M hm) (sI_same _ _ _) (fun e => absurd e (by decide)) K
theorem l_step53 (hI : Inv n0 S X R T P TU q G TN M) (hi : i + 6 ≤ n) (hn : n ≤ 3072) (hd : 30 ≤ d) (hc : f i &&& 63 = 53) : lStp d i n f S X R T P TU q G TN fl fd M := by
  have hR := hI.1
  have hF := hI.2.1
  have h1 := hR.1.1.1
  have h40 := hR.1.1.2
  have hn0 := hR.1.2.1
  have hO := rel_ok hR hF
  rcases idx2 hR (f (i + 1)) (f (i + 2)) with ⟨a, b, ea, eb, hab, hb, hm⟩ | ⟨⟨t1, t2, t3⟩, hm⟩ | ⟨t1, hm⟩
  · obtain ⟨y1, y2⟩ := e_visitedFor (S := S) (X := X) (R := R) hR hF hab hb
    refine ⟨S, X, R, T, P, TU, q, G, TN, vp_updL fl 0 ((g_c_6_visitedFor n0 a b S X R T).toInt64), fd, (g_m_visitedFor n0 a b M).2, ⟨n0, hI.q y1.1⟩, fun mc ms r h' K => ?_⟩
    exact l_case53 hi hn hc (k := 0) (b := (g_m_visitedFor n0 a b M).1) (d2 := 4) (mc2 := 0) (ms2 := 0) (d3 := 13) (by omega) (by decide) (by decide) (by rw [ea, eb]; exact k_L_visitedFor n0 a b S X R T hn0 h40 hab hb P TU q G TN fl) (by omega) (by rw [ea, eb]; exact k_m_visitedFor n0 a b M h1 h40 hab hb hO) y1.2 (fun _ => (if_pos rfl).trans (congrArg Int32.toInt64 y2)) K
  · refine ⟨S, X, R, T, P, TU, q, G, TN, fl, fd, (g_m_visitedFor_x2 (f (i + 1)) (f (i + 2)) M).2, ⟨n0, hI.q (qF_15 2 hF)⟩, fun mc ms r h' K => ?_⟩
    exact l_case53 hi hn hc (k := 2) (b := (g_m_visitedFor_x2 (f (i + 1)) (f (i + 2)) M).1) (d2 := 11) (mc2 := 1) (ms2 := 6) (d3 := 4) (by omega) (by decide) (by decide) (k_L_visitedFor_x2 n0 (f (i + 1)) (f (i + 2)) S X R T hn0 h40 t1 t2 t3 P TU q G TN fl) (by omega) (k_m_visitedFor_x2 (f (i + 1)) (f (i + 2)) M hm t3) (sI_same _ _ _) (fun e => absurd e (by decide)) K
  · refine ⟨S, X, R, T, P, TU, q, G, TN, fl, fd, (g_m_visitedFor_x1 (f (i + 1)) (f (i + 2)) M).2, ⟨n0, hI.q (qF_15 1 hF)⟩, fun mc ms r h' K => ?_⟩
    exact l_case53 hi hn hc (k := 1) (b := (g_m_visitedFor_x1 (f (i + 1)) (f (i + 2)) M).1) (d2 := 11) (mc2 := 1) (ms2 := 6) (d3 := 4) (by omega) (by decide) (by decide) (k_L_visitedFor_x1 n0 (f (i + 1)) (f (i + 2)) S X R T hn0 h40 t1 P TU q G TN fl) (by omega) (k_m_visitedFor_x1 (f (i + 1)) (f (i + 2)) M hm) (sI_same _ _ _) (fun e => absurd e (by decide)) K
theorem l_step54 (hI : Inv n0 S X R T P TU q G TN M) (hi : i + 6 ≤ n) (hn : n ≤ 3072) (hd : 30 ≤ d) (hc : f i &&& 63 = 54) : lStp d i n f S X R T P TU q G TN fl fd M := by
  have hR := hI.1
  have hF := hI.2.1
  have h1 := hR.1.1.1
  have h40 := hR.1.1.2
  have hn0 := hR.1.2.1
  have hO := rel_ok hR hF
  rcases idx2 hR (f (i + 1)) (f (i + 2)) with ⟨a, b, ea, eb, hab, hb, hm⟩ | ⟨⟨t1, t2, t3⟩, hm⟩ | ⟨t1, hm⟩
  · obtain ⟨y1, y2⟩ := e_pushesFor (S := S) (X := X) (R := R) hR hF hab hb
    refine ⟨S, X, R, T, P, TU, q, G, TN, vp_updL fl 0 ((g_c_6_pushesFor n0 a b S X R T).toInt64), fd, (g_m_pushesFor n0 a b M).2, ⟨n0, hI.q y1.1⟩, fun mc ms r h' K => ?_⟩
    exact l_case54 hi hn hc (k := 0) (b := (g_m_pushesFor n0 a b M).1) (d2 := 4) (mc2 := 0) (ms2 := 0) (d3 := 13) (by omega) (by decide) (by decide) (by rw [ea, eb]; exact k_L_pushesFor n0 a b S X R T hn0 h40 hab hb P TU q G TN fl) (by omega) (by rw [ea, eb]; exact k_m_pushesFor n0 a b M h1 h40 hab hb hO) y1.2 (fun _ => (if_pos rfl).trans (congrArg Int32.toInt64 y2)) K
  · refine ⟨S, X, R, T, P, TU, q, G, TN, fl, fd, (g_m_pushesFor_x2 (f (i + 1)) (f (i + 2)) M).2, ⟨n0, hI.q (qF_15 2 hF)⟩, fun mc ms r h' K => ?_⟩
    exact l_case54 hi hn hc (k := 2) (b := (g_m_pushesFor_x2 (f (i + 1)) (f (i + 2)) M).1) (d2 := 11) (mc2 := 1) (ms2 := 6) (d3 := 4) (by omega) (by decide) (by decide) (k_L_pushesFor_x2 n0 (f (i + 1)) (f (i + 2)) S X R T hn0 h40 t1 t2 t3 P TU q G TN fl) (by omega) (k_m_pushesFor_x2 (f (i + 1)) (f (i + 2)) M hm t3) (sI_same _ _ _) (fun e => absurd e (by decide)) K
  · refine ⟨S, X, R, T, P, TU, q, G, TN, fl, fd, (g_m_pushesFor_x1 (f (i + 1)) (f (i + 2)) M).2, ⟨n0, hI.q (qF_15 1 hF)⟩, fun mc ms r h' K => ?_⟩
    exact l_case54 hi hn hc (k := 1) (b := (g_m_pushesFor_x1 (f (i + 1)) (f (i + 2)) M).1) (d2 := 11) (mc2 := 1) (ms2 := 6) (d3 := 4) (by omega) (by decide) (by decide) (k_L_pushesFor_x1 n0 (f (i + 1)) (f (i + 2)) S X R T hn0 h40 t1 P TU q G TN fl) (by omega) (k_m_pushesFor_x1 (f (i + 1)) (f (i + 2)) M hm) (sI_same _ _ _) (fun e => absurd e (by decide)) K
theorem l_step52 (hI : Inv n0 S X R T P TU q G TN M) (hi : i + 6 ≤ n) (hn : n ≤ 3072) (hd : 30 ≤ d) (hc : f i &&& 63 = 52) : lStp d i n f S X R T P TU q G TN fl fd M := by
  have hR := hI.1
  have hF := hI.2.1
  have h1 := hR.1.1.1
  have h40 := hR.1.1.2
  have hn0 := hR.1.2.1
  have hO := rel_ok hR hF
  rcases idx2 hR (f (i + 1)) (f (i + 2)) with ⟨a, b, ea, eb, hab, hb, hm⟩ | ⟨⟨t1, t2, t3⟩, hm⟩ | ⟨t1, hm⟩
  · obtain ⟨y1, l, v, p, k1, k2, k3, k4, k5, k6, k7, k8, k9⟩ := tries_ok hR hF hab hb
    obtain ⟨w1, w2⟩ := q_appliedNode (S := S) (X := X) (R := R) (p := f (i + 3)) hR hab hb l a 0 (b + 1 - a) k6 (by omega)
    have hin := m_in (f (i + 3)) 0 ((g_m_tries n0 a b (sI 15 0 M)).2.1 21 - 1)
    have ht : (nI l.length - 1).toInt = (l.length : Int) - 1 := by
      rw [show (1 : Int32) = nI 1 by decide, pk_sub_toInt (by omega) (by decide)]
      rfl
    by_cases cc : ∃ x, f (i + 3) = nI x ∧ x < l.length
    · obtain ⟨x, ex, hx⟩ := cc
      have hin2 : g_m_in (nI x) 0 ((g_m_tries n0 a b (sI 15 0 M)).2.1 21 - 1) = true := (m_in _ _ _).trans (decide_eq_true ⟨(nI_leI (a := 0) (by decide) (by omega)).mpr (Nat.zero_le _), by
        rw [k2, Int32.le_iff_toInt_le, ht, nI_toInt (by omega)]
        omega⟩)
      have e1 : g_c_6_appliedNode n0 a b (f (i + 3)) S X R T = (g_m_appliedNode_v n0 a b x M).1 := by
        rw [g_c_6_appliedNode, show (0 : Int32) = nI 0 from rfl, w1 x l[x] (List.getElem?_eq_getElem hx) (by rw [ex, Nat.zero_add]) (fun j hj z => by
          rw [ex, Nat.zero_add] at z
          have := congrArg Int32.toInt z
          rw [nI_toInt (by omega), nI_toInt (by omega)] at this
          omega)]
        have k5x := k5 x l[x] (List.getElem?_eq_getElem hx)
        rw [g_m_appliedNode_v]
        generalize g_m_tries n0 a b (sI 15 0 M) = Y at k5x ⊢
        exact k5x.symm
      refine ⟨S, X, R, T, P, TU, q, G, TN, vp_updL fl 0 ((g_c_6_appliedNode n0 a b (f (i + 3)) S X R T).toInt64), fd, (g_m_appliedNode_v n0 a b x M).2, ⟨n0, ?_⟩, fun mc ms r h' K => ?_⟩
      · rw [g_m_appliedNode_v]
        generalize g_m_tries n0 a b (sI 15 0 M) = Y at y1 ⊢
        exact hI.q y1.1
      · exact l_case52 hi hn hc (k := 0) (b := (g_m_appliedNode_v n0 a b x M).1) (d2 := 4) (mc2 := 0) (ms2 := 0) (d3 := 13) (by omega) (by decide) (by decide) (by rw [ea, eb]; exact k_L_appliedNode n0 a b (f (i + 3)) S X R T hn0 h40 hab hb P TU q G TN fl) (by omega) (by rw [ea, eb, ex]; exact k_m_appliedNode_v n0 a b x M h1 h40 hab hb hO (by omega) hin2) (by
          rw [g_m_appliedNode_v]
          generalize g_m_tries n0 a b (sI 15 0 M) = Y at y1 ⊢
          exact y1.2) (fun _ => (if_pos rfl).trans (congrArg Int32.toInt64 e1)) K
    · have hin2 : g_m_in (f (i + 3)) 0 ((g_m_tries n0 a b (sI 15 0 M)).2.1 21 - 1) = false := hin.trans (decide_eq_false (fun z => cc (by
        obtain ⟨z1, z2⟩ := z
        rw [k2, Int32.le_iff_toInt_le, ht] at z2
        have z3 := Int32.le_iff_toInt_le.mp z1
        have e0 : (0 : Int32).toInt = 0 := by decide
        rw [e0] at z3
        refine ⟨(f (i + 3)).toInt.toNat, ?_, by omega⟩
        apply Int32.toInt_inj.mp
        rw [nI_toInt (by omega)]
        omega)))
      have e1 : g_c_6_appliedNode n0 a b (f (i + 3)) S X R T = (g_m_appliedNode n0 a b (f (i + 3)) M).1 := by
        rw [g_c_6_appliedNode, show (0 : Int32) = nI 0 from rfl, w2 (fun j hj z => cc ⟨j, by rw [z, Nat.zero_add], hj⟩)]
        rfl
      refine ⟨S, X, R, T, P, TU, q, G, TN, vp_updL fl 0 ((g_c_6_appliedNode n0 a b (f (i + 3)) S X R T).toInt64), fd, (g_m_appliedNode n0 a b (f (i + 3)) M).2, ⟨n0, ?_⟩, fun mc ms r h' K => ?_⟩
      · rw [g_m_appliedNode]
        generalize g_m_tries n0 a b (sI 15 0 M) = Y at y1 ⊢
        exact hI.q y1.1
      · exact l_case52 hi hn hc (k := 0) (b := (g_m_appliedNode n0 a b (f (i + 3)) M).1) (d2 := 4) (mc2 := 0) (ms2 := 0) (d3 := 13) (by omega) (by decide) (by decide) (by rw [ea, eb]; exact k_L_appliedNode n0 a b (f (i + 3)) S X R T hn0 h40 hab hb P TU q G TN fl) (by omega) (by rw [ea, eb]; exact k_m_appliedNode n0 a b (f (i + 3)) M h1 h40 hab hb hO hin2) (by
          rw [g_m_appliedNode]
          generalize g_m_tries n0 a b (sI 15 0 M) = Y at y1 ⊢
          exact y1.2) (fun _ => (if_pos rfl).trans (congrArg Int32.toInt64 e1)) K
  · refine ⟨S, X, R, T, P, TU, q, G, TN, fl, fd, (g_m_appliedNode_x2 (f (i + 1)) (f (i + 2)) (f (i + 3)) M).2, ⟨n0, hI.q (qF_15 2 hF)⟩, fun mc ms r h' K => ?_⟩
    exact l_case52 hi hn hc (k := 2) (b := (g_m_appliedNode_x2 (f (i + 1)) (f (i + 2)) (f (i + 3)) M).1) (d2 := 11) (mc2 := 1) (ms2 := 6) (d3 := 4) (by omega) (by decide) (by decide) (k_L_appliedNode_x2 n0 (f (i + 1)) (f (i + 2)) (f (i + 3)) S X R T hn0 h40 t1 t2 t3 P TU q G TN fl) (by omega) (k_m_appliedNode_x2 (f (i + 1)) (f (i + 2)) (f (i + 3)) M hm t3) (sI_same _ _ _) (fun e => absurd e (by decide)) K
  · refine ⟨S, X, R, T, P, TU, q, G, TN, fl, fd, (g_m_appliedNode_x1 (f (i + 1)) (f (i + 2)) (f (i + 3)) M).2, ⟨n0, hI.q (qF_15 1 hF)⟩, fun mc ms r h' K => ?_⟩
    exact l_case52 hi hn hc (k := 1) (b := (g_m_appliedNode_x1 (f (i + 1)) (f (i + 2)) (f (i + 3)) M).1) (d2 := 11) (mc2 := 1) (ms2 := 6) (d3 := 4) (by omega) (by decide) (by decide) (k_L_appliedNode_x1 n0 (f (i + 1)) (f (i + 2)) (f (i + 3)) S X R T hn0 h40 t1 P TU q G TN fl) (by omega) (k_m_appliedNode_x1 (f (i + 1)) (f (i + 2)) (f (i + 3)) M hm) (sI_same _ _ _) (fun e => absurd e (by decide)) K
end STEP
