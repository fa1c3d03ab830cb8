variable {sc : SC}
/-! ===== the steps of the law's loop ===== -/
def lStp (d i n : Nat) (f : Nat → Int32) (S X R : ZS) (T : TS) (P : ZS) (TU : TS) (q : Nat) (G : Nat → TS) (TN : TS) (fl : Nat → Int64) (fd : Nat → UInt64) (M : ZS) : Prop :=
  ∃ (S' X' R' : ZS) (T' : TS) (P' : ZS) (TU' : TS) (q' : Nat) (G' : Nat → TS) (TN' : TS) (fl' : Nat → Int64) (fd' : Nat → UInt64) (M' : ZS), (∃ n', Inv n' S' X' R' T' P' TU' q' G' TN' M') ∧
    ∀ (mc ms : Nat) (r : zR) (h' : List zO), Z (n, f) yL_law cL_law 9 (some .boolean) d mc ms 28 (some (.ref 1000202) :: some (.ref 0) :: some (.ref 117) :: some (.ref 115) :: some (.ref 116) :: some (.int (nI (i + 6))) :: [none, none, none]) [] (LH S' X' R' T' P' TU' q' G' TN' fl' fd' n f M') r h' → Z (n, f) yL_law cL_law 9 (some .boolean) d (mc + 1) (ms + 6) 28 (some (.ref 1000202) :: some (.ref 0) :: some (.ref 117) :: some (.ref 115) :: some (.ref 116) :: some (.int (nI (i))) :: [none, none, none]) [] (LH S X R T P TU q G TN fl fd n f M) r h'
section STEP
variable {d i : Nat} {S X R : ZS} {T : TS} {P : ZS} {TU : TS} {q : Nat} {G : Nat → TS} {TN : TS} {fl : Nat → Int64} {fd : Nat → UInt64} {n : Nat} {f : Nat → Int32} {M : ZS} {n0 : Nat}
theorem l_step18 (hI : Inv n0 S X R T P TU q G TN M) (hi : i + 6 ≤ n) (hn : n ≤ 3072) (hd : 30 ≤ d) (hc : f i &&& 63 = 18) : lStp d i n f S X R T P TU q G TN fl fd M := by
  have hR := hI.1
  have hF := hI.2.1
  have h1 := hR.1.1.1
  have h40 := hR.1.1.2
  have hn0 := hR.1.2.1
  have hO := rel_ok hR hF
  rcases idx2 hR (f (i + 1)) (f (i + 2)) with ⟨a, b, ea, eb, hab, hb, -⟩ | ⟨⟨t1, t2, t3⟩, hm⟩ | ⟨t1, hm⟩
  · -- it answers
    refine ⟨S, X, R, T, P, TU, q, G, TN, vp_updL fl 0 (g_c_6_sum n0 a b S X R T), fd, (g_m_sum n0 a b M).2, ⟨n0, hI.q (qf_sum hF h1 h40).1⟩, fun mc ms r h' K => ?_⟩
    exact l_case18 hi hn hc (k := 0) (b := (g_m_sum n0 a b M).1) (d2 := 4) (mc2 := 0) (ms2 := 0) (d3 := 4) (by omega) (by decide) (by decide) (by rw [ea, eb]; exact k_L_sum n0 a b S X R T hn0 h40 hab hb P TU q G TN fl) (by omega) (by rw [ea, eb]; exact k_m_sum n0 a b M h1 h40 hab hb hO) (qf_sum hF h1 h40).2 (fun _ => (if_pos rfl).trans (e_sum hR hO hab hb)) K
  · -- it ends before it begins
    have e9 : (g_m_sum_x2 (f (i + 1)) (f (i + 2)) M).2 = sI 15 2 M := by first | rfl | (rw [g_m_sum_x2]; repeat' split) <;> rfl
    refine ⟨S, X, R, T, P, TU, q, G, TN, fl, fd, (g_m_sum_x2 (f (i + 1)) (f (i + 2)) M).2, ⟨n0, hI.q (by rw [e9]; exact qF_15 2 hF)⟩, fun mc ms r h' K => ?_⟩
    exact l_case18 hi hn hc (k := 2) (b := (g_m_sum_x2 (f (i + 1)) (f (i + 2)) M).1) (d2 := 11) (mc2 := 1) (ms2 := 6) (d3 := 4) (by omega) (by decide) (by decide) (k_L_sum_x2 n0 (f (i + 1)) (f (i + 2)) S X R T hn0 h40 t1 t2 t3 P TU q G TN fl) (by omega) (k_m_sum_x2 (f (i + 1)) (f (i + 2)) M hm t3) (by rw [e9]; exact sI_same _ _ _) (fun e => absurd e (by decide)) K
  · -- no index
    have e9 : (g_m_sum_x1 (f (i + 1)) (f (i + 2)) M).2 = sI 15 1 M := by first | rfl | (rw [g_m_sum_x1]; repeat' split) <;> rfl
    refine ⟨S, X, R, T, P, TU, q, G, TN, fl, fd, (g_m_sum_x1 (f (i + 1)) (f (i + 2)) M).2, ⟨n0, hI.q (by rw [e9]; exact qF_15 1 hF)⟩, fun mc ms r h' K => ?_⟩
    exact l_case18 hi hn hc (k := 1) (b := (g_m_sum_x1 (f (i + 1)) (f (i + 2)) M).1) (d2 := 11) (mc2 := 1) (ms2 := 6) (d3 := 4) (by omega) (by decide) (by decide) (k_L_sum_x1 n0 (f (i + 1)) (f (i + 2)) S X R T hn0 h40 t1 P TU q G TN fl) (by omega) (k_m_sum_x1 (f (i + 1)) (f (i + 2)) M hm) (by rw [e9]; exact sI_same _ _ _) (fun e => absurd e (by decide)) K
theorem l_step19 (hI : Inv n0 S X R T P TU q G TN M) (hi : i + 6 ≤ n) (hn : n ≤ 3072) (hd : 30 ≤ d) (hc : f i &&& 63 = 19) : lStp d i n f S X R T P TU q G TN fl fd M := by
  have hR := hI.1
  have hF := hI.2.1
  have h1 := hR.1.1.1
  have h40 := hR.1.1.2
  have hn0 := hR.1.2.1
  have hO := rel_ok hR hF
  rcases idx2 hR (f (i + 1)) (f (i + 2)) with ⟨a, b, ea, eb, hab, hb, -⟩ | ⟨⟨t1, t2, t3⟩, hm⟩ | ⟨t1, hm⟩
  · -- it answers
    refine ⟨S, X, R, T, P, TU, q, G, TN, vp_updL fl 0 ((g_c_6_least n0 a b S X R T).toInt64), fd, (g_m_least n0 a b M).2, ⟨n0, hI.q (qf_least hF h1 h40).1⟩, fun mc ms r h' K => ?_⟩
    exact l_case19 hi hn hc (k := 0) (b := (g_m_least n0 a b M).1) (d2 := 4) (mc2 := 0) (ms2 := 0) (d3 := 4) (by omega) (by decide) (by decide) (by rw [ea, eb]; exact k_L_least n0 a b S X R T hn0 h40 hab hb P TU q G TN fl) (by omega) (by rw [ea, eb]; exact k_m_least n0 a b M h1 h40 hab hb hO) (qf_least hF h1 h40).2 (fun _ => (if_pos rfl).trans (congrArg Int32.toInt64 (e_least hR hO hab hb))) K
  · -- it ends before it begins
    have e9 : (g_m_least_x2 (f (i + 1)) (f (i + 2)) M).2 = sI 15 2 M := by first | rfl | (rw [g_m_least_x2]; repeat' split) <;> rfl
    refine ⟨S, X, R, T, P, TU, q, G, TN, fl, fd, (g_m_least_x2 (f (i + 1)) (f (i + 2)) M).2, ⟨n0, hI.q (by rw [e9]; exact qF_15 2 hF)⟩, fun mc ms r h' K => ?_⟩
    exact l_case19 hi hn hc (k := 2) (b := (g_m_least_x2 (f (i + 1)) (f (i + 2)) M).1) (d2 := 11) (mc2 := 1) (ms2 := 6) (d3 := 4) (by omega) (by decide) (by decide) (k_L_least_x2 n0 (f (i + 1)) (f (i + 2)) S X R T hn0 h40 t1 t2 t3 P TU q G TN fl) (by omega) (k_m_least_x2 (f (i + 1)) (f (i + 2)) M hm t3) (by rw [e9]; exact sI_same _ _ _) (fun e => absurd e (by decide)) K
  · -- no index
    have e9 : (g_m_least_x1 (f (i + 1)) (f (i + 2)) M).2 = sI 15 1 M := by first | rfl | (rw [g_m_least_x1]; repeat' split) <;> rfl
    refine ⟨S, X, R, T, P, TU, q, G, TN, fl, fd, (g_m_least_x1 (f (i + 1)) (f (i + 2)) M).2, ⟨n0, hI.q (by rw [e9]; exact qF_15 1 hF)⟩, fun mc ms r h' K => ?_⟩
    exact l_case19 hi hn hc (k := 1) (b := (g_m_least_x1 (f (i + 1)) (f (i + 2)) M).1) (d2 := 11) (mc2 := 1) (ms2 := 6) (d3 := 4) (by omega) (by decide) (by decide) (k_L_least_x1 n0 (f (i + 1)) (f (i + 2)) S X R T hn0 h40 t1 P TU q G TN fl) (by omega) (k_m_least_x1 (f (i + 1)) (f (i + 2)) M hm) (by rw [e9]; exact sI_same _ _ _) (fun e => absurd e (by decide)) K
theorem l_step20 (hI : Inv n0 S X R T P TU q G TN M) (hi : i + 6 ≤ n) (hn : n ≤ 3072) (hd : 30 ≤ d) (hc : f i &&& 63 = 20) : lStp d i n f S X R T P TU q G TN fl fd M := by
  have hR := hI.1
  have hF := hI.2.1
  have h1 := hR.1.1.1
  have h40 := hR.1.1.2
  have hn0 := hR.1.2.1
  have hO := rel_ok hR hF
  rcases idx2 hR (f (i + 1)) (f (i + 2)) with ⟨a, b, ea, eb, hab, hb, -⟩ | ⟨⟨t1, t2, t3⟩, hm⟩ | ⟨t1, hm⟩
  · -- it answers
    refine ⟨S, X, R, T, P, TU, q, G, TN, vp_updL fl 0 ((g_c_6_greatest n0 a b S X R T).toInt64), fd, (g_m_greatest n0 a b M).2, ⟨n0, hI.q (qf_greatest hF h1 h40).1⟩, fun mc ms r h' K => ?_⟩
    exact l_case20 hi hn hc (k := 0) (b := (g_m_greatest n0 a b M).1) (d2 := 4) (mc2 := 0) (ms2 := 0) (d3 := 4) (by omega) (by decide) (by decide) (by rw [ea, eb]; exact k_L_greatest n0 a b S X R T hn0 h40 hab hb P TU q G TN fl) (by omega) (by rw [ea, eb]; exact k_m_greatest n0 a b M h1 h40 hab hb hO) (qf_greatest hF h1 h40).2 (fun _ => (if_pos rfl).trans (congrArg Int32.toInt64 (e_greatest hR hO hab hb))) K
  · -- it ends before it begins
    have e9 : (g_m_greatest_x2 (f (i + 1)) (f (i + 2)) M).2 = sI 15 2 M := by first | rfl | (rw [g_m_greatest_x2]; repeat' split) <;> rfl
    refine ⟨S, X, R, T, P, TU, q, G, TN, fl, fd, (g_m_greatest_x2 (f (i + 1)) (f (i + 2)) M).2, ⟨n0, hI.q (by rw [e9]; exact qF_15 2 hF)⟩, fun mc ms r h' K => ?_⟩
    exact l_case20 hi hn hc (k := 2) (b := (g_m_greatest_x2 (f (i + 1)) (f (i + 2)) M).1) (d2 := 11) (mc2 := 1) (ms2 := 6) (d3 := 4) (by omega) (by decide) (by decide) (k_L_greatest_x2 n0 (f (i + 1)) (f (i + 2)) S X R T hn0 h40 t1 t2 t3 P TU q G TN fl) (by omega) (k_m_greatest_x2 (f (i + 1)) (f (i + 2)) M hm t3) (by rw [e9]; exact sI_same _ _ _) (fun e => absurd e (by decide)) K
  · -- no index
    have e9 : (g_m_greatest_x1 (f (i + 1)) (f (i + 2)) M).2 = sI 15 1 M := by first | rfl | (rw [g_m_greatest_x1]; repeat' split) <;> rfl
    refine ⟨S, X, R, T, P, TU, q, G, TN, fl, fd, (g_m_greatest_x1 (f (i + 1)) (f (i + 2)) M).2, ⟨n0, hI.q (by rw [e9]; exact qF_15 1 hF)⟩, fun mc ms r h' K => ?_⟩
    exact l_case20 hi hn hc (k := 1) (b := (g_m_greatest_x1 (f (i + 1)) (f (i + 2)) M).1) (d2 := 11) (mc2 := 1) (ms2 := 6) (d3 := 4) (by omega) (by decide) (by decide) (k_L_greatest_x1 n0 (f (i + 1)) (f (i + 2)) S X R T hn0 h40 t1 P TU q G TN fl) (by omega) (k_m_greatest_x1 (f (i + 1)) (f (i + 2)) M hm) (by rw [e9]; exact sI_same _ _ _) (fun e => absurd e (by decide)) K
theorem l_step21 (hI : Inv n0 S X R T P TU q G TN M) (hi : i + 6 ≤ n) (hn : n ≤ 3072) (hd : 30 ≤ d) (hc : f i &&& 63 = 21) : lStp d i n f S X R T P TU q G TN fl fd M := by
  have hR := hI.1
  have hF := hI.2.1
  have h1 := hR.1.1.1
  have h40 := hR.1.1.2
  have hn0 := hR.1.2.1
  have hO := rel_ok hR hF
  rcases idx2 hR (f (i + 1)) (f (i + 2)) with ⟨a, b, ea, eb, hab, hb, -⟩ | ⟨⟨t1, t2, t3⟩, hm⟩ | ⟨t1, hm⟩
  · -- it answers
    refine ⟨S, X, R, T, P, TU, q, G, TN, vp_updL fl 0 ((g_c_6_firstLeast n0 a b S X R T).toInt64), fd, (g_m_firstLeast n0 a b M).2, ⟨n0, hI.q (qf_firstLeast hF h1 h40).1⟩, fun mc ms r h' K => ?_⟩
    exact l_case21 hi hn hc (k := 0) (b := (g_m_firstLeast n0 a b M).1) (d2 := 4) (mc2 := 0) (ms2 := 0) (d3 := 4) (by omega) (by decide) (by decide) (by rw [ea, eb]; exact k_L_firstLeast n0 a b S X R T hn0 h40 hab hb P TU q G TN fl) (by omega) (by rw [ea, eb]; exact k_m_firstLeast n0 a b M h1 h40 hab hb hO) (qf_firstLeast hF h1 h40).2 (fun _ => (if_pos rfl).trans (congrArg Int32.toInt64 (e_firstLeast hR hO hab hb))) K
  · -- it ends before it begins
    have e9 : (g_m_firstLeast_x2 (f (i + 1)) (f (i + 2)) M).2 = sI 15 2 M := by first | rfl | (rw [g_m_firstLeast_x2]; repeat' split) <;> rfl
    refine ⟨S, X, R, T, P, TU, q, G, TN, fl, fd, (g_m_firstLeast_x2 (f (i + 1)) (f (i + 2)) M).2, ⟨n0, hI.q (by rw [e9]; exact qF_15 2 hF)⟩, fun mc ms r h' K => ?_⟩
    exact l_case21 hi hn hc (k := 2) (b := (g_m_firstLeast_x2 (f (i + 1)) (f (i + 2)) M).1) (d2 := 11) (mc2 := 1) (ms2 := 6) (d3 := 4) (by omega) (by decide) (by decide) (k_L_firstLeast_x2 n0 (f (i + 1)) (f (i + 2)) S X R T hn0 h40 t1 t2 t3 P TU q G TN fl) (by omega) (k_m_firstLeast_x2 (f (i + 1)) (f (i + 2)) M hm t3) (by rw [e9]; exact sI_same _ _ _) (fun e => absurd e (by decide)) K
  · -- no index
    have e9 : (g_m_firstLeast_x1 (f (i + 1)) (f (i + 2)) M).2 = sI 15 1 M := by first | rfl | (rw [g_m_firstLeast_x1]; repeat' split) <;> rfl
    refine ⟨S, X, R, T, P, TU, q, G, TN, fl, fd, (g_m_firstLeast_x1 (f (i + 1)) (f (i + 2)) M).2, ⟨n0, hI.q (by rw [e9]; exact qF_15 1 hF)⟩, fun mc ms r h' K => ?_⟩
    exact l_case21 hi hn hc (k := 1) (b := (g_m_firstLeast_x1 (f (i + 1)) (f (i + 2)) M).1) (d2 := 11) (mc2 := 1) (ms2 := 6) (d3 := 4) (by omega) (by decide) (by decide) (k_L_firstLeast_x1 n0 (f (i + 1)) (f (i + 2)) S X R T hn0 h40 t1 P TU q G TN fl) (by omega) (k_m_firstLeast_x1 (f (i + 1)) (f (i + 2)) M hm) (by rw [e9]; exact sI_same _ _ _) (fun e => absurd e (by decide)) K
theorem l_step22 (hI : Inv n0 S X R T P TU q G TN M) (hi : i + 6 ≤ n) (hn : n ≤ 3072) (hd : 30 ≤ d) (hc : f i &&& 63 = 22) : lStp d i n f S X R T P TU q G TN fl fd M := by
  have hR := hI.1
  have hF := hI.2.1
  have h1 := hR.1.1.1
  have h40 := hR.1.1.2
  have hn0 := hR.1.2.1
  have hO := rel_ok hR hF
  rcases idx2 hR (f (i + 1)) (f (i + 2)) with ⟨a, b, ea, eb, hab, hb, -⟩ | ⟨⟨t1, t2, t3⟩, hm⟩ | ⟨t1, hm⟩
  · -- it answers
    refine ⟨S, X, R, T, P, TU, q, G, TN, vp_updL fl 0 ((g_c_6_firstGreatest n0 a b S X R T).toInt64), fd, (g_m_firstGreatest n0 a b M).2, ⟨n0, hI.q (qf_firstGreatest hF h1 h40).1⟩, fun mc ms r h' K => ?_⟩
    exact l_case22 hi hn hc (k := 0) (b := (g_m_firstGreatest n0 a b M).1) (d2 := 4) (mc2 := 0) (ms2 := 0) (d3 := 4) (by omega) (by decide) (by decide) (by rw [ea, eb]; exact k_L_firstGreatest n0 a b S X R T hn0 h40 hab hb P TU q G TN fl) (by omega) (by rw [ea, eb]; exact k_m_firstGreatest n0 a b M h1 h40 hab hb hO) (qf_firstGreatest hF h1 h40).2 (fun _ => (if_pos rfl).trans (congrArg Int32.toInt64 (e_firstGreatest hR hO hab hb))) K
  · -- it ends before it begins
    have e9 : (g_m_firstGreatest_x2 (f (i + 1)) (f (i + 2)) M).2 = sI 15 2 M := by first | rfl | (rw [g_m_firstGreatest_x2]; repeat' split) <;> rfl
    refine ⟨S, X, R, T, P, TU, q, G, TN, fl, fd, (g_m_firstGreatest_x2 (f (i + 1)) (f (i + 2)) M).2, ⟨n0, hI.q (by rw [e9]; exact qF_15 2 hF)⟩, fun mc ms r h' K => ?_⟩
    exact l_case22 hi hn hc (k := 2) (b := (g_m_firstGreatest_x2 (f (i + 1)) (f (i + 2)) M).1) (d2 := 11) (mc2 := 1) (ms2 := 6) (d3 := 4) (by omega) (by decide) (by decide) (k_L_firstGreatest_x2 n0 (f (i + 1)) (f (i + 2)) S X R T hn0 h40 t1 t2 t3 P TU q G TN fl) (by omega) (k_m_firstGreatest_x2 (f (i + 1)) (f (i + 2)) M hm t3) (by rw [e9]; exact sI_same _ _ _) (fun e => absurd e (by decide)) K
  · -- no index
    have e9 : (g_m_firstGreatest_x1 (f (i + 1)) (f (i + 2)) M).2 = sI 15 1 M := by first | rfl | (rw [g_m_firstGreatest_x1]; repeat' split) <;> rfl
    refine ⟨S, X, R, T, P, TU, q, G, TN, fl, fd, (g_m_firstGreatest_x1 (f (i + 1)) (f (i + 2)) M).2, ⟨n0, hI.q (by rw [e9]; exact qF_15 1 hF)⟩, fun mc ms r h' K => ?_⟩
    exact l_case22 hi hn hc (k := 1) (b := (g_m_firstGreatest_x1 (f (i + 1)) (f (i + 2)) M).1) (d2 := 11) (mc2 := 1) (ms2 := 6) (d3 := 4) (by omega) (by decide) (by decide) (k_L_firstGreatest_x1 n0 (f (i + 1)) (f (i + 2)) S X R T hn0 h40 t1 P TU q G TN fl) (by omega) (k_m_firstGreatest_x1 (f (i + 1)) (f (i + 2)) M hm) (by rw [e9]; exact sI_same _ _ _) (fun e => absurd e (by decide)) K
theorem l_step23 (hI : Inv n0 S X R T P TU q G TN M) (hi : i + 6 ≤ n) (hn : n ≤ 3072) (hd : 30 ≤ d) (hc : f i &&& 63 = 23) : lStp d i n f S X R T P TU q G TN fl fd M := by
  have hR := hI.1
  have hF := hI.2.1
  have h1 := hR.1.1.1
  have h40 := hR.1.1.2
  have hn0 := hR.1.2.1
  have hO := rel_ok hR hF
  rcases idx2 hR (f (i + 1)) (f (i + 2)) with ⟨a, b, ea, eb, hab, hb, -⟩ | ⟨⟨t1, t2, t3⟩, hm⟩ | ⟨t1, hm⟩
  · -- it answers
    refine ⟨S, X, R, T, P, TU, q, G, TN, vp_updL fl 0 ((g_c_6_leastCount n0 a b S X R T).toInt64), fd, (g_m_leastCount n0 a b M).2, ⟨n0, hI.q (qf_leastCount hF h1 h40).1⟩, fun mc ms r h' K => ?_⟩
    exact l_case23 hi hn hc (k := 0) (b := nI (g_m_leastCount n0 a b M).1) (d2 := 4) (mc2 := 0) (ms2 := 0) (d3 := 4) (by omega) (by decide) (by decide) (by rw [ea, eb]; exact k_L_leastCount n0 a b S X R T hn0 h40 hab hb P TU q G TN fl) (by omega) (by rw [ea, eb]; exact k_m_leastCount n0 a b M h1 h40 hab hb hO) (qf_leastCount hF h1 h40).2 (fun _ => (if_pos rfl).trans (congrArg Int32.toInt64 (e_leastCount hR hO hab hb))) K
  · -- it ends before it begins
    have e9 : (g_m_leastCount_x2 (f (i + 1)) (f (i + 2)) M).2 = sI 15 2 M := by first | rfl | (rw [g_m_leastCount_x2]; repeat' split) <;> rfl
    refine ⟨S, X, R, T, P, TU, q, G, TN, fl, fd, (g_m_leastCount_x2 (f (i + 1)) (f (i + 2)) M).2, ⟨n0, hI.q (by rw [e9]; exact qF_15 2 hF)⟩, fun mc ms r h' K => ?_⟩
    exact l_case23 hi hn hc (k := 2) (b := (g_m_leastCount_x2 (f (i + 1)) (f (i + 2)) M).1) (d2 := 11) (mc2 := 1) (ms2 := 6) (d3 := 4) (by omega) (by decide) (by decide) (k_L_leastCount_x2 n0 (f (i + 1)) (f (i + 2)) S X R T hn0 h40 t1 t2 t3 P TU q G TN fl) (by omega) (k_m_leastCount_x2 (f (i + 1)) (f (i + 2)) M hm t3) (by rw [e9]; exact sI_same _ _ _) (fun e => absurd e (by decide)) K
  · -- no index
    have e9 : (g_m_leastCount_x1 (f (i + 1)) (f (i + 2)) M).2 = sI 15 1 M := by first | rfl | (rw [g_m_leastCount_x1]; repeat' split) <;> rfl
    refine ⟨S, X, R, T, P, TU, q, G, TN, fl, fd, (g_m_leastCount_x1 (f (i + 1)) (f (i + 2)) M).2, ⟨n0, hI.q (by rw [e9]; exact qF_15 1 hF)⟩, fun mc ms r h' K => ?_⟩
    exact l_case23 hi hn hc (k := 1) (b := (g_m_leastCount_x1 (f (i + 1)) (f (i + 2)) M).1) (d2 := 11) (mc2 := 1) (ms2 := 6) (d3 := 4) (by omega) (by decide) (by decide) (k_L_leastCount_x1 n0 (f (i + 1)) (f (i + 2)) S X R T hn0 h40 t1 P TU q G TN fl) (by omega) (k_m_leastCount_x1 (f (i + 1)) (f (i + 2)) M hm) (by rw [e9]; exact sI_same _ _ _) (fun e => absurd e (by decide)) K
theorem l_step24 (hI : Inv n0 S X R T P TU q G TN M) (hi : i + 6 ≤ n) (hn : n ≤ 3072) (hd : 30 ≤ d) (hc : f i &&& 63 = 24) : lStp d i n f S X R T P TU q G TN fl fd M := by
  have hR := hI.1
  have hF := hI.2.1
  have h1 := hR.1.1.1
  have h40 := hR.1.1.2
  have hn0 := hR.1.2.1
  have hO := rel_ok hR hF
  rcases idx2 hR (f (i + 1)) (f (i + 2)) with ⟨a, b, ea, eb, hab, hb, -⟩ | ⟨⟨t1, t2, t3⟩, hm⟩ | ⟨t1, hm⟩
  · -- it answers
    refine ⟨S, X, R, T, P, TU, q, G, TN, vp_updL fl 0 ((g_c_6_greatestCount n0 a b S X R T).toInt64), fd, (g_m_greatestCount n0 a b M).2, ⟨n0, hI.q (qf_greatestCount hF h1 h40).1⟩, fun mc ms r h' K => ?_⟩
    exact l_case24 hi hn hc (k := 0) (b := nI (g_m_greatestCount n0 a b M).1) (d2 := 4) (mc2 := 0) (ms2 := 0) (d3 := 4) (by omega) (by decide) (by decide) (by rw [ea, eb]; exact k_L_greatestCount n0 a b S X R T hn0 h40 hab hb P TU q G TN fl) (by omega) (by rw [ea, eb]; exact k_m_greatestCount n0 a b M h1 h40 hab hb hO) (qf_greatestCount hF h1 h40).2 (fun _ => (if_pos rfl).trans (congrArg Int32.toInt64 (e_greatestCount hR hO hab hb))) K
  · -- it ends before it begins
    have e9 : (g_m_greatestCount_x2 (f (i + 1)) (f (i + 2)) M).2 = sI 15 2 M := by first | rfl | (rw [g_m_greatestCount_x2]; repeat' split) <;> rfl
    refine ⟨S, X, R, T, P, TU, q, G, TN, fl, fd, (g_m_greatestCount_x2 (f (i + 1)) (f (i + 2)) M).2, ⟨n0, hI.q (by rw [e9]; exact qF_15 2 hF)⟩, fun mc ms r h' K => ?_⟩
    exact l_case24 hi hn hc (k := 2) (b := (g_m_greatestCount_x2 (f (i + 1)) (f (i + 2)) M).1) (d2 := 11) (mc2 := 1) (ms2 := 6) (d3 := 4) (by omega) (by decide) (by decide) (k_L_greatestCount_x2 n0 (f (i + 1)) (f (i + 2)) S X R T hn0 h40 t1 t2 t3 P TU q G TN fl) (by omega) (k_m_greatestCount_x2 (f (i + 1)) (f (i + 2)) M hm t3) (by rw [e9]; exact sI_same _ _ _) (fun e => absurd e (by decide)) K
  · -- no index
    have e9 : (g_m_greatestCount_x1 (f (i + 1)) (f (i + 2)) M).2 = sI 15 1 M := by first | rfl | (rw [g_m_greatestCount_x1]; repeat' split) <;> rfl
    refine ⟨S, X, R, T, P, TU, q, G, TN, fl, fd, (g_m_greatestCount_x1 (f (i + 1)) (f (i + 2)) M).2, ⟨n0, hI.q (by rw [e9]; exact qF_15 1 hF)⟩, fun mc ms r h' K => ?_⟩
    exact l_case24 hi hn hc (k := 1) (b := (g_m_greatestCount_x1 (f (i + 1)) (f (i + 2)) M).1) (d2 := 11) (mc2 := 1) (ms2 := 6) (d3 := 4) (by omega) (by decide) (by decide) (k_L_greatestCount_x1 n0 (f (i + 1)) (f (i + 2)) S X R T hn0 h40 t1 P TU q G TN fl) (by omega) (k_m_greatestCount_x1 (f (i + 1)) (f (i + 2)) M hm) (by rw [e9]; exact sI_same _ _ _) (fun e => absurd e (by decide)) K
theorem l_step25 (hI : Inv n0 S X R T P TU q G TN M) (hi : i + 6 ≤ n) (hn : n ≤ 3072) (hd : 30 ≤ d) (hc : f i &&& 63 = 25) : lStp d i n f S X R T P TU q G TN fl fd M := by
  have hR := hI.1
  have hF := hI.2.1
  have h1 := hR.1.1.1
  have h40 := hR.1.1.2
  have hn0 := hR.1.2.1
  have hO := rel_ok hR hF
  rcases idx2 hR (f (i + 1)) (f (i + 2)) with ⟨a, b, ea, eb, hab, hb, -⟩ | ⟨⟨t1, t2, t3⟩, hm⟩ | ⟨t1, hm⟩
  · -- it answers
    refine ⟨S, X, R, T, P, TU, q, G, TN, vp_updL fl 0 ((g_c_6_runCount n0 a b S X R T).toInt64), fd, (g_m_runCount n0 a b M).2, ⟨n0, hI.q (qf_runCount hF h1 h40).1⟩, fun mc ms r h' K => ?_⟩
    exact l_case25 hi hn hc (k := 0) (b := nI (g_m_runCount n0 a b M).1) (d2 := 4) (mc2 := 0) (ms2 := 0) (d3 := 4) (by omega) (by decide) (by decide) (by rw [ea, eb]; exact k_L_runCount n0 a b S X R T hn0 h40 hab hb P TU q G TN fl) (by omega) (by rw [ea, eb]; exact k_m_runCount n0 a b M h1 h40 hab hb hO) (qf_runCount hF h1 h40).2 (fun _ => (if_pos rfl).trans (congrArg Int32.toInt64 (e_runCount hR hO hab hb))) K
  · -- it ends before it begins
    have e9 : (g_m_runCount_x2 (f (i + 1)) (f (i + 2)) M).2 = sI 15 2 M := by first | rfl | (rw [g_m_runCount_x2]; repeat' split) <;> rfl
    refine ⟨S, X, R, T, P, TU, q, G, TN, fl, fd, (g_m_runCount_x2 (f (i + 1)) (f (i + 2)) M).2, ⟨n0, hI.q (by rw [e9]; exact qF_15 2 hF)⟩, fun mc ms r h' K => ?_⟩
    exact l_case25 hi hn hc (k := 2) (b := (g_m_runCount_x2 (f (i + 1)) (f (i + 2)) M).1) (d2 := 11) (mc2 := 1) (ms2 := 6) (d3 := 4) (by omega) (by decide) (by decide) (k_L_runCount_x2 n0 (f (i + 1)) (f (i + 2)) S X R T hn0 h40 t1 t2 t3 P TU q G TN fl) (by omega) (k_m_runCount_x2 (f (i + 1)) (f (i + 2)) M hm t3) (by rw [e9]; exact sI_same _ _ _) (fun e => absurd e (by decide)) K
  · -- no index
    have e9 : (g_m_runCount_x1 (f (i + 1)) (f (i + 2)) M).2 = sI 15 1 M := by first | rfl | (rw [g_m_runCount_x1]; repeat' split) <;> rfl
    refine ⟨S, X, R, T, P, TU, q, G, TN, fl, fd, (g_m_runCount_x1 (f (i + 1)) (f (i + 2)) M).2, ⟨n0, hI.q (by rw [e9]; exact qF_15 1 hF)⟩, fun mc ms r h' K => ?_⟩
    exact l_case25 hi hn hc (k := 1) (b := (g_m_runCount_x1 (f (i + 1)) (f (i + 2)) M).1) (d2 := 11) (mc2 := 1) (ms2 := 6) (d3 := 4) (by omega) (by decide) (by decide) (k_L_runCount_x1 n0 (f (i + 1)) (f (i + 2)) S X R T hn0 h40 t1 P TU q G TN fl) (by omega) (k_m_runCount_x1 (f (i + 1)) (f (i + 2)) M hm) (by rw [e9]; exact sI_same _ _ _) (fun e => absurd e (by decide)) K
theorem l_step26 (hI : Inv n0 S X R T P TU q G TN M) (hi : i + 6 ≤ n) (hn : n ≤ 3072) (hd : 30 ≤ d) (hc : f i &&& 63 = 26) : lStp d i n f S X R T P TU q G TN fl fd M := by
  have hR := hI.1
  have hF := hI.2.1
  have h1 := hR.1.1.1
  have h40 := hR.1.1.2
  have hn0 := hR.1.2.1
  have hO := rel_ok hR hF
  rcases idx2 hR (f (i + 1)) (f (i + 2)) with ⟨a, b, ea, eb, hab, hb, -⟩ | ⟨⟨t1, t2, t3⟩, hm⟩ | ⟨t1, hm⟩
  · -- it answers
    refine ⟨S, X, R, T, P, TU, q, G, TN, vp_updL fl 0 (if (g_c_6_isAscending n0 a b S X R T) = true then 1 else 0), fd, (g_m_isAscending n0 a b M).2, ⟨n0, hI.q (qf_isAscending hF h1 h40).1⟩, fun mc ms r h' K => ?_⟩
    exact l_case26 hi hn hc (k := 0) (b := (g_m_isAscending n0 a b M).1) (d2 := 4) (mc2 := 0) (ms2 := 0) (d3 := 4) (by omega) (by decide) (by decide) (by rw [ea, eb]; exact k_L_isAscending n0 a b S X R T hn0 h40 hab hb P TU q G TN fl) (by omega) (by rw [ea, eb]; exact k_m_isAscending n0 a b M h1 h40 hab hb hO) (qf_isAscending hF h1 h40).2 (fun _ => (if_pos rfl).trans (by rw [e_isAscending hR hO hab hb])) K
  · -- it ends before it begins
    have e9 : (g_m_isAscending_x2 (f (i + 1)) (f (i + 2)) M).2 = sI 15 2 M := by first | rfl | (rw [g_m_isAscending_x2]; repeat' split) <;> rfl
    refine ⟨S, X, R, T, P, TU, q, G, TN, fl, fd, (g_m_isAscending_x2 (f (i + 1)) (f (i + 2)) M).2, ⟨n0, hI.q (by rw [e9]; exact qF_15 2 hF)⟩, fun mc ms r h' K => ?_⟩
    exact l_case26 hi hn hc (k := 2) (b := (g_m_isAscending_x2 (f (i + 1)) (f (i + 2)) M).1) (d2 := 11) (mc2 := 1) (ms2 := 6) (d3 := 4) (by omega) (by decide) (by decide) (k_L_isAscending_x2 n0 (f (i + 1)) (f (i + 2)) S X R T hn0 h40 t1 t2 t3 P TU q G TN fl) (by omega) (k_m_isAscending_x2 (f (i + 1)) (f (i + 2)) M hm t3) (by rw [e9]; exact sI_same _ _ _) (fun e => absurd e (by decide)) K
  · -- no index
    have e9 : (g_m_isAscending_x1 (f (i + 1)) (f (i + 2)) M).2 = sI 15 1 M := by first | rfl | (rw [g_m_isAscending_x1]; repeat' split) <;> rfl
    refine ⟨S, X, R, T, P, TU, q, G, TN, fl, fd, (g_m_isAscending_x1 (f (i + 1)) (f (i + 2)) M).2, ⟨n0, hI.q (by rw [e9]; exact qF_15 1 hF)⟩, fun mc ms r h' K => ?_⟩
    exact l_case26 hi hn hc (k := 1) (b := (g_m_isAscending_x1 (f (i + 1)) (f (i + 2)) M).1) (d2 := 11) (mc2 := 1) (ms2 := 6) (d3 := 4) (by omega) (by decide) (by decide) (k_L_isAscending_x1 n0 (f (i + 1)) (f (i + 2)) S X R T hn0 h40 t1 P TU q G TN fl) (by omega) (k_m_isAscending_x1 (f (i + 1)) (f (i + 2)) M hm) (by rw [e9]; exact sI_same _ _ _) (fun e => absurd e (by decide)) K
theorem l_step27 (hI : Inv n0 S X R T P TU q G TN M) (hi : i + 6 ≤ n) (hn : n ≤ 3072) (hd : 30 ≤ d) (hc : f i &&& 63 = 27) : lStp d i n f S X R T P TU q G TN fl fd M := by
  have hR := hI.1
  have hF := hI.2.1
  have h1 := hR.1.1.1
  have h40 := hR.1.1.2
  have hn0 := hR.1.2.1
  have hO := rel_ok hR hF
  rcases idx2 hR (f (i + 1)) (f (i + 2)) with ⟨a, b, ea, eb, hab, hb, -⟩ | ⟨⟨t1, t2, t3⟩, hm⟩ | ⟨t1, hm⟩
  · -- it answers
    refine ⟨S, X, R, T, P, TU, q, G, TN, vp_updL fl 0 (if (g_c_6_isDescending n0 a b S X R T) = true then 1 else 0), fd, (g_m_isDescending n0 a b M).2, ⟨n0, hI.q (qf_isDescending hF h1 h40).1⟩, fun mc ms r h' K => ?_⟩
    exact l_case27 hi hn hc (k := 0) (b := (g_m_isDescending n0 a b M).1) (d2 := 4) (mc2 := 0) (ms2 := 0) (d3 := 4) (by omega) (by decide) (by decide) (by rw [ea, eb]; exact k_L_isDescending n0 a b S X R T hn0 h40 hab hb P TU q G TN fl) (by omega) (by rw [ea, eb]; exact k_m_isDescending n0 a b M h1 h40 hab hb hO) (qf_isDescending hF h1 h40).2 (fun _ => (if_pos rfl).trans (by rw [e_isDescending hR hO hab hb])) K
  · -- it ends before it begins
    have e9 : (g_m_isDescending_x2 (f (i + 1)) (f (i + 2)) M).2 = sI 15 2 M := by first | rfl | (rw [g_m_isDescending_x2]; repeat' split) <;> rfl
    refine ⟨S, X, R, T, P, TU, q, G, TN, fl, fd, (g_m_isDescending_x2 (f (i + 1)) (f (i + 2)) M).2, ⟨n0, hI.q (by rw [e9]; exact qF_15 2 hF)⟩, fun mc ms r h' K => ?_⟩
    exact l_case27 hi hn hc (k := 2) (b := (g_m_isDescending_x2 (f (i + 1)) (f (i + 2)) M).1) (d2 := 11) (mc2 := 1) (ms2 := 6) (d3 := 4) (by omega) (by decide) (by decide) (k_L_isDescending_x2 n0 (f (i + 1)) (f (i + 2)) S X R T hn0 h40 t1 t2 t3 P TU q G TN fl) (by omega) (k_m_isDescending_x2 (f (i + 1)) (f (i + 2)) M hm t3) (by rw [e9]; exact sI_same _ _ _) (fun e => absurd e (by decide)) K
  · -- no index
    have e9 : (g_m_isDescending_x1 (f (i + 1)) (f (i + 2)) M).2 = sI 15 1 M := by first | rfl | (rw [g_m_isDescending_x1]; repeat' split) <;> rfl
    refine ⟨S, X, R, T, P, TU, q, G, TN, fl, fd, (g_m_isDescending_x1 (f (i + 1)) (f (i + 2)) M).2, ⟨n0, hI.q (by rw [e9]; exact qF_15 1 hF)⟩, fun mc ms r h' K => ?_⟩
    exact l_case27 hi hn hc (k := 1) (b := (g_m_isDescending_x1 (f (i + 1)) (f (i + 2)) M).1) (d2 := 11) (mc2 := 1) (ms2 := 6) (d3 := 4) (by omega) (by decide) (by decide) (k_L_isDescending_x1 n0 (f (i + 1)) (f (i + 2)) S X R T hn0 h40 t1 P TU q G TN fl) (by omega) (k_m_isDescending_x1 (f (i + 1)) (f (i + 2)) M hm) (by rw [e9]; exact sI_same _ _ _) (fun e => absurd e (by decide)) K
theorem l_step28 (hI : Inv n0 S X R T P TU q G TN M) (hi : i + 6 ≤ n) (hn : n ≤ 3072) (hd : 30 ≤ d) (hc : f i &&& 63 = 28) : lStp d i n f S X R T P TU q G TN fl fd M := by
  have hR := hI.1
  have hF := hI.2.1
  have h1 := hR.1.1.1
  have h40 := hR.1.1.2
  have hn0 := hR.1.2.1
  have hO := rel_ok hR hF
  rcases idx2 hR (f (i + 1)) (f (i + 2)) with ⟨a, b, ea, eb, hab, hb, -⟩ | ⟨⟨t1, t2, t3⟩, hm⟩ | ⟨t1, hm⟩
  · -- it answers
    refine ⟨S, X, R, T, P, TU, q, G, TN, vp_updL fl 0 ((g_c_6_steepestStep n0 a b S X R T).toInt64), fd, (g_m_steepestStep n0 a b M).2, ⟨n0, hI.q (qf_steepestStep hF h1 h40).1⟩, fun mc ms r h' K => ?_⟩
    exact l_case28 hi hn hc (k := 0) (b := (g_m_steepestStep n0 a b M).1) (d2 := 4) (mc2 := 0) (ms2 := 0) (d3 := 4) (by omega) (by decide) (by decide) (by rw [ea, eb]; exact k_L_steepestStep n0 a b S X R T hn0 h40 hab hb P TU q G TN fl) (by omega) (by rw [ea, eb]; exact k_m_steepestStep n0 a b M h1 h40 hab hb hO) (qf_steepestStep hF h1 h40).2 (fun _ => (if_pos rfl).trans (congrArg Int32.toInt64 (e_steepestStep hR hO hab hb))) K
  · -- it ends before it begins
    have e9 : (g_m_steepestStep_x2 (f (i + 1)) (f (i + 2)) M).2 = sI 15 2 M := by first | rfl | (rw [g_m_steepestStep_x2]; repeat' split) <;> rfl
    refine ⟨S, X, R, T, P, TU, q, G, TN, fl, fd, (g_m_steepestStep_x2 (f (i + 1)) (f (i + 2)) M).2, ⟨n0, hI.q (by rw [e9]; exact qF_15 2 hF)⟩, fun mc ms r h' K => ?_⟩
    exact l_case28 hi hn hc (k := 2) (b := (g_m_steepestStep_x2 (f (i + 1)) (f (i + 2)) M).1) (d2 := 11) (mc2 := 1) (ms2 := 6) (d3 := 4) (by omega) (by decide) (by decide) (k_L_steepestStep_x2 n0 (f (i + 1)) (f (i + 2)) S X R T hn0 h40 t1 t2 t3 P TU q G TN fl) (by omega) (k_m_steepestStep_x2 (f (i + 1)) (f (i + 2)) M hm t3) (by rw [e9]; exact sI_same _ _ _) (fun e => absurd e (by decide)) K
  · -- no index
    have e9 : (g_m_steepestStep_x1 (f (i + 1)) (f (i + 2)) M).2 = sI 15 1 M := by first | rfl | (rw [g_m_steepestStep_x1]; repeat' split) <;> rfl
    refine ⟨S, X, R, T, P, TU, q, G, TN, fl, fd, (g_m_steepestStep_x1 (f (i + 1)) (f (i + 2)) M).2, ⟨n0, hI.q (by rw [e9]; exact qF_15 1 hF)⟩, fun mc ms r h' K => ?_⟩
    exact l_case28 hi hn hc (k := 1) (b := (g_m_steepestStep_x1 (f (i + 1)) (f (i + 2)) M).1) (d2 := 11) (mc2 := 1) (ms2 := 6) (d3 := 4) (by omega) (by decide) (by decide) (k_L_steepestStep_x1 n0 (f (i + 1)) (f (i + 2)) S X R T hn0 h40 t1 P TU q G TN fl) (by omega) (k_m_steepestStep_x1 (f (i + 1)) (f (i + 2)) M hm) (by rw [e9]; exact sI_same _ _ _) (fun e => absurd e (by decide)) K
theorem l_step37 (hI : Inv n0 S X R T P TU q G TN M) (hi : i + 6 ≤ n) (hn : n ≤ 3072) (hd : 30 ≤ d) (hc : f i &&& 63 = 37) : lStp d i n f S X R T P TU q G TN fl fd M := by
  have hR := hI.1
  have hF := hI.2.1
  have h1 := hR.1.1.1
  have h40 := hR.1.1.2
  have hn0 := hR.1.2.1
  have hO := rel_ok hR hF
  rcases idx2 hR (f (i + 1)) (f (i + 2)) with ⟨a, b, ea, eb, hab, hb, -⟩ | ⟨⟨t1, t2, t3⟩, hm⟩ | ⟨t1, hm⟩
  · -- it answers
    refine ⟨S, X, R, T, P, TU, q, G, TN, vp_updL fl 0 ((g_c_6_distinctCount n0 a b S X R T).toInt64), fd, (g_m_distinctCount n0 a b M).2, ⟨n0, hI.q (qf_distinctCount hF h1 h40).1⟩, fun mc ms r h' K => ?_⟩
    exact l_case37 hi hn hc (k := 0) (b := nI (g_m_distinctCount n0 a b M).1) (d2 := 4) (mc2 := 0) (ms2 := 0) (d3 := 4) (by omega) (by decide) (by decide) (by rw [ea, eb]; exact k_L_distinctCount n0 a b S X R T hn0 h40 hab hb P TU q G TN fl) (by omega) (by rw [ea, eb]; exact k_m_distinctCount n0 a b M h1 h40 hab hb hO) (qf_distinctCount hF h1 h40).2 (fun _ => (if_pos rfl).trans (congrArg Int32.toInt64 (e_distinctCount hR hO hab hb))) K
  · -- it ends before it begins
    have e9 : (g_m_distinctCount_x2 (f (i + 1)) (f (i + 2)) M).2 = sI 15 2 M := by first | rfl | (rw [g_m_distinctCount_x2]; repeat' split) <;> rfl
    refine ⟨S, X, R, T, P, TU, q, G, TN, fl, fd, (g_m_distinctCount_x2 (f (i + 1)) (f (i + 2)) M).2, ⟨n0, hI.q (by rw [e9]; exact qF_15 2 hF)⟩, fun mc ms r h' K => ?_⟩
    exact l_case37 hi hn hc (k := 2) (b := (g_m_distinctCount_x2 (f (i + 1)) (f (i + 2)) M).1) (d2 := 11) (mc2 := 1) (ms2 := 6) (d3 := 4) (by omega) (by decide) (by decide) (k_L_distinctCount_x2 n0 (f (i + 1)) (f (i + 2)) S X R T hn0 h40 t1 t2 t3 P TU q G TN fl) (by omega) (k_m_distinctCount_x2 (f (i + 1)) (f (i + 2)) M hm t3) (by rw [e9]; exact sI_same _ _ _) (fun e => absurd e (by decide)) K
  · -- no index
    have e9 : (g_m_distinctCount_x1 (f (i + 1)) (f (i + 2)) M).2 = sI 15 1 M := by first | rfl | (rw [g_m_distinctCount_x1]; repeat' split) <;> rfl
    refine ⟨S, X, R, T, P, TU, q, G, TN, fl, fd, (g_m_distinctCount_x1 (f (i + 1)) (f (i + 2)) M).2, ⟨n0, hI.q (by rw [e9]; exact qF_15 1 hF)⟩, fun mc ms r h' K => ?_⟩
    exact l_case37 hi hn hc (k := 1) (b := (g_m_distinctCount_x1 (f (i + 1)) (f (i + 2)) M).1) (d2 := 11) (mc2 := 1) (ms2 := 6) (d3 := 4) (by omega) (by decide) (by decide) (k_L_distinctCount_x1 n0 (f (i + 1)) (f (i + 2)) S X R T hn0 h40 t1 P TU q G TN fl) (by omega) (k_m_distinctCount_x1 (f (i + 1)) (f (i + 2)) M hm) (by rw [e9]; exact sI_same _ _ _) (fun e => absurd e (by decide)) K
theorem l_step56 (hI : Inv n0 S X R T P TU q G TN M) (hi : i + 6 ≤ n) (hn : n ≤ 3072) (hd : 30 ≤ d) (hc : f i &&& 63 = 56) : lStp d i n f S X R T P TU q G TN fl fd M := by
  have hR := hI.1
  have hF := hI.2.1
  have h1 := hR.1.1.1
  have h40 := hR.1.1.2
  have hn0 := hR.1.2.1
  have hO := rel_ok hR hF
  rcases idx2 hR (f (i + 1)) (f (i + 2)) with ⟨a, b, ea, eb, hab, hb, -⟩ | ⟨⟨t1, t2, t3⟩, hm⟩ | ⟨t1, hm⟩
  · -- it answers
    refine ⟨S, X, R, T, P, TU, q, G, TN, vp_updL fl 0 ((g_c_6_greatestAddition n0 a b S X R T).toInt64), fd, (g_m_greatestAddition n0 a b M).2, ⟨n0, hI.q (qf_greatestAddition hF h1 h40).1⟩, fun mc ms r h' K => ?_⟩
    exact l_case56 hi hn hc (k := 0) (b := (g_m_greatestAddition n0 a b M).1) (d2 := 4) (mc2 := 0) (ms2 := 0) (d3 := 4) (by omega) (by decide) (by decide) (by rw [ea, eb]; exact k_L_greatestAddition n0 a b S X R T hn0 h40 hab hb P TU q G TN fl) (by omega) (by rw [ea, eb]; exact k_m_greatestAddition n0 a b M h1 h40 hab hb hO) (qf_greatestAddition hF h1 h40).2 (fun _ => (if_pos rfl).trans (congrArg Int32.toInt64 (e_greatestAddition hR hO hab hb))) K
  · -- it ends before it begins
    have e9 : (g_m_greatestAddition_x2 (f (i + 1)) (f (i + 2)) M).2 = sI 15 2 M := by first | rfl | (rw [g_m_greatestAddition_x2]; repeat' split) <;> rfl
    refine ⟨S, X, R, T, P, TU, q, G, TN, fl, fd, (g_m_greatestAddition_x2 (f (i + 1)) (f (i + 2)) M).2, ⟨n0, hI.q (by rw [e9]; exact qF_15 2 hF)⟩, fun mc ms r h' K => ?_⟩
    exact l_case56 hi hn hc (k := 2) (b := (g_m_greatestAddition_x2 (f (i + 1)) (f (i + 2)) M).1) (d2 := 11) (mc2 := 1) (ms2 := 6) (d3 := 4) (by omega) (by decide) (by decide) (k_L_greatestAddition_x2 n0 (f (i + 1)) (f (i + 2)) S X R T hn0 h40 t1 t2 t3 P TU q G TN fl) (by omega) (k_m_greatestAddition_x2 (f (i + 1)) (f (i + 2)) M hm t3) (by rw [e9]; exact sI_same _ _ _) (fun e => absurd e (by decide)) K
  · -- no index
    have e9 : (g_m_greatestAddition_x1 (f (i + 1)) (f (i + 2)) M).2 = sI 15 1 M := by first | rfl | (rw [g_m_greatestAddition_x1]; repeat' split) <;> rfl
    refine ⟨S, X, R, T, P, TU, q, G, TN, fl, fd, (g_m_greatestAddition_x1 (f (i + 1)) (f (i + 2)) M).2, ⟨n0, hI.q (by rw [e9]; exact qF_15 1 hF)⟩, fun mc ms r h' K => ?_⟩
    exact l_case56 hi hn hc (k := 1) (b := (g_m_greatestAddition_x1 (f (i + 1)) (f (i + 2)) M).1) (d2 := 11) (mc2 := 1) (ms2 := 6) (d3 := 4) (by omega) (by decide) (by decide) (k_L_greatestAddition_x1 n0 (f (i + 1)) (f (i + 2)) S X R T hn0 h40 t1 P TU q G TN fl) (by omega) (k_m_greatestAddition_x1 (f (i + 1)) (f (i + 2)) M hm) (by rw [e9]; exact sI_same _ _ _) (fun e => absurd e (by decide)) K
end STEP
