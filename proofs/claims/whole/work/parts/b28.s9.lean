variable {sc : SC}
/-! ===== the mean, and the share of the greatest ===== -/
theorem nn64 {x : UInt64} (h : FP.Core.dIsNaN x = false) : vf_n64 x ∧ FP.Core.dcmp x x = some .eq := by
  refine ⟨?_, FP.Core.dcmp_self ((FP.Core.notNaN_iff x).mp h)⟩
  have g := (FP.Core.ne_nan x).mp ((FP.Core.notNaN_iff x).mp h)
  unfold vf_n64
  rw [UInt64.le_iff_toNat_le, FP.Core.mask_toNat]
  exact g
theorem nn32 {x : UInt32} (h : FP.Core.fIsNaN x = false) : vf_n32 x := by
  have g := (FP.Core.ne_nan32 x).mp ((FP.Core.notNaN_iff32 x).mp h)
  unfold vf_n32
  rw [UInt32.le_iff_toNat_le, FP.Core.mask_toNat32]
  exact g
theorem nI_ne {m : Nat} (h1 : 1 ≤ m) (h2 : m < 2 ^ 31) : ¬ nI m = 0 := fun z => by
  have := congrArg Int32.toInt z
  rw [nI_toInt h2] at this
  have e0 : (0 : Int32).toInt = 0 := by decide
  omega
theorem div_n64 (s : Int64) {m : Nat} (h1 : 1 ≤ m) (h2 : m < 2 ^ 31) : FP.Core.dIsNaN (FP.Core.ddiv (FP.Core.l2d s) (FP.Core.i2d (nI m))) = false :=
  FP.Core.ddiv_out ((FP.Core.notNaN_iff _).mpr (FP.Core.l2d_fin s).ne_nan) (FP.Core.i2d_fin (nI m)) (fun z => FP.Core.i2d_ne_zero (nI_ne h1 h2) ((FP.Core.zero_bits2 _).mp z))
theorem div_n32 (s : Int32) {m : Nat} (h1 : 1 ≤ m) (h2 : m < 2 ^ 31) : FP.Core.fIsNaN (FP.Core.fdiv (FP.Core.i2f s) (FP.Core.i2f (nI m))) = false :=
  FP.Core.fdiv_out ((FP.Core.notNaN_iff32 _).mpr (FP.Core.i2f_fin s).ne_nan) (FP.Core.i2f_fin (nI m)) (fun z => FP.Core.i2f_ne_zero (nI_ne h1 h2) ((FP.Core.zero_bits232 _).mp z))
section STEP
variable {d i : Nat} {S X R : ZS} {T : TS} {P : ZS} {TU : TS} {q : Nat} {G : Nat → TS} {TN : TS} {fl : Nat → Int64} {fd : Nat → UInt64} {n : Nat} {f : Nat → Int32} {M : ZS} {n0 : Nat}
theorem l_step29 (hI : Inv n0 S X R T P TU q G TN M) (hi : i + 6 ≤ n) (hn : n ≤ 3072) (hd : 30 ≤ d) (hc : f i &&& 63 = 29) : lStp d i n f S X R T P TU q G TN fl fd M := by
  have hR := hI.1
  have hF := hI.2.1
  have h1 := hR.1.1.1
  have h40 := hR.1.1.2
  have hn0 := hR.1.2.1
  have hO := rel_ok hR hF
  rcases idx2 hR (f (i + 1)) (f (i + 2)) with ⟨a, b, ea, eb, hab, hb, hm⟩ | ⟨⟨t1, t2, t3⟩, hm⟩ | ⟨t1, hm⟩
  · have em := e_mean (S := S) (X := X) (R := R) hR hO hab hb
    have en : FP.Core.dIsNaN (g_c_6_mean n0 a b S X R T) = false := div_n64 _ (by omega) (by omega)
    have en2 : FP.Core.dIsNaN (g_m_mean n0 a b M).1 = false := by rw [← em]; exact en
    refine ⟨S, X, R, T, P, TU, q, G, TN, fl, vf_upd fd 0 (g_c_6_mean n0 a b S X R T), (g_m_mean n0 a b M).2, ⟨n0, hI.q (qf_mean hF h1 h40).1⟩, fun mc ms r h' K => ?_⟩
    exact l_case29 hi hn hc (k := 0) (b := (g_m_mean n0 a b M).1) (d2 := 4) (mc2 := 0) (ms2 := 0) (d3 := 4) (by omega) (by decide) (by decide) (by rw [ea, eb]; exact k_L_mean n0 a b S X R T hn0 h40 hab hb (nn64 en).1 P TU q G TN fd) (by omega) (by rw [ea, eb]; exact k_m_mean n0 a b M h1 h40 hab hb hO (nn64 en2).1) (qf_mean hF h1 h40).2 (fun _ => by
      have e0 : vf_upd fd 0 (g_c_6_mean n0 a b S X R T) 0 = g_c_6_mean n0 a b S X R T := if_pos rfl
      rw [e0, em]
      exact (congrArg (fun z => Op.cmpValue z .l) (nn64 en2).2).trans rfl) K
  · refine ⟨S, X, R, T, P, TU, q, G, TN, fl, fd, (g_m_mean_x2 (f (i + 1)) (f (i + 2)) M).2, ⟨n0, hI.q (qF_15 2 hF)⟩, fun mc ms r h' K => ?_⟩
    exact l_case29 hi hn hc (k := 2) (b := (g_m_mean_x2 (f (i + 1)) (f (i + 2)) M).1) (d2 := 11) (mc2 := 1) (ms2 := 6) (d3 := 4) (by omega) (by decide) (by decide) (k_L_mean_x2 n0 (f (i + 1)) (f (i + 2)) S X R T hn0 h40 t1 t2 t3 P TU q G TN fd) (by omega) (k_m_mean_x2 (f (i + 1)) (f (i + 2)) M hm t3) (sI_same _ _ _) (fun e => absurd e (by decide)) K
  · refine ⟨S, X, R, T, P, TU, q, G, TN, fl, fd, (g_m_mean_x1 (f (i + 1)) (f (i + 2)) M).2, ⟨n0, hI.q (qF_15 1 hF)⟩, fun mc ms r h' K => ?_⟩
    exact l_case29 hi hn hc (k := 1) (b := (g_m_mean_x1 (f (i + 1)) (f (i + 2)) M).1) (d2 := 11) (mc2 := 1) (ms2 := 6) (d3 := 4) (by omega) (by decide) (by decide) (k_L_mean_x1 n0 (f (i + 1)) (f (i + 2)) S X R T hn0 h40 t1 P TU q G TN fd) (by omega) (k_m_mean_x1 (f (i + 1)) (f (i + 2)) M hm) (sI_same _ _ _) (fun e => absurd e (by decide)) K
theorem l_step30 (hI : Inv n0 S X R T P TU q G TN M) (hi : i + 6 ≤ n) (hn : n ≤ 3072) (hd : 30 ≤ d) (hc : f i &&& 63 = 30) : lStp d i n f S X R T P TU q G TN fl fd M := by
  have hR := hI.1
  have hF := hI.2.1
  have h1 := hR.1.1.1
  have h40 := hR.1.1.2
  have hn0 := hR.1.2.1
  have hO := rel_ok hR hF
  rcases idx2 hR (f (i + 1)) (f (i + 2)) with ⟨a, b, ea, eb, hab, hb, hm⟩ | ⟨⟨t1, t2, t3⟩, hm⟩ | ⟨t1, hm⟩
  · have em := e_greatestShare (S := S) (X := X) (R := R) hR hO hab hb
    have en : FP.Core.fIsNaN (g_c_6_greatestShare n0 a b S X R T) = false := div_n32 _ (by omega) (by omega)
    have en2 : FP.Core.fIsNaN (g_m_greatestShare n0 a b M).1 = false := by rw [← em]; exact en
    have ed : FP.Core.dIsNaN (FP.f2d (g_c_6_greatestShare n0 a b S X R T)) = false := (FP.f2d_nan _).trans en
    have ed2 : FP.Core.dIsNaN (FP.f2d (g_m_greatestShare n0 a b M).1) = false := (FP.f2d_nan _).trans en2
    refine ⟨S, X, R, T, P, TU, q, G, TN, fl, vf_upd fd 0 (FP.f2d (g_c_6_greatestShare n0 a b S X R T)), (g_m_greatestShare n0 a b M).2, ⟨n0, hI.q (qf_greatestShare hF h1 h40).1⟩, fun mc ms r h' K => ?_⟩
    exact l_case30 hi hn hc (k := 0) (b := (g_m_greatestShare n0 a b M).1) (d2 := 4) (mc2 := 0) (ms2 := 0) (d3 := 4) (by omega) (by decide) (by decide) (by rw [ea, eb]; exact k_L_greatestShare n0 a b S X R T hn0 h40 hab hb (nn32 en) P TU q G TN fd (nn64 ed).1) (by omega) (by rw [ea, eb]; exact k_m_greatestShare n0 a b M h1 h40 hab hb hO (nn32 en2)) (qf_greatestShare hF h1 h40).2 (fun _ => ⟨(nn64 ed2).1, by
      have e0 : vf_upd fd 0 (FP.f2d (g_c_6_greatestShare n0 a b S X R T)) 0 = FP.f2d (g_c_6_greatestShare n0 a b S X R T) := if_pos rfl
      rw [e0, em]
      exact (congrArg (fun z => Op.cmpValue z .l) (nn64 ed2).2).trans rfl⟩) K
  · refine ⟨S, X, R, T, P, TU, q, G, TN, fl, fd, (g_m_greatestShare_x2 (f (i + 1)) (f (i + 2)) M).2, ⟨n0, hI.q (qF_15 2 hF)⟩, fun mc ms r h' K => ?_⟩
    exact l_case30 hi hn hc (k := 2) (b := (g_m_greatestShare_x2 (f (i + 1)) (f (i + 2)) M).1) (d2 := 11) (mc2 := 1) (ms2 := 6) (d3 := 4) (by omega) (by decide) (by decide) (k_L_greatestShare_x2 n0 (f (i + 1)) (f (i + 2)) S X R T hn0 h40 t1 t2 t3 P TU q G TN fd) (by omega) (k_m_greatestShare_x2 (f (i + 1)) (f (i + 2)) M hm t3) (sI_same _ _ _) (fun e => absurd e (by decide)) K
  · refine ⟨S, X, R, T, P, TU, q, G, TN, fl, fd, (g_m_greatestShare_x1 (f (i + 1)) (f (i + 2)) M).2, ⟨n0, hI.q (qF_15 1 hF)⟩, fun mc ms r h' K => ?_⟩
    exact l_case30 hi hn hc (k := 1) (b := (g_m_greatestShare_x1 (f (i + 1)) (f (i + 2)) M).1) (d2 := 11) (mc2 := 1) (ms2 := 6) (d3 := 4) (by omega) (by decide) (by decide) (k_L_greatestShare_x1 n0 (f (i + 1)) (f (i + 2)) S X R T hn0 h40 t1 P TU q G TN fd) (by omega) (k_m_greatestShare_x1 (f (i + 1)) (f (i + 2)) M hm) (sI_same _ _ _) (fun e => absurd e (by decide)) K
end STEP
