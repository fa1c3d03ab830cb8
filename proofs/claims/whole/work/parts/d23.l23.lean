variable {sc : SC}
/-! ===== runScript ===== -/
theorem rsL1 {ty p : Nat} : ∀ (fu k t : Nat) (S : ZS), k + fu = t → ∃ S', g_m_runScript_L1 ty p fu k t S = g_m_runScript_L1 ty p 0 t t S' ∧ S'.1 = S.1 ∧ (∀ j, ¬ j = 6 → S'.2 j = S.2 j) ∧ (∀ i, k ≤ i → i < t → S'.2 6 i = S.2 5 i) ∧ ∀ i, i < k → S'.2 6 i = S.2 6 i := by
  intro fu
  induction fu with
  | zero => intro k t S hk; exact ⟨S, by rw [show k = t by omega], rfl, fun _ _ => rfl, fun i a b => by omega, fun _ _ => rfl⟩
  | succ fu ih =>
    intro k t S hk
    obtain ⟨S', e1, e2, e3, e4, e5⟩ := ih (k + 1) t (sA 6 k (S.2 5 k) S) (by omega)
    refine ⟨S', e1, e2, fun j hj => (e3 j hj).trans (sA_x hj), fun i a b => ?_, fun i a => (e5 i (by omega)).trans (sA_o (by omega))⟩
    by_cases y : i = k
    · rw [e5 i (by omega), y, sA_same]
    · rw [e4 i (by omega) b, sA_x (by decide)]
theorem rsL2 {ty p : Nat} : ∀ (fu k : Nat) (S : ZS), k + fu = 300 → (g_m_runScript_L2 ty p fu k S).1 = -1 ∧ (g_m_runScript_L2 ty p fu k S).2.1 = S.1 ∧ (∀ j, ¬ j = 0 → (g_m_runScript_L2 ty p fu k S).2.2 j = S.2 j) ∧ (∀ i, k ≤ i → i < 300 → (g_m_runScript_L2 ty p fu k S).2.2 0 i = S.2 1 i) ∧ ∀ i, i < k → (g_m_runScript_L2 ty p fu k S).2.2 0 i = S.2 0 i := by
  intro fu
  induction fu with
  | zero => intro k S hk; exact ⟨rfl, rfl, fun _ _ => rfl, fun i a b => by omega, fun _ _ => rfl⟩
  | succ fu ih =>
    intro k S hk
    obtain ⟨e1, e2, e3, e4, e5⟩ := ih (k + 1) (sA 0 k (S.2 1 k) S) (by omega)
    rw [g_m_runScript_L2]
    refine ⟨e1, e2, fun j hj => (e3 j hj).trans (sA_x hj), fun i a b => ?_, fun i a => (e5 i (by omega)).trans (sA_o (by omega))⟩
    by_cases y : i = k
    · rw [e5 i (by omega), y, sA_same]
    · rw [e4 i (by omega) b, sA_x (by decide)]
theorem nI_0' : (0 : Int32) = nI 0 := rfl
section STEP
variable {d i : Nat} {S X R : ZS} {T : TS} {P : ZS} {TU : TS} {q : Nat} {G : Nat → TS} {TN : TS} {fl : Nat → Int64} {fd : Nat → UInt64} {n : Nat} {f : Nat → Int32} {M : ZS} {n0 : Nat}
theorem l_step2 (hI : Inv n0 S X R T P TU q G TN M) (hi : i + 6 ≤ n) (hn : n ≤ 3072) (hd : 30 ≤ d) (hc : f i &&& 63 = 2) : lStp d i n f S X R T P TU q G TN fl fd M := by
  have hR := hI.1
  have hF := hI.2.1
  have h1 := hR.1.1.1
  have h40 := hR.1.1.2
  obtain ⟨-, -, ⟨c, c8, hc1, hc5, hH⟩, hSn, ⟨t, t6, t2, t3, t4⟩, ⟨e1, ec, eq, e2, e3, e4, e5, e6⟩, ⟨f1, f2, f3', f4⟩⟩ := hI
  obtain ⟨S', g1, g2, g3, g4, -⟩ := rsL1 (ty := t) (p := c) t 0 t (sI 15 0 M) (by omega)
  have hk := k_m_runScript (sc := (n, f)) t c M t3 t6 hF hc5 c8
  -- what is parsed
  obtain ⟨M1, hM1⟩ : ∃ M1, M1 = g_m_begins (sI 9 0 (sI 10 (nI t) S')) := ⟨_, rfl⟩
  obtain ⟨b1, b2, b3⟩ := beg (sI 9 0 (sI 10 (nI t) S'))
  rw [← hM1] at b1 b2 b3
  have m1 : ∀ j, ¬ j = 9 → ¬ j = 10 → ¬ j = 15 → M1.1 j = M.1 j := fun j y1 y2 y3 => by
    rw [b1, sI_o y1, sI_o y2, g2, sI_o y3]
  have m2 : ∀ j, ¬ j = 1 → ¬ j = 6 → M1.2 j = M.2 j := fun j y1 y2 => by
    rw [b2 j y1]; exact (g3 j y2)
  have m9 : M1.1 9 = 0 := by rw [b1, sI_same]
  have m10 : M1.1 10 = nI t := by rw [b1, sI_o (by decide), sI_same]
  have m15 : M1.1 15 = 0 := by rw [b1, sI_o (by decide), sI_o (by decide), g2, sI_same]
  have mrow : ∀ k, k < 300 → M1.2 1 k = M.2 0 k := fun k hk => by
    rw [b3 k hk]
    show S'.2 0 k = _
    rw [g3 0 (by decide)]
    rfl
  have m6 : ∀ k, k < t → M1.2 6 k = M.2 5 k := fun k hk => by
    rw [b2 6 (by decide)]
    exact g4 k (Nat.zero_le _) hk
  have hFM : mFg M1 := hF.gF (Or.inl ⟨m1 19 (by decide) (by decide) (by decide), m2 8 (by decide) (by decide), m2 9 (by decide) (by decide), m2 10 (by decide) (by decide)⟩)
  have hX : txt t X (M1.2 6) := fun k hk => (t4 k hk).trans (m6 k hk).symm
  have hrun := run_sim (T := TU) (P := P) hX t6 ⟨eq, e4, e5⟩ m10 hFM
  obtain ⟨pp, -⟩ := parses_ok (tl := t) m10 t6 hFM
  obtain ⟨p1, p2, p3⟩ := pp
  have eL : g_m_runScript t c M = g_m_runScript_L1 t c 0 t t S' := by rw [g_m_runScript, g1]
  have eL2 : g_m_runScript_L1 t c 0 t t S' = (if (g_m_parses t M1).1 = true then ((g_m_remember c ((g_m_parses t M1).2.2 0 0) (g_m_parses t M1).2).1, (g_m_remember c ((g_m_parses t M1).2.2 0 0) (g_m_parses t M1).2).2) else g_m_runScript_L2 t c 300 0 (g_m_parses t M1).2) := by
    rw [g_m_runScript_L1, hM1]
    rfl
  have eM := eL.trans eL2
  generalize hr : g_m_parses t M1 = r at hrun p1 p2 p3 eM
  have r5 : r.2.1 5 = nI c := (p1 5 (by decide)).trans ((m1 5 (by decide) (by decide) (by decide)).trans hc5)
  have r6 : r.2.1 6 = M.1 6 := (p1 6 (by decide)).trans (m1 6 (by decide) (by decide) (by decide))
  have r9 : r.2.1 9 = 0 := (p1 9 (by decide)).trans m9
  have r14 : r.2.1 14 = M.1 14 := (p1 14 (by decide)).trans (m1 14 (by decide) (by decide) (by decide))
  have w : ∀ j, 3 ≤ j → j ≤ 7 → ¬ j = 6 → r.2.2 j = M.2 j := fun j a b y => (p2 j (by omega) b).trans (m2 j (by omega) y)
  have hFr : mFg r.2 := hFM.gF p3
  have hsn : SnapI S TN M := hSn
  rcases hrun with ⟨o1, o2, o3, o4, ⟨z, z1, z2⟩, o6⟩ | ⟨o1, cc, o2, o3, o4, o5, qq, o6, o7, o8⟩
  · -- it succeeds
    rw [if_pos o1] at eM
    have hb : ∀ k, k < 300 → r.2.2 1 k = M.2 0 k := fun k hk => (congrFun (p2 1 (by decide) (by decide)) k).trans (mrow k hk)
    have hH2 : HistI c q G (r.2.2 3) := by rw [w 3 (by decide) (by decide) (by decide)]; exact hH
    obtain ⟨u1, u2, u3, u4⟩ := remember_ok (x := r.2.2 0 0) (S := r.2) r5 c8 hR hb hH2
    generalize hV : g_m_remember c (r.2.2 0 0) r.2 = V at u1 u2 u3 u4 eM
    obtain ⟨s1, s2⟩ := remS_1 c S
    have v : ∀ j, ¬ j = 5 → V.2.1 j = r.2.1 j := fun j y => by rw [u2, upd_at, if_neg y]
    obtain ⟨nn, hnn⟩ : ∃ nn, nn = mn r.2 := ⟨_, rfl⟩
    rw [← hnn] at o6
    have hRel : Rel nn (tCopy (g_c_2_run t P X TU).2 T) (V.2.2 0) := by
      rw [u3 0 (by decide)]; exact o6.copy
    have hFV : mFg V.2 := hFr.gF (Or.inl ⟨v 19 (by decide), u3 8 (by decide), u3 9 (by decide), u3 10 (by decide)⟩)
    have hSc : ∃ cz, (g_c_2_run t P X TU).1.1 4 = nI cz ∧ cz ≤ 601 := by
      have h9 := split_ok (t := t) (S := rS0 P) (X := X) t6
      exact ⟨kc t (rS0 P) X, run_sc (t := t) (X := X) (zopq 1000000) 0 _ _ (seq_R (TU := TU) (rS_ok (S := P) (X := X) t6).1 (rS_ok t6).2.1 (rS_ok t6).2.2.1 (rS_ok t6).2.2.2), h9.2.1⟩
    obtain ⟨cz, cz1, cz2⟩ := hSc
    have hInv : Inv nn (remS c S) (g_c_3_shorten t 0 X) R (tCopy (g_c_2_run t P X TU).2 T) (g_c_2_run t P X TU).1 (g_c_2_run t P X TU).2 (remR c q) (remG c q G T) TN V.2 := by
      refine ⟨hRel, hFV, ⟨if c < 8 then c + 1 else 8, by split <;> omega, s1, by rw [u2]; rfl, u4⟩, ?_, ⟨0, Nat.zero_le _, sI_same _ _ _, (v 9 (by decide)).trans r9, fun k hk => absurd hk (Nat.not_lt_zero k)⟩, ⟨o2.trans ((v 11 (by decide)).trans o3).symm, cz, z, cz1, cz2, z1, z2, ?_⟩, ⟨f1, f2, ?_, ?_⟩⟩
      · unfold SnapI
        rw [s2, v 6 (by decide), r6, u3 4 (by decide), w 4 (by decide) (by decide) (by decide)]
        exact hsn
      · rw [g_c_2_errorOffset, if_pos o2, v 12 (by decide), o4]
      · rw [v 14 (by decide), r14]; exact f3'
      · rw [u3 7 (by decide), w 7 (by decide) (by decide) (by decide)]; exact f4
    have et : tn (g_c_2_run t P X TU).2 = V.1 := by rw [o6.1.2.1, u1, o6.1.2.2]
    refine ⟨remS c S, g_c_3_shorten t 0 X, R, _, _, _, remR c q, remG c q G T, TN, fl, fd, V.2, ⟨nn, hInv⟩, fun mc ms r' h' K => ?_⟩
    rw [eM] at hk
    exact l_case2 hi hn hc (d2 := 9) (d3 := 22) (by omega) (k_f_runScript_ok S X R T P TU q G TN t t2 t6 c hc1 c8 o2) (by omega) hk et K
  · -- it fails
    have o1' : ¬ r.1 = true := by rw [o1]; decide
    rw [if_neg o1'] at eM
    obtain ⟨u1, u2, u3, u4, -⟩ := rsL2 (ty := t) (p := c) 300 0 r.2 (by decide)
    generalize hV : g_m_runScript_L2 t c 300 0 r.2 = V at u1 u2 u3 u4 eM
    have hRel : Rel n0 T (V.2.2 0) := hR.cong (fun k hk => by
      rw [u4 k (Nat.zero_le _) hk]
      exact (congrFun (p2 1 (by decide) (by decide)) k).trans (mrow k hk))
    have hFV : mFg V.2 := hFr.gF (Or.inl ⟨by rw [u2], u3 8 (by decide), u3 9 (by decide), u3 10 (by decide)⟩)
    have hInv : Inv n0 S (g_c_3_shorten t 0 X) R T (g_c_2_run t P X TU).1 (g_c_2_run t P X TU).2 q G TN V.2 := by
      refine ⟨hRel, hFV, ⟨c, c8, hc1, by rw [u2]; exact r5, by rw [u3 3 (by decide), w 3 (by decide) (by decide) (by decide)]; exact hH⟩, ?_, ⟨0, Nat.zero_le _, sI_same _ _ _, by rw [u2]; exact r9, fun k hk => absurd hk (Nat.not_lt_zero k)⟩, ⟨by rw [u2]; exact o5, cc + 1, qq, o2, by omega, o6, by omega, ?_⟩, ⟨f1, f2, ?_, ?_⟩⟩
      · unfold SnapI
        rw [u2, r6, u3 4 (by decide), w 4 (by decide) (by decide) (by decide)]
        exact hsn
      · rw [g_c_2_errorOffset, if_neg o4, u2]; exact o8
      · rw [u2, r14]; exact f3'
      · rw [u3 7 (by decide), w 7 (by decide) (by decide) (by decide)]; exact f4
    refine ⟨S, g_c_3_shorten t 0 X, R, T, _, _, q, G, TN, fl, fd, V.2, ⟨n0, hInv⟩, fun mc ms r' h' K => ?_⟩
    rw [eM] at hk
    exact l_case2 hi hn hc (d2 := 9) (d3 := 22) (by omega) (k_f_runScript_no S X R T P TU q G TN t t2 t6 o4) (by omega) hk u1.symm K
end STEP
theorem hSc_all (n : Nat) (f : Nat → Int32) : hSc 30 n f := fun _ _ _ _ _ _ _ _ _ _ _ _ _ _ hI hi hn hd hc => l_step2 hI hi hn hd hc
