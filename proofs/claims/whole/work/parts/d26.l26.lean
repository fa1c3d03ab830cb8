variable {sc : SC}
/-! ===== the reference over its first script ===== -/
section RS
variable {x : Nat → Int32} {t p q u n fu : Nat} {M N0 : ZS} {T T' : TS} {E E' : Nat → Int32} {v : Int32}
theorem r_at (h : sC x t p u M) (ho : tkO x t p < t) : M.1 23 = tkK x t p ∧ M.1 26 = tkV x t p := ⟨(h.2.2.1.2.2 ho).1, (h.2.2.1.2.2 ho).2.2⟩
theorem r_num {j : Nat} {a b : Int32} (h : sC x t p u M) (o : tkO x t p < t ∧ tkK x t p = 3 ∧ tkV x t p = v) (hab : a ≤ v ∧ v ≤ b) : ∃ N, g_m_number t j a b M = (true, N) ∧ sC x t (p + 1) u N ∧ N.2 = (sA 12 j v M).2 ∧ kp M N := by
  obtain ⟨k1, k2⟩ := r_at h o.1
  have hA := h.sA (i := j) (v := v)
  refine ⟨g_m_next t (sA 12 j v M), ?_, hA.next o.1, next_2 hA.1.tk, (kp.sA j v M).trans (kp_next hA.1.tk)⟩
  rw [g_m_number, is_go (k1.trans o.2.1), if_pos rfl, k2, o.2.2, m_in, decide_eq_true hab, if_pos rfl]
theorem r_range {f g : Nat} (h : sC x t p u M) (h0 : M.2 0 0 = nI n) (o1 : tkO x t p < t ∧ tkK x t p = 3 ∧ tkV x t p = nI f) (o2 : tkO x t (p + 1) < t ∧ tkK x t (p + 1) = 3 ∧ tkV x t (p + 1) = nI g) (hfg : f ≤ g) (hg : g < n) (h40 : n ≤ 40) : ∃ N, g_m_range t M = (true, N) ∧ sC x t (p + 2) u N ∧ N.2 0 = M.2 0 ∧ kp M N ∧ mN N 0 = f ∧ mN N 1 = g := by
  have hn1 : nI n - 1 = nI (n - 1) := pk_sub (a := n) (b := 1) (by omega)
  obtain ⟨N, r1, r2, r3, r4⟩ := r_num (j := 0) (a := 0) (b := nI (n - 1)) h o1 ⟨(nI_leI (a := 0) (by decide) (by omega)).mpr (Nat.zero_le _), (nI_leI (by omega) (by omega)).mpr (by omega)⟩
  have e0 : N.2 0 = M.2 0 := by rw [r3]; rfl
  have e12 : N.2 12 0 = nI f := by rw [r3]; exact sA_same _ _ _ _
  obtain ⟨N2, s1, s2, s3, s4⟩ := r_num (j := 1) (a := nI f) (b := nI (n - 1)) r2 o2 ⟨(nI_leI (by omega) (by omega)).mpr hfg, (nI_leI (by omega) (by omega)).mpr (by omega)⟩
  refine ⟨N2, ?_, s2, by rw [s3]; exact e0, r4.trans s4, ?_, ?_⟩
  · rw [g_m_range, s_m_range_1, h0, hn1, r1]
    show (if true = true then (if (g_m_number t 1 (N.2 12 0) (N.2 0 0 - 1) N).1 = true then (true, (g_m_number t 1 (N.2 12 0) (N.2 0 0 - 1) N).2) else (false, (g_m_number t 1 (N.2 12 0) (N.2 0 0 - 1) N).2)) else (false, N)) = _
    rw [e12, e0, h0, hn1, s1]
    rfl
  · rw [mN, s3, sA_o (by decide), e12, nI_clamp (by omega)]
  · rw [mN, s3, sA_same, nI_clamp (by omega)]
theorem r_value {j : Nat} (h : sC x t p u M) (o : tkO x t p < t ∧ tkK x t p = 3 ∧ tkV x t p = v) : ∃ N, g_m_valueAt t j M = (true, N) ∧ sC x t (p + 1) u N ∧ N.2 = (sA 12 j v M).2 ∧ kp M N := by
  obtain ⟨k1, k2⟩ := r_at h o.1
  have hA := h.sA (i := j) (v := v)
  refine ⟨g_m_next t (sA 12 j v M), ?_, hA.next o.1, next_2 hA.1.tk, (kp.sA j v M).trans (kp_next hA.1.tk)⟩
  have e4 : ¬ M.1 23 = 4 := by rw [k1, o.2.1]; decide
  rw [g_m_valueAt, g_m_signed, if_neg e4, is_go (k1.trans o.2.1)]
  simp only [if_true, k2, o.2.2]
theorem r_word {c : Int32} (h : sC x t p u M) (ho : tkO x t p < t) (hk : tkK x t p = 2) (hw : wdC x (tkO x t p) (tkP x t (p + 1)) = c) : g_m_wordAhead t M = wA c ∧ (g_m_says t 20 M = true ↔ c = 7) := by
  obtain ⟨hL, rfl, hC, h27, h11⟩ := h
  obtain ⟨k1, k2, k3⟩ := hC.2.2 ho
  have h6 := hL.tk.2.1
  have hP := tkP_le ho
  have e1 : mo M = tkO (M.2 6) t p := mo_nI hC.1 (by omega)
  have e2 : me M = tkP (M.2 6) t (p + 1) := me_nI k2 (by omega)
  refine ⟨by rw [m_word (k1.trans hk), e1, e2, hw], ?_⟩
  rw [m_spl (k1.trans hk), e1, e2, ← hw, wd_7, spl_eq _ _ _ (show zby 20 = zby 0 from rfl)]
def stQ (x : Nat → Int32) (t p u : Nat) (T : TS) (E : Nat → Int32) (M : ZS) : Prop := sNp x t p u M ∧ Rel 10 T (M.2 0) ∧ ∀ i, i < 10 → el 10 (M.2 0) 1 i = E i
theorem r_cmd {c : Int32} (h : stQ x t p u T E M) (hu : u < 200) (ow : tkO x t p < t ∧ tkK x t p = 2) (hw : wdC x (tkO x t p) (tkP x t (p + 1)) = c) (c1 : ¬ wA c = -1) (c7 : ¬ wA c = 7) : ∃ N, g_cmd t 3 M = g_bdy t 10 (wA c) N ∧ sC x t (p + 1) (u + 1) N ∧ N.2 0 = M.2 0 ∧ mOK 10 N := by
  obtain ⟨⟨hPar, hM⟩, hR, hE⟩ := h
  have hw1 := (r_word hM ow.1 ow.2 hw).1
  have hmn : mn M = 10 := mn_rel hR
  have k27 : ¬ M.1 27 = 200 := by
    rw [hM.2.2.2.1.1]
    exact fun z => absurd ((nI_eq (b := 200) (by omega) (by decide)).mp z) (by omega)
  have hM1 : sC x t p (u + 1) (sI 27 (M.1 27 + 1) M) := by
    obtain ⟨a1, a2, a3, a4, a5⟩ := hM
    exact ⟨a1.sI (by decide) (by decide) (by decide), a2, a3, ⟨by rw [sI_same, a4.1, nI_1], (sI_o (by decide)).trans a4.2⟩, (sI_o (by decide)).trans a5⟩
  refine ⟨g_m_next t (sI 27 (M.1 27 + 1) M), ?_, hM1.next ow.1, by rw [next_2 hM1.1.tk]; rfl, ?_⟩
  · rw [cmd_eq (by rw [hw1]; exact c1) (by rw [hw1]; exact c7), if_neg k27, hw1, hmn]
  · have h9 := hPar.2.1
    rw [hmn] at h9
    exact (kp_next hM1.1.tk).ok (h9.sI (by decide))
theorem r_end {R : ZS} (h : stQ x t p u T E M) (ow : tkO x t p < t ∧ tkK x t p = 2) (hc : g_cmd t 3 M = (true, R)) (hR : sC x t q (u + 1) R) (hq : tkO x t q < t) (hT : Rel 10 T' (R.2 0)) (hE : ∀ i, i < 10 → el 10 (R.2 0) 1 i = E' i) : ∃ M', g_m_readsAll_L t (fu + 1) M = g_m_readsAll_L t fu M' ∧ stQ x t (q + 1) (u + 1) T' E' M' := by
  obtain ⟨⟨hPar, hM⟩, -, -⟩ := h
  have k0 : ¬ M.1 23 = 0 := by rw [(r_at hM ow.1).1, ow.2]; decide
  have hP2 := ((g_cmd_ok t 3 M hPar).2 (by rw [hc])).1
  rw [hc] at hP2
  have e2 : (g_m_next t R).2 = R.2 := next_2 hR.1.tk
  refine ⟨g_m_next t R, ?_, ⟨par_next hP2, hR.next hq⟩, by rw [e2]; exact hT, by rw [e2]; exact hE⟩
  rw [g_m_readsAll_L, if_neg k0, hc, if_pos rfl]
theorem st_add {f g : Nat} (h : stQ x t p u T E M) (hu : u < 200) (ow : tkO x t p < t ∧ tkK x t p = 2) (hw : wdC x (tkO x t p) (tkP x t (p + 1)) = 10) (o1 : tkO x t (p + 1) < t ∧ tkK x t (p + 1) = 3 ∧ tkV x t (p + 1) = nI f) (o2 : tkO x t (p + 1 + 1) < t ∧ tkK x t (p + 1 + 1) = 3 ∧ tkV x t (p + 1 + 1) = nI g) (o3 : tkO x t (p + 1 + 2) < t ∧ tkK x t (p + 1 + 2) = 3 ∧ tkV x t (p + 1 + 2) = v) (o4 : tkO x t (p + 1 + 2 + 1) < t ∧ tkK x t (p + 1 + 2 + 1) = 1) (hfg : f ≤ g) (hg : g < 10) (hv : -9999 ≤ v ∧ v ≤ 9999) (can : tCan T f g v) (hb : ∀ i, f ≤ i → i ≤ g → bd (1 * E i + v)) : ∃ M', g_m_readsAll_L t (fu + 1) M = g_m_readsAll_L t fu M' ∧ stQ x t (p + 1 + 2 + 1 + 1) (u + 1) (tUpdate T (nI f) (nI g) 1 v).1 (fun i => if f ≤ i ∧ i ≤ g then 1 * E i + v else E i) M' := by
  obtain ⟨N, c1, c2, c3, c4⟩ := r_cmd h hu ow hw (by decide) (by decide)
  have hR := h.2.1
  have hE := h.2.2
  obtain ⟨N1, r1, r2, r3, r4, r5, r6⟩ := r_range (n := 10) c2 (by rw [c3]; exact hR.1.2.2) o1 o2 hfg hg (by decide)
  obtain ⟨N2, s1, s2, s3, s4⟩ := r_value (j := 2) r2 o3
  have e0 : N2.2 0 = M.2 0 := by rw [s3]; show N1.2 0 = _; rw [r3, c3]
  have hR2 : Rel 10 T (N2.2 0) := by rw [e0]; exact hR
  have hO2 := s4.ok (r4.ok c4)
  have eG : (g_m_grows 10 N2).2 0 = N2.2 0 := (mEq_grows (n := 10) N2 (by decide) (by decide)).2 0 (by decide) (by decide) (by decide)
  have hR3 : Rel 10 T ((g_m_grows 10 N2).2 0) := by rw [eG]; exact hR2
  have hft := w_fits hR2 hfg hg hv N2 (mGr_of (by decide) (by decide) hO2) (fun j hj => by rw [valG_el (by decide) hj, eG]; exact (hR2.2.2.2.2.2 j hj).symm)
  have hG := s2.uF (uF_grows (n := 10) N2 (by decide) (by decide))
  have e23 : (g_m_grows 10 N2).1 23 = N2.1 23 := (uF_grows (n := 10) N2 (by decide) (by decide)).1 23 (by decide) (by decide) (by decide)
  have k1 : N2.1 23 = 1 := (r_at s2 o4.1).1.trans o4.2
  have es3 : s_m_readsAdd_3 t 10 N = (g_m_updates 10 f g 1 v (g_m_grows 10 N2)).2 := by
    rw [s_m_readsAdd_3, r1]
    show (g_m_updates 10 (mN N1 0) (mN N1 1) 1 ((g_m_grows 10 (g_m_valueAt t 2 N1).2).2 12 2) (g_m_grows 10 (g_m_valueAt t 2 N1).2)).2 = _
    rw [s1, r5, r6]
    show (g_m_updates 10 f g 1 ((g_m_grows 10 N2).2 12 2) (g_m_grows 10 N2)).2 = _
    rw [(uF_grows (n := 10) N2 (by decide) (by decide)).2.1 12 (by decide) (Or.inr rfl), s3, sA_same]
  have efit : (g_m_fits 10 (mN N1 0) (mN N1 1) (N2.2 12 2) N2).1 = true := by rw [r5, r6, s3, sA_same, hft]; exact decide_eq_true can
  have est : g_m_stops true (g_m_grows 10 N2) = (true, g_m_grows 10 N2) := by rw [g_m_stops, is_go (e23.trans k1), if_pos rfl, if_pos rfl]
  have hc : g_cmd t 3 M = (true, (g_m_updates 10 f g 1 v (g_m_grows 10 N2)).2) := by
    rw [c1, show wA 10 = 1 by decide, g_bdy, if_neg (by decide), if_pos rfl, g_m_readsAdd, es3, r1]
    simp only [if_true]
    rw [s1]
    simp only [if_true, efit]
    rw [is_go k1, est]
    simp only [if_true]
  have hu1 := Rel_update (A := 1) (B := v) hR3 hg hfg (Or.inr (Or.inr rfl)) (fun j y1 y2 => by rw [eG, e0, hE j (by omega)]; exact hb j y1 y2)
  exact r_end h ow hc (hG.uF (upd_keep (by decide) (by decide) (mGr_of (by decide) (by decide) hO2).ok).1) o4.1 hu1.1 (fun i hi => by rw [upd_el (by decide) (by decide) hg hfg hi, eG, e0, hE i hi])
theorem st_assign {f g : Nat} (h : stQ x t p u T E M) (hu : u < 200) (ow : tkO x t p < t ∧ tkK x t p = 2) (hw : wdC x (tkO x t p) (tkP x t (p + 1)) = 9) (o1 : tkO x t (p + 1) < t ∧ tkK x t (p + 1) = 3 ∧ tkV x t (p + 1) = nI f) (o2 : tkO x t (p + 1 + 1) < t ∧ tkK x t (p + 1 + 1) = 3 ∧ tkV x t (p + 1 + 1) = nI g) (o3 : tkO x t (p + 1 + 2) < t ∧ tkK x t (p + 1 + 2) = 3 ∧ tkV x t (p + 1 + 2) = v) (o4 : tkO x t (p + 1 + 2 + 1) < t ∧ tkK x t (p + 1 + 2 + 1) = 1) (hfg : f ≤ g) (hg : g < 10) (hv : -9999 ≤ v ∧ v ≤ 9999) : ∃ M', g_m_readsAll_L t (fu + 1) M = g_m_readsAll_L t fu M' ∧ stQ x t (p + 1 + 2 + 1 + 1) (u + 1) (tUpdate T (nI f) (nI g) 0 v).1 (fun i => if f ≤ i ∧ i ≤ g then 0 * E i + v else E i) M' := by
  obtain ⟨N, c1, c2, c3, c4⟩ := r_cmd h hu ow hw (by decide) (by decide)
  have hR := h.2.1
  have hE := h.2.2
  obtain ⟨N1, r1, r2, r3, r4, r5, r6⟩ := r_range (n := 10) c2 (by rw [c3]; exact hR.1.2.2) o1 o2 hfg hg (by decide)
  obtain ⟨N2, s1, s2, s3, s4⟩ := r_value (j := 2) r2 o3
  have e0 : N2.2 0 = M.2 0 := by rw [s3]; show N1.2 0 = _; rw [r3, c3]
  have hR2 : Rel 10 T (N2.2 0) := by rw [e0]; exact hR
  have hO2 := s4.ok (r4.ok c4)
  have k1 : N2.1 23 = 1 := (r_at s2 o4.1).1.trans o4.2
  have es : s_m_readsAssign_1 t 10 N = (g_m_updates 10 f g 0 v N2).2 := by
    rw [s_m_readsAssign_1, r1]
    show (g_m_updates 10 (mN N1 0) (mN N1 1) 0 ((g_m_valueAt t 2 N1).2.2 12 2) (g_m_valueAt t 2 N1).2).2 = _
    rw [s1, r5, r6]
    show (g_m_updates 10 f g 0 (N2.2 12 2) N2).2 = _
    rw [s3, sA_same]
  have est : g_m_stops true N2 = (true, N2) := by rw [g_m_stops, is_go k1, if_pos rfl, if_pos rfl]
  have hc : g_cmd t 3 M = (true, (g_m_updates 10 f g 0 v N2).2) := by
    rw [c1, show wA 9 = 0 by decide, g_bdy, if_pos rfl, g_m_readsAssign, es, r1]
    simp only [if_true]
    rw [s1]
    simp only [if_true]
    rw [est]
    simp only [if_true]
  have hu1 := Rel_update (A := 0) (B := v) hR2 hg hfg (Or.inr (Or.inl rfl)) (fun j _ _ => by rw [Int32.zero_mul, Int32.zero_add]; exact bd_val hv)
  exact r_end h ow hc (s2.uF (upd_keep (by decide) (by decide) hO2).1) o4.1 hu1.1 (fun i hi => by rw [upd_el (by decide) (by decide) hg hfg hi, e0, hE i hi])
theorem st_negate {f g : Nat} (h : stQ x t p u T E M) (hu : u < 200) (ow : tkO x t p < t ∧ tkK x t p = 2) (hw : wdC x (tkO x t p) (tkP x t (p + 1)) = 11) (o1 : tkO x t (p + 1) < t ∧ tkK x t (p + 1) = 3 ∧ tkV x t (p + 1) = nI f) (o2 : tkO x t (p + 1 + 1) < t ∧ tkK x t (p + 1 + 1) = 3 ∧ tkV x t (p + 1 + 1) = nI g) (o4 : tkO x t (p + 1 + 2) < t ∧ tkK x t (p + 1 + 2) = 1) (hfg : f ≤ g) (hg : g < 10) (hb : ∀ i, f ≤ i → i ≤ g → bd (-1 * E i + 0)) : ∃ M', g_m_readsAll_L t (fu + 1) M = g_m_readsAll_L t fu M' ∧ stQ x t (p + 1 + 2 + 1) (u + 1) (tUpdate T (nI f) (nI g) (-1) 0).1 (fun i => if f ≤ i ∧ i ≤ g then -1 * E i + 0 else E i) M' := by
  obtain ⟨N, c1, c2, c3, c4⟩ := r_cmd h hu ow hw (by decide) (by decide)
  have hR := h.2.1
  have hE := h.2.2
  obtain ⟨N1, r1, r2, r3, r4, r5, r6⟩ := r_range (n := 10) c2 (by rw [c3]; exact hR.1.2.2) o1 o2 hfg hg (by decide)
  have e0 : N1.2 0 = M.2 0 := by rw [r3, c3]
  have hR2 : Rel 10 T (N1.2 0) := by rw [e0]; exact hR
  have hO2 := r4.ok c4
  have k1 : N1.1 23 = 1 := (r_at r2 o4.1).1.trans o4.2
  have es : s_m_readsNegate_1 t 10 N = (g_m_updates 10 f g (-1) 0 N1).2 := by
    rw [s_m_readsNegate_1, r1]
    show (g_m_updates 10 (mN N1 0) (mN N1 1) (-1) 0 N1).2 = _
    rw [r5, r6]
  have est : g_m_stops true N1 = (true, N1) := by rw [g_m_stops, is_go k1, if_pos rfl, if_pos rfl]
  have hc : g_cmd t 3 M = (true, (g_m_updates 10 f g (-1) 0 N1).2) := by
    rw [c1, show wA 11 = 2 by decide, g_bdy, if_neg (by decide), if_neg (by decide), if_pos rfl, g_m_readsNegate, es, r1]
    simp only [if_true]
    rw [est]
    simp only [if_true]
  have hu1 := Rel_update (A := -1) (B := 0) hR2 hg hfg (Or.inl rfl) (fun j y1 y2 => by rw [e0, hE j (by omega)]; exact hb j y1 y2)
  exact r_end h ow hc (r2.uF (upd_keep (by decide) (by decide) hO2).1) o4.1 hu1.1 (fun i hi => by rw [upd_el (by decide) (by decide) hg hfg hi, e0, hE i hi])
/-! the sequence -/
def sqS (x : Nat → Int32) (t p u n : Nat) (N0 M : ZS) : Prop := sC x t p u M ∧ M.2 0 0 = nI n ∧ (∀ i, i < n → M.2 0 (4 + i) = FV i) ∧ ∀ k, (1 ≤ k ∧ k < 4) ∨ 44 ≤ k → M.2 0 k = N0.2 0 k
theorem r_sq {b : Bool} {N : ZS} (h : sqS x t p u n N0 M) (hn : n < 40) (hs : g_m_signed t 0 M = (true, sA 12 0 v N)) (hN : sC x t q u N) (e2 : N.2 = M.2) (hv : FV n = v) (ho : tkO x t q < t) (ho2 : tkO x t (q + 1) < t) (hb : b = decide (tkK x t (q + 1) = 3 ∨ tkK x t (q + 1) = 4)) : ∃ M', g_m_readsSequence_L t (fu + 1) true n M = g_m_readsSequence_L t fu b (n + 1) M' ∧ sqS x t (q + 1) u (n + 1) N0 M' := by
  obtain ⟨hM, h0, hE, hF⟩ := h
  have hN0 := sC_A0 (i := 0) (v := nI (n + 1)) (sC_A0 (i := 4 + n) (v := v) (hN.sA (i := 0) (v := v)))
  have hNx := hN0.next ho
  have es : s_m_readsSequence_1 t n M = g_m_next t (sA 0 0 (nI (n + 1)) (sA 0 (4 + n) v (sA 12 0 v N))) := by
    rw [s_m_readsSequence_1, hs]
    show g_m_next t (sA 0 0 (nI (n + 1)) (sA 0 (4 + n) ((sA 12 0 v N).2 12 0) (sA 12 0 v N))) = _
    rw [sA_same]
  have e0 : ∀ k, (g_m_next t (sA 0 0 (nI (n + 1)) (sA 0 (4 + n) v (sA 12 0 v N)))).2 0 k = if k = 0 then nI (n + 1) else if k = 4 + n then v else M.2 0 k := fun k => by
    rw [next_2 hN0.1.tk]
    by_cases y0 : k = 0
    · rw [if_pos y0, y0, sA_same]
    · rw [if_neg y0, sA_o y0]
      by_cases y1 : k = 4 + n
      · rw [if_pos y1, y1, sA_same]
      · rw [if_neg y1, sA_o y1, sA_x (by decide), e2]
  refine ⟨g_m_next t (sA 0 0 (nI (n + 1)) (sA 0 (4 + n) v (sA 12 0 v N))), ?_, hNx, by rw [e0, if_pos rfl], fun i hi => ?_, fun k hk => ?_⟩
  · have k23 := (r_at hNx ho2).1
    rw [g_m_readsSequence_L, if_pos rfl, es, hs, if_pos rfl, if_neg (show ¬ n = 40 by omega), k23, hb]
    by_cases k3 : tkK x t (q + 1) = 3
    · rw [if_pos k3, decide_eq_true (Or.inl k3)]
    · rw [if_neg k3]
      by_cases k4 : tkK x t (q + 1) = 4
      · rw [if_pos k4, decide_eq_true (Or.inr k4)]
      · rw [if_neg k4, decide_eq_false (fun z => z.elim k3 k4)]
  · rw [e0, if_neg (by omega)]
    by_cases y : i = n
    · rw [y, if_pos rfl, hv]
    · rw [if_neg (by omega)]; exact hE i (by omega)
  · rw [e0, if_neg (by omega)]
    by_cases y : k = 4 + n
    · omega
    · rw [if_neg y]; exact hF k hk
theorem r_sq3 {b : Bool} (h : sqS x t p u n N0 M) (hn : n < 40) (o : tkO x t p < t ∧ tkK x t p = 3 ∧ tkV x t p = v) (hv : FV n = v) (ho2 : tkO x t (p + 1) < t) (hb : b = decide (tkK x t (p + 1) = 3 ∨ tkK x t (p + 1) = 4)) : ∃ M', g_m_readsSequence_L t (fu + 1) true n M = g_m_readsSequence_L t fu b (n + 1) M' ∧ sqS x t (p + 1) u (n + 1) N0 M' := by
  obtain ⟨k1, k2⟩ := r_at h.1 o.1
  have e4 : ¬ M.1 23 = 4 := by rw [k1, o.2.1]; decide
  have hs : g_m_signed t 0 M = (true, sA 12 0 v M) := by
    rw [g_m_signed, if_neg e4, is_go (k1.trans o.2.1)]
    simp only [if_true, k2, o.2.2]
  exact r_sq h hn hs h.1 rfl hv o.1 ho2 hb
theorem r_sq4 {b : Bool} {z : Int32} (h : sqS x t p u n N0 M) (hn : n < 40) (o0 : tkO x t p < t ∧ tkK x t p = 4) (o : tkO x t (p + 1) < t ∧ tkK x t (p + 1) = 3 ∧ tkV x t (p + 1) = z) (hv : FV n = -z) (ho2 : tkO x t (p + 1 + 1) < t) (hb : b = decide (tkK x t (p + 1 + 1) = 3 ∨ tkK x t (p + 1 + 1) = 4)) : ∃ M', g_m_readsSequence_L t (fu + 1) true n M = g_m_readsSequence_L t fu b (n + 1) M' ∧ sqS x t (p + 1 + 1) u (n + 1) N0 M' := by
  have k0 := (r_at h.1 o0.1).1
  have hN := h.1.next o0.1
  obtain ⟨k1, k2⟩ := r_at hN o.1
  have hs : g_m_signed t 0 M = (true, sA 12 0 (-z) (g_m_next t M)) := by
    rw [g_m_signed, if_pos (k0.trans o0.2), is_go (k1.trans o.2.1)]
    simp only [if_true, k2, o.2.2]
  exact r_sq h hn hs hN (next_2 h.1.1.tk) hv o.1 ho2 hb
end RS
