variable {sc : SC}
/-! ===== a script on both sides ===== -/
section RUN
variable {x : Nat → Int32} {t c p q e u n : Nat} {S M : ZS} {T : TS} {X : ZS}
theorem wd_7 (a b : Nat) : wdC x a b = 7 ↔ spl x a b 0 = true := by
  unfold wdC
  by_cases k : spl x a b 0 = true
  · rw [if_pos k]; exact ⟨fun _ => k, fun _ => rfl⟩
  · rw [if_neg k]
    refine ⟨fun z => ?_, fun z => absurd z k⟩
    exfalso
    revert z
    repeat' split
    all_goals decide
theorem says_sq (hS : sP x t c p e S) (hM : sC x t p u M) : g_m_says t 20 M = true ↔ g_c_4_codeAt (c + 1) p S = 7 := by
  obtain ⟨hL, rfl, hC, h27, h11⟩ := hM
  rw [hS.1.code]
  by_cases q : p < c
  · have ho := hS.ho q
    obtain ⟨k1, k2, k3⟩ := hC.2.2 ho
    have h6 := hL.tk.2.1
    have hP := tkP_le ho
    have e1 : mo M = tkO (M.2 6) t p := mo_nI hC.1 (by omega)
    have e2 : me M = tkP (M.2 6) t (p + 1) := me_nI k2 (by omega)
    have k1' : lxK (M.2 6) (tkO (M.2 6) t p) (tkP (M.2 6) t (p + 1)) = M.1 23 := k1.symm
    rw [if_pos q, tkC, tcd]
    by_cases k : M.1 23 = 2
    · rw [m_spl k, if_pos (k1'.trans k), e1, e2, wd_7, spl_eq _ _ _ (show zby 20 = zby 0 from rfl)]
    · rw [m_spl_no k, if_neg (fun z => k (k1'.symm.trans z))]
      have h := lxK_rg (M.2 6) (tkO (M.2 6) t p) (tkP (M.2 6) t (p + 1))
      generalize lxK (M.2 6) (tkO (M.2 6) t p) (tkP (M.2 6) t (p + 1)) = w at h ⊢
      refine ⟨fun z => absurd z Bool.false_ne_true, fun z => ?_⟩
      rcases h with h | h | h | h | h | h | h <;> rw [h] at z <;> exact absurd z (by decide)
  · have ep : p = c := by have := hS.le.1; omega
    have ho : tkO (M.2 6) t p = t := by rw [ep]; exact hS.en
    have k : ¬ M.1 23 = 2 := by rw [(hC.2.1 ho).1]; decide
    rw [m_spl_no k, if_neg q]
    exact ⟨fun z => absurd z Bool.false_ne_true, fun z => absurd z (by decide)⟩
theorem run_stop (h : g_c_2_goesOn c S T = false) : ∀ fu j, g_c_2_run_L t fu j c S X T = (S, T) := by
  intro fu j
  cases fu with
  | zero => rfl
  | succ fu => rw [g_c_2_run_L, if_neg (by rw [h]; decide)]
theorem goes_no (h : ¬ S.1 7 = 0) : g_c_2_goesOn c S T = false := by rw [g_c_2_goesOn, if_neg h]
/-- the commands, to the end -/
theorem all_out : ∀ (fu p e : Nat) (S : ZS) (T : TS) (M : ZS), sP x t c p e S → sNp x t p e M → Rel (mn M) T (M.2 0) → S.1 9 = nI 0 → t + 1 ≤ me M + fu →
    ((g_m_readsAll_L t fu M).1 = true ∧ ∃ k q e' S' T', sR t c k S T S' T' ∧ sP x t c q e' S' ∧ g_c_2_goesOn (c + 1) S' T' = false ∧ sC x t q e' (g_m_readsAll_L t fu M).2 ∧ Rel (mn (g_m_readsAll_L t fu M).2) T' ((g_m_readsAll_L t fu M).2.2 0) ∧ k ≤ pt 3 e + (602 - p)) ∨ ((g_m_readsAll_L t fu M).1 = false ∧ rNo t c 3 p e S T (g_m_readsAll_L t fu M).2) := by
  intro fu
  induction fu with
  | zero =>
    intro p e S T M hS hN hR h9 hm
    exact absurd hN.1.1.1.2.2.2 (by omega)
  | succ fu ih =>
    intro p e S T M hS hN hR h9 hm
    rw [g_m_readsAll_L]
    by_cases k0 : M.1 23 = 0
    · rw [if_pos k0]
      refine Or.inl ⟨rfl, 0, p, e, S, T, sR.rfl' _ _ _ _, hS, ?_, hN.2, hR, Nat.zero_le _⟩
      rw [g_c_2_goesOn, if_pos hS.2.1, h9, if_neg (by decide), if_pos ((c_isAt hS.1).mpr ((at_is hS.1 hN.2.2.2.1).2.2.2.2.2.mpr k0))]
    · rw [if_neg k0]
      rcases cmd_out 3 (Nat.le_refl _) p e S T M hS hN hR h9 (fun _ => rfl) (fun z => absurd z k0) with ⟨o1, k1, q, e1, S1, T1, ⟨r1, r2, r3, r4, ⟨r5, r6⟩, ⟨r7, r8⟩, r9⟩, r10⟩ | ⟨o1, k1, S1, T1, r1, r2, r3⟩
      · obtain ⟨n1, n2⟩ := nxtM_1 (r := g_cmd t 3 M) o1
        have hme := (g_cmd_ok t 3 M hN.1).2 n1
        have hmn := me_next hme.1.tk
        have n3 : (nxtM t (g_cmd t 3 M)).2 = g_m_next t (g_cmd t 3 M).2 := n2
        have r3' : sNp x t q e1 (nxtM t (g_cmd t 3 M)).2 := r3
        have r4' : Rel (mn (nxtM t (g_cmd t 3 M)).2) T1 ((nxtM t (g_cmd t 3 M)).2.2 0) := r4
        rw [n3] at r3' r4'
        rw [if_pos n1]
        rcases ih q e1 S1 T1 (g_m_next t (g_cmd t 3 M).2) r2 r3' r4' r5 (by omega) with ⟨o2, k2, q2, e2, S2, T2, s1, s2, s3, s4, s5, s6⟩ | ⟨o2, k2, S2, T2, s1, s2, s3⟩
        · exact Or.inl ⟨o2, k1 + k2, q2, e2, S2, T2, r1.trans s1, s2, s3, s4, s5, by omega⟩
        · exact Or.inr ⟨o2, k1 + k2, S2, T2, r1.trans s1, s2, by omega⟩
      · obtain ⟨n1, n2⟩ := nxtM_0 (r := g_cmd t 3 M) o1
        have r2' : Fl c S1 (nxtM t (g_cmd t 3 M)).2 := r2
        rw [n2] at r2'
        rw [if_neg (by rw [n1]; decide)]
        exact Or.inr ⟨rfl, k1, S1, T1, r1, r2', r3⟩
/-- how the class's count of tokens stays -/
theorem run_sc : ∀ fu j S T, scR c S T → (g_c_2_run_L t fu j c S X T).1.1 4 = nI c := by
  intro fu
  induction fu with
  | zero => intro j S T h; exact h.1.1
  | succ fu ih =>
    intro j S T h
    rw [g_c_2_run_L]
    split
    next g =>
      have h7 := goes_ok g
      have hT := h.2.2.2.2.2 h7
      split
      next l =>
        split
        next e8 => exact ih _ _ _ (open_R h (code_lt (by rw [e8]; decide)) hT)
        next e8 =>
          split
          next e5 =>
            split
            next z => exact ih _ _ _ (fail_R h (by decide))
            next z =>
              have hz := so_pred h.2.2.1.1 h.2.2.1.2 (Int32.not_le.mp z)
              exact ih _ _ _ (close_R h hz.1 hz.2 (code_lt (by rw [e5]; decide)) hT)
          next e5 => exact ih _ _ _ (fail_R h (by decide))
      next l => exact ih _ _ _ (cmd_R h (code_lt (fun z => l (by rw [z]; decide))) hT)
    next g => exact h.1.1
theorem tkO_ge (x : Nat → Int32) (t : Nat) : ∀ i, (∀ j, j < i → tkO x t j < t) → i ≤ tkO x t i := by
  intro i
  induction i with
  | zero => intro _; exact Nat.zero_le _
  | succ i ih =>
    intro h
    have h1 := ih (fun j hj => h j (by omega))
    have h2 := tkP_le (h i (by omega))
    have h3 := lxO_le x h2.1
    show i + 1 ≤ lxO x t (tkP x t (i + 1))
    omega
/-- the class as a run begins -/
theorem split_sP {P : ZS} (hX : txt t X x) (h6 : t ≤ 600) (h8 : s8 P) : ∃ c, kc t (rS0 P) X = c + 1 ∧ sP x t c 0 0 (g_c_4_split t (rS0 P) X) ∧ (g_c_4_split t (rS0 P) X).1 9 = nI 0 := by
  obtain ⟨c', s1, s2, s3, s4, s5, s6⟩ := split_tk (x := x) hX t 0 0 0 (sI 4 0 (rS0 P)) (by omega) (Nat.zero_le _) rfl (Or.inr ⟨Nat.le_refl _, rfl⟩) (fun i hi => absurd hi (Nat.not_lt_zero i))
  obtain ⟨k1, k2, k3, k4, -⟩ := split_ok (t := t) (S := rS0 P) (X := X) h6
  have s1' : (g_c_4_split t (rS0 P) X).1 4 = nI (c' + 1) := s1
  have s2' : TkR x t c' (g_c_4_split t (rS0 P) X) := s2
  have hc : c' ≤ 600 := by
    have := tkO_ge x t c' (fun j hj => (s2 j hj).1)
    omega
  have ek : kc t (rS0 P) X = c' + 1 := by rw [kc, s1', nI_clamp (by omega)]
  refine ⟨c', ek, ⟨⟨s2', s1', ⟨s4, s5, s6⟩, s3, hc, (k4 5 (by decide)).trans rfl, Nat.zero_le _⟩, (k4 7 (by decide)).trans rfl, (k4 6 (by decide)).trans rfl, ⟨Nat.zero_le _, h8.of (k4 8 (by decide))⟩, by rw [← ek]; exact k3⟩, (k4 9 (by decide)).trans rfl⟩
/-- the reference as a parse begins -/
theorem parses_eq : ∀ (fu k : Nat) (S : ZS), k + fu = 300 → ∃ S', g_m_parses_L t fu k S = g_m_readsAll t (g_m_next t (pX S')) ∧ S'.1 = S.1 ∧ (∀ j, ¬ j = 0 → S'.2 j = S.2 j) ∧ (∀ i, k ≤ i → i < 300 → S'.2 0 i = 0) ∧ ∀ i, i < k → S'.2 0 i = S.2 0 i := by
  intro fu
  induction fu with
  | zero => intro k S hk; exact ⟨S, rfl, rfl, fun _ _ => rfl, fun i a b => by omega, fun _ _ => rfl⟩
  | succ fu ih =>
    intro k S hk
    obtain ⟨S', e1, e2, e3, e4, e5⟩ := ih (k + 1) (sA 0 k 0 S) (by omega)
    refine ⟨S', e1, e2, fun j hj => (e3 j hj).trans (sA_x hj), fun i a b => ?_, fun i a => (e5 i (by omega)).trans (sA_o (by omega))⟩
    by_cases y : i = k
    · rw [e5 i (by omega), y, sA_same]
    · exact e4 i (by omega) b
theorem parse_begin (h6 : t ≤ 600) (ht : M.1 10 = nI t) (hF : mFg M) : ∃ N, g_m_parses t M = g_m_readsAll t N ∧ mLx t N ∧ mFg N ∧ sC (M.2 6) t 0 0 N ∧ (∀ y, y < 44 → N.2 0 y = 0) ∧ ∀ j, j < 128 → N.2 0 (44 + j) = 1 ∧ N.2 0 (172 + j) = 0 := by
  obtain ⟨M', e1, e2, e3, e4, -⟩ := parses_eq (t := t) 300 0 M (by omega)
  have x6 : M'.2 6 = M.2 6 := e3 6 (by decide)
  have hpar : g_m_parses t M = g_m_readsAll t (g_m_next t (pX M')) := e1
  have hT := pX_tk (S := M') (by rw [e2]; exact ht) h6
  have hFM : mFg M' := hF.gF (Or.inl ⟨by rw [e2], e3 8 (by decide), e3 9 (by decide), e3 10 (by decide)⟩)
  have hF2 := (pX_fg hFM).gF (kp_next hT).gF
  have pX6 : (pX M').2 6 = M.2 6 := by
    have := (pX_pF M').2.1 6 (by decide) (by decide)
    rw [this, x6]
  have hL0 := lx_next hT
  have r0 : (g_m_next t (pX M')).2 = (pX M').2 := next_2 hT
  have hM0 : sC (M.2 6) t 0 0 (g_m_next t (pX M')) := by
    have k := kp_next hT
    have hC := cur_next (p := 0) hT rfl (Nat.zero_le _)
    rw [pX6] at hC
    exact ⟨hL0, by rw [r0, pX6], hC, ⟨(k.1 27 (by decide) (by decide) (by decide) (by decide) (by decide) (by decide)).trans rfl, (next_err hT).2.trans rfl⟩, (next_err hT).1.trans rfl⟩
  obtain ⟨c1, c2, -⟩ := clr 128 0 M' (by decide)
  have hcl : (pX M').2 0 = (g_m_clearMarks_L 128 0 M').2 0 := by
    show (g_m_clearMarks M').2 0 = _
    rw [g_m_clearMarks, zopq_eq]
  exact ⟨g_m_next t (pX M'), hpar, hL0, hF2, hM0, fun y hy => by rw [r0, hcl, c1 y hy]; exact e4 y (Nat.zero_le _) (by omega), fun j hj => by rw [r0, hcl]; exact c2 j (Nat.zero_le _) hj⟩
/-- what a run comes to -/
def runO (R : ZS × TS) (r : Bool × ZS) : Prop :=
  (r.1 = true ∧ R.1.1 7 = 0 ∧ r.2.1 11 = 0 ∧ r.2.1 12 = -1 ∧ s8 R.1 ∧ Rel (mn r.2) R.2 (r.2.2 0)) ∨ (r.1 = false ∧ ∃ c, R.1.1 4 = nI (c + 1) ∧ c ≤ 600 ∧ Fl c R.1 r.2)
theorem run_sim {P : ZS} (hX : txt t X (M.2 6)) (h6 : t ≤ 600) (h8 : s8 P) (ht : M.1 10 = nI t) (hF : mFg M) : runO (g_c_2_run t P X T) (g_m_parses t M) := by
  obtain ⟨N, hpar, hL0, hF2, hM0, rlo, rhi⟩ := parse_begin h6 ht hF
  obtain ⟨c, ek, hS, h9⟩ := split_sP (P := P) hX h6 h8
  have hsc := run_sc (t := t) (X := X) (zopq 1000000) 0 _ _ (seq_R (TU := T) (rS_ok (S := P) (X := X) h6).1 (rS_ok h6).2.1 (rS_ok h6).2.2.1 (rS_ok h6).2.2.2)
  have hrun : g_c_2_run t P X T = g_c_2_run_L t (zopq 1000000) 0 (c + 1) (g_c_2_readSequence (c + 1) (g_c_4_split t (rS0 P) X) T).1 X (g_c_2_readSequence (c + 1) (g_c_4_split t (rS0 P) X) T).2 := by rw [g_c_2_run, ek]
  rw [ek] at hsc
  have hc6 := hS.le.2
  have hc0 : N.2 0 0 = 0 := rlo 0 (by decide)
  rw [hrun, hpar, g_m_readsAll]
  have hseqe : g_c_2_readSequence (c + 1) (g_c_4_split t (rS0 P) X) T = g_c_2_readSequence_L (c + 1) 41 0 0 (g_c_2_expect (c + 1) 7 (g_c_4_split t (rS0 P) X) T) T := rfl
  rw [hseqe] at hsc ⊢
  generalize g_c_4_split t (rS0 P) X = Q at hS h9 hsc ⊢
  by_cases k7 : g_c_4_codeAt (c + 1) 0 Q = 7
  · have hp : 0 < c := by
      rcases Nat.lt_or_ge 0 c with y | y
      · exact y
      · rw [hS.1.code, if_neg (by omega)] at k7
        exact absurd k7 (by decide)
    have hS1 := hS.to (q := 0 + 1) (by omega)
    have hM1 := hM0.next (hS.ho hp)
    have n2 : (g_m_next t N).2 = N.2 := next_2 hL0.tk
    have eq1 : g_m_readsSequence t N = g_m_readsSequence_L t 41 true 0 (g_m_next t N) := by rw [g_m_readsSequence, if_pos ((says_sq hS hM0).mpr k7)]
    have h0 : (g_m_next t N).2 0 0 = nI 0 := by rw [n2, hc0]; rfl
    have hseq := seq_sim (T := T) 41 0 true (0 + 1) _ _ (by decide) (by decide) hS1 hM1 h0 (fun i hi => absurd hi (Nat.not_lt_zero i)) (Or.inl ⟨rfl, rfl⟩)
    rw [exp_go hS k7] at hsc ⊢
    rw [← eq1] at hseq
    generalize g_c_2_readSequence_L (c + 1) 41 0 0 (sI 5 (nI (0 + 1)) Q) T = R at hseq hsc ⊢
    rcases hseq with ⟨o1, q, m, m1, m2, m3, m4, m5, m6, m7, m8, m9, m10⟩ | ⟨o1, o2⟩
    · have hPar := seq_par hL0 hF2 hc0 o1
      rw [if_pos o1]
      have hRel : Rel m R.2 ((g_m_readsSequence t N).2.2 0) := by
        rw [m10]
        refine Rel_build m1 m2 ⟨fun k k1 k2 => ?_, fun i hi => ?_⟩ (fun i hi => ?_) ⟨m7, ?_, ?_, ?_⟩
        · rw [m9 (44 + k) (by omega), m9 (172 + k) (by omega), n2]
          exact rhi k k2
        · have e : va_cpy (R.1.2 5) (tva (tClear T)) 0 0 m i = R.1.2 5 i := by
            show (if 0 ≤ i ∧ i < 0 + m then R.1.2 5 (0 + (i - 0)) else tva (tClear T) i) = _
            rw [if_pos ⟨Nat.zero_le _, by omega⟩, Nat.sub_zero, Nat.zero_add]
          rw [e]; exact (m8 i hi).1
        · have e : va_cpy (R.1.2 5) (tva (tClear T)) 0 0 m i = R.1.2 5 i := by
            show (if 0 ≤ i ∧ i < 0 + m then R.1.2 5 (0 + (i - 0)) else tva (tClear T) i) = _
            rw [if_pos ⟨Nat.zero_le _, by omega⟩, Nat.sub_zero, Nat.zero_add]
          rw [e]; exact (m8 i hi).2
        · exact (m9 1 (by omega)).trans ((congrFun (congrFun n2 0) 1).trans (rlo 1 (by decide)))
        · exact (m9 2 (by omega)).trans ((congrFun (congrFun n2 0) 2).trans (rlo 2 (by decide)))
        · exact (m9 3 (by omega)).trans ((congrFun (congrFun n2 0) 3).trans (rlo 3 (by decide)))
      have e20 : (g_m_next t (g_m_readsSequence t N).2).2 = (g_m_readsSequence t N).2.2 := next_2 hPar.tk
      have hRel2 : Rel (mn (g_m_next t (g_m_readsSequence t N).2)) R.2 ((g_m_next t (g_m_readsSequence t N).2).2 0) := by
        have e9 : mn (g_m_next t (g_m_readsSequence t N).2) = m := by rw [mn, e20]; exact mn_rel hRel
        rw [e9, e20]; exact hRel
      have h9R : R.1.1 9 = nI 0 := m6.trans ((sI_o (by decide)).trans h9)
      have hzq := zopq_eq 1000000
      have hpt : pt 3 0 = 361200 := rfl
      rcases all_out 601 (q + 1) 0 R.1 R.2 _ m4 ⟨par_next hPar, m5.next (hS.ho m3)⟩ hRel2 h9R (by omega) with ⟨a1, k, q', e', S', T', a2, a3, a4, a5, a6, a7⟩ | ⟨a1, k, S', T', a2, a3, a4⟩
      · have er : g_c_2_run_L t (zopq 1000000) 0 (c + 1) R.1 X R.2 = (S', T') := by
          have e1 := a2 (zopq 1000000 - k) 0 X
          rw [show (zopq 1000000 - k) + k = zopq 1000000 by omega] at e1
          exact e1.trans (run_stop a4 _ _)
        rw [er]
        exact Or.inl ⟨a1, a3.2.1, a5.2.2.2.2, a5.2.2.2.1.2, a3.2.2.2.1.2, a6⟩
      · have er : g_c_2_run_L t (zopq 1000000) 0 (c + 1) R.1 X R.2 = (S', T') := by
          have e1 := a2 (zopq 1000000 - k) 0 X
          rw [show (zopq 1000000 - k) + k = zopq 1000000 by omega] at e1
          exact e1.trans (run_stop (goes_no a3.1) _ _)
        rw [er] at hsc ⊢
        exact Or.inr ⟨a1, c, hsc, hc6, a3⟩
    · have er := run_stop (t := t) (X := X) (T := R.2) (goes_no (c := c + 1) (T := R.2) o2.1) (zopq 1000000) 0
      rw [er] at hsc ⊢
      rw [if_neg (by rw [o1]; decide)]
      exact Or.inr ⟨rfl, c, hsc, hc6, o2⟩
  · have f := fl_of (TU := T) (v := 1) hS.1 hM0.2.2.1 hS.2.1 hM0.2.2.2.2 (by decide)
    have eq1 : g_m_readsSequence t N = (false, (g_m_fail 1 N).2) := by rw [g_m_readsSequence, if_neg (fun z => k7 ((says_sq hS hM0).mp z))]
    rw [exp_st hS k7, seqL_no f.1] at hsc ⊢
    have er := run_stop (t := t) (X := X) (T := T) (goes_no (c := c + 1) (T := T) f.1) (zopq 1000000) 0
    rw [er] at hsc ⊢
    rw [eq1, if_neg Bool.false_ne_true]
    exact Or.inr ⟨rfl, c, hsc, hc6, f⟩
end RUN
