variable {sc : SC}
/-! ===== every command ===== -/
section ALLC
variable {x : Nat → Int32} {t c s p q e u n : Nat} {S M : ZS} {T : TS} {h dd ts B : Nat} {dp : Int32}
theorem rep_eq (hw : g_m_wordAhead t M = 7) : g_cmd t (h + 1) M = g_m_readsRepeat (13 + 2 * h) t (g_cmd t h) (nI (2 - h)) (g_m_next t M) := by
  rw [g_cmd, g_m_cmdS, if_neg (by rw [hw]; decide), if_pos hw]
theorem rep_num {F : ZS → Bool × ZS} (hf : (g_m_number t 0 1 20 M).1 = false) : g_m_readsRepeat dd t F dp M = (false, (g_m_number t 0 1 20 M).2) := by
  rw [g_m_readsRepeat, if_neg (by rw [hf]; decide)]
theorem rep_paren {F : ZS → Bool × ZS} {N : ZS} (hn : g_m_number t 0 1 20 M = (true, N)) (hf : ¬ N.1 23 = 5) : g_m_readsRepeat dd t F dp M = (false, (g_m_fail 1 N).2) := by
  rw [g_m_readsRepeat, hn, if_pos rfl]
  show (if (g_m_is 5 N).1 = true then _ else (false, (g_m_is 5 N).2)) = _
  rw [is_st hf, if_neg Bool.false_ne_true]
theorem rep_body {F : ZS → Bool × ZS} {N : ZS} {r bb : Nat} (hn : g_m_number t 0 1 20 M = (true, N)) (hf : N.1 23 = 5) (hr : mN N 0 = r) (hb : me N = bb) : g_m_readsRepeat dd t F dp M = g_m_readsRepeat_L1 dd t F dp r r bb 0 N := by
  rw [g_m_readsRepeat, hn, if_pos rfl]
  show (if (g_m_is 5 N).1 = true then g_m_readsRepeat_L1 dd t F dp (mN N 0 - 0) (mN N 0) (me N) 0 N else _) = _
  rw [is_go hf, if_pos rfl, hr, hb, Nat.sub_zero]
theorem L1_ts {F : ZS → Bool × ZS} : ∀ (r ts ts' bb kk : Nat) (N : ZS), g_m_readsRepeat_L1 dd t F dp r ts bb kk N = g_m_readsRepeat_L1 dd t F dp r ts' bb kk N := by
  intro r
  induction r with
  | zero => intro _ _ _ _ _; rfl
  | succ r ih =>
    intro ts ts' bb kk N
    rw [g_m_readsRepeat_L1, g_m_readsRepeat_L1, W_any 601 ts bb kk ts' bb kk, ih ts ts']
theorem rep_out (hC : CmdOut x t c h) (hh : h ≤ 2) (hS : sP x t c p e S) (hN : sNp x t p e M) (hR : Rel (mn M) T (M.2 0)) (h9 : S.1 9 = nI (2 - h)) (hc : g_c_4_codeAt (c + 1) p S = 8) : cOut x t c (2 - h) (h + 1) p e S T (fun N => nxtM t (g_cmd t (h + 1) N)) M := by
  have hpc : p < c := by
    have := hS.le.1
    rcases Nat.lt_or_ge p c with q | q
    · exact q
    · rw [hS.1.code, if_neg (by omega)] at hc
      exact absurd hc (by decide)
  have hw : ∀ N, sNp x t p e N → g_m_wordAhead t N = 7 := fun N hN2 => by rw [word_eq hS hN2.2, hc]; decide
  have hst := st_open (T := T) hS hc
  have hso : so S = 2 - h := so_nI h9 (by omega)
  have eO : g_c_2_openRepeat (c + 1) S T = sI 9 (nI (so S + 1)) (sA 8 (so S) ((g_c_2_expect (c + 1) 4 (g_c_2_readNumber (c + 1) 1 20 (sI 5 (nI (sp S + 1)) S) T).2 T).1 6) (sA 7 (so S) ((g_c_2_expect (c + 1) 4 (g_c_2_readNumber (c + 1) 1 20 (sI 5 (nI (sp S + 1)) S) T).2 T).1 5) (sA 6 (so S) (g_c_2_readNumber (c + 1) 1 20 (sI 5 (nI (sp S + 1)) S) T).1 (g_c_2_expect (c + 1) 4 (g_c_2_readNumber (c + 1) 1 20 (sI 5 (nI (sp S + 1)) S) T).2 T)))) := by
    rw [g_c_2_openRepeat, if_pos (by omega)]
  rw [hso, hS.1.sp] at eO
  rw [eO] at hst
  have hS1 := hS.to (q := p + 1) (by omega)
  have hN1 := hN.next (hS.ho hpc)
  have hpt := pt_s h e
  have hcc := hS.le.2
  rcases b_num (TU := T) (j := 0) (a := 1) (b := 20) hS1 hN1.2 with ⟨v, N, r1, r2, r3, r4, r5, r6, r7⟩ | ⟨r1, r2⟩
  · have hL1 := lx_number (j := 0) (a := 1) (b := 20) hN1.1.1
    rw [r1] at hL1
    have hPN : mPar t N := .of hL1 (r7.ok hN1.1.2.1) hN1.1.2.2.1 hN1.1.2.2.2
    have e20 : N.2 0 = M.2 0 := by rw [r6]; show (g_m_next t M).2 0 = _; rw [next_2 hN.1.tk]
    have hv : v = nI v.toNatClampNeg ∧ v.toNatClampNeg ≤ 20 := zI_in (b := 20) (Int32.le_trans (by decide) r3.1) r3.2 (by decide)
    obtain ⟨w, hw9⟩ : ∃ w, v.toNatClampNeg = w := ⟨_, rfl⟩
    rw [hw9] at hv
    obtain ⟨hv1, hv2⟩ := hv
    have hv3 : 1 ≤ w := by
      have := r3.1
      rw [hv1] at this
      exact (nI_leI (a := 1) (by decide) (by omega)).mp this
    obtain ⟨r, rfl⟩ : ∃ r, w = r + 1 := ⟨w - 1, by omega⟩
    have hS2 := hS1.to (q := p + 1 + 1) (by omega)
    have hat := at_is hS2.1 r5.2.2.1
    rw [r4] at hst
    dsimp only at hst
    by_cases k5 : N.1 23 = 5
    · have hp2 : p + 1 + 1 < c := at_lt hS2.1 r5.2.2.1 (by rw [k5]; decide)
      have hx := exp_go (T := T) hS2 (hat.2.2.2.1.mpr k5)
      rw [hx] at hst
      have hS3 := hS2.to (q := p + 1 + 1 + 1) (by omega)
      have q6 : (sI 5 (nI (p + 1 + 1 + 1)) (sI 5 (nI (p + 1 + 1)) (sI 5 (nI (p + 1)) S))).1 6 = nI e := hS3.2.2.1
      have q5 : (sI 5 (nI (p + 1 + 1 + 1)) (sI 5 (nI (p + 1 + 1)) (sI 5 (nI (p + 1)) S))).1 5 = nI (p + 1 + 1 + 1) := sI_same _ _ _
      have hst' : sR t c 1 S T (sI 9 (nI (2 - h + 1)) (sA 8 (2 - h) (nI e) (sA 7 (2 - h) (nI (p + 1 + 1 + 1)) (sA 6 (2 - h) v (sI 5 (nI (p + 1 + 1 + 1)) (sI 5 (nI (p + 1 + 1)) (sI 5 (nI (p + 1)) S))))))) T := by
        have := hst
        rw [q6, q5] at this
        exact this
      generalize hQ : sI 5 (nI (p + 1 + 1 + 1)) (sI 5 (nI (p + 1 + 1)) (sI 5 (nI (p + 1)) S)) = Q at hst' hS3
      have eQ : Q.2 = S.2 := by rw [← hQ]; rfl
      have hS4 : sP x t c (p + 1 + 1 + 1) e (sI 9 (nI (2 - h + 1)) (sA 8 (2 - h) (nI e) (sA 7 (2 - h) (nI (p + 1 + 1 + 1)) (sA 6 (2 - h) v Q)))) := sP_9 (sP_A (sP_A (sP_A hS3 (by decide) (by decide) (by decide)) (by decide) (by decide) (by decide)) (by decide) (by decide) (by decide))
      have a6 : (sI 9 (nI (2 - h + 1)) (sA 8 (2 - h) (nI e) (sA 7 (2 - h) (nI (p + 1 + 1 + 1)) (sA 6 (2 - h) v Q)))).2 6 (2 - h) = nI (r + 1) := by
        show (sA 8 (2 - h) (nI e) (sA 7 (2 - h) (nI (p + 1 + 1 + 1)) (sA 6 (2 - h) v Q))).2 6 (2 - h) = _
        rw [sA_x (by decide), sA_x (by decide), sA_same]; exact hv1
      have a7 : (sI 9 (nI (2 - h + 1)) (sA 8 (2 - h) (nI e) (sA 7 (2 - h) (nI (p + 1 + 1 + 1)) (sA 6 (2 - h) v Q)))).2 7 (2 - h) = nI (p + 1 + 1 + 1) := by
        show (sA 8 (2 - h) (nI e) (sA 7 (2 - h) (nI (p + 1 + 1 + 1)) (sA 6 (2 - h) v Q))).2 7 (2 - h) = _
        rw [sA_x (by decide), sA_same]
      have a8 : (sI 9 (nI (2 - h + 1)) (sA 8 (2 - h) (nI e) (sA 7 (2 - h) (nI (p + 1 + 1 + 1)) (sA 6 (2 - h) v Q)))).2 8 (2 - h) = nI e := by
        show (sA 8 (2 - h) (nI e) (sA 7 (2 - h) (nI (p + 1 + 1 + 1)) (sA 6 (2 - h) v Q))).2 8 (2 - h) = _
        rw [sA_same]
      have a9 : (sI 9 (nI (2 - h + 1)) (sA 8 (2 - h) (nI e) (sA 7 (2 - h) (nI (p + 1 + 1 + 1)) (sA 6 (2 - h) v Q)))).1 9 = nI (3 - h) := by
        rw [sI_same]; congr 1; omega
      have hk : stk (2 - h) S (sI 9 (nI (2 - h + 1)) (sA 8 (2 - h) (nI e) (sA 7 (2 - h) (nI (p + 1 + 1 + 1)) (sA 6 (2 - h) v Q)))) := fun j hj => by
        refine ⟨?_, ?_, ?_⟩
        · show (sA 8 (2 - h) (nI e) (sA 7 (2 - h) (nI (p + 1 + 1 + 1)) (sA 6 (2 - h) v Q))).2 6 j = _
          rw [sA_x (by decide), sA_x (by decide), sA_o (by omega), eQ]
        · show (sA 8 (2 - h) (nI e) (sA 7 (2 - h) (nI (p + 1 + 1 + 1)) (sA 6 (2 - h) v Q))).2 7 j = _
          rw [sA_x (by decide), sA_o (by omega), sA_x (by decide), eQ]
        · show (sA 8 (2 - h) (nI e) (sA 7 (2 - h) (nI (p + 1 + 1 + 1)) (sA 6 (2 - h) v Q))).2 8 j = _
          rw [sA_o (by omega), sA_x (by decide), sA_x (by decide), eQ]
      have hbb : ∀ N, sNp x t (p + 1 + 1) e N → me N = tkP x t (p + 1 + 1 + 1) := fun N hN9 => by
        have h600 := hN9.1.1.1.2.1
        have := tkP_c hS (p + 1 + 1 + 1) (by omega)
        exact me_nI (hN9.2.2.2.1.2.2 (hS.ho hp2)).2.1 (by omega)
      have hNN : sNp x t (p + 1 + 1) e N := ⟨hPN, r5⟩
      have hmN : mN N 0 = r + 1 := by rw [mN, r6, sA_same, hv1, nI_clamp (by omega)]
      have hR2 : Rel (mn N) T (N.2 0) := by rw [mn, e20]; exact hR
      have hL := L1_out (dd := 13 + 2 * h) (dp := nI (2 - h)) (ts := r + 1) hC hh r 0 e _ T N (by omega) hS4 a9 a6 a7 a8 hPN r5.2.1 r5.2.2.2.1 r5.2.2.2.2 hR2
      have eF : ∀ N0, sNp x t p e N0 → ∀ N2, g_m_number t 0 1 20 (g_m_next t N0) = (true, N2) → N2.1 23 = 5 → mN N2 0 = r + 1 → me N2 = tkP x t (p + 1 + 1 + 1) → nxtM t (g_cmd t (h + 1) N0) = FL (13 + 2 * h) t h (nI (2 - h)) (r + 1) (r + 1) (tkP x t (p + 1 + 1 + 1)) 0 N2 := fun N0 hN0 N2 g1 g2 g3 g4 => by
        rw [rep_eq (hw N0 hN0), rep_body g1 g2 g3 g4, FL]
      have eM := eF M hN N r1 k5 hmN (hbb N hNN)
      rcases hL with ⟨o1, k2, q2, e2, S2, T2, ⟨s1, s2, s3, s4, ⟨s5, s6⟩, ⟨s7, s8⟩, s9⟩, s10⟩ | ⟨o1, k2, S2, T2, s1, s2, s3⟩
      · left
        refine ⟨by show (nxtM t (g_cmd t (h + 1) M)).1 = true; rw [eM]; exact o1, 1 + k2, q2, e2, S2, T2, ⟨hst'.trans s1, s2, ?_, ?_, ⟨s5, hk.trans s6⟩, ⟨by omega, s8⟩, by omega⟩, fun z => ?_⟩
        · show sNp x t q2 e2 (nxtM t (g_cmd t (h + 1) M)).2
          rw [eM]; exact s3
        · show Rel (mn (nxtM t (g_cmd t (h + 1) M)).2) T2 ((nxtM t (g_cmd t (h + 1) M)).2.2 0)
          rw [eM]; exact s4
        · obtain ⟨y1, y2⟩ := s10 z
          refine ⟨y1, fun N0 hN0 => ?_⟩
          have hN01 := hN0.next (hS.ho hpc)
          rcases b_num (TU := T) (j := 0) (a := 1) (b := 20) hS1 hN01.2 with ⟨v', N2, g1, g2, g3, g4, g5, g6, g7⟩ | ⟨g1, g2⟩
          · have ev : v' = v := congrArg Prod.fst (g4.symm.trans r4)
            have hL2 := lx_number (j := 0) (a := 1) (b := 20) hN01.1.1
            rw [g1] at hL2
            have hPN2 : mPar t N2 := .of hL2 (g7.ok hN01.1.2.1) hN01.1.2.2.1 hN01.1.2.2.2
            have k52 : N2.1 23 = 5 := (cur_k hS2 r5.2.2.1 g5.2.2.1).1.trans k5
            have hm2 : mN N2 0 = r + 1 := by rw [mN, g6, sA_same, ev, hv1, nI_clamp (by omega)]
            have e0 := eF N0 hN0 N2 g1 k52 hm2 (hbb N2 ⟨hPN2, g5⟩)
            obtain ⟨v1, v2, v3⟩ := y2 N2 hPN2 g5.2.1 g5.2.2.2.1 g5.2.2.2.2
            show (nxtM t (g_cmd t (h + 1) N0)).1 = true ∧ sNp x t q2 e (nxtM t (g_cmd t (h + 1) N0)).2 ∧ rwS N0 (nxtM t (g_cmd t (h + 1) N0)).2
            rw [e0]
            refine ⟨v1, v2, fun k hk => (v3 k hk).trans ?_⟩
            rw [g6]
            show (g_m_next t N0).2 0 k = _
            rw [next_2 hN0.1.tk]
          · rw [r4] at g2
            exact (g2.1 ((sI_o (by decide)).trans hS1.2.1)).elim
      · right
        refine ⟨by show (nxtM t (g_cmd t (h + 1) M)).1 = false; rw [eM]; exact o1, ?_⟩
        show rNo t c (h + 1) p e S T (nxtM t (g_cmd t (h + 1) M)).2
        rw [eM]
        exact ⟨1 + k2, S2, T2, hst'.trans s1, s2, by omega⟩
    · have hx := exp_st (T := T) hS2 (fun z => k5 (hat.2.2.2.1.mp z))
      rw [hx] at hst
      have f := fl_of (TU := T) (v := 1) hS2.1 r5.2.2.1 hS2.2.1 r5.2.2.2.2 (by decide)
      have eM : nxtM t (g_cmd t (h + 1) M) = (false, (g_m_fail 1 N).2) := by rw [rep_eq (hw M hN), rep_paren r1 k5, nxtM_F]
      right
      refine ⟨by show (nxtM t (g_cmd t (h + 1) M)).1 = false; rw [eM], ?_⟩
      show rNo t c (h + 1) p e S T (nxtM t (g_cmd t (h + 1) M)).2
      rw [eM]
      exact ⟨1, _, _, hst, fl_sI (fl_sA (fl_sA (fl_sA f (by decide)) (by decide)) (by decide)) (by decide) (by decide), by omega⟩
  · have eM : nxtM t (g_cmd t (h + 1) M) = (false, (g_m_number t 0 1 20 (g_m_next t M)).2) := by rw [rep_eq (hw M hN), rep_num r1, nxtM_F]
    have hx : g_c_2_expect (c + 1) 4 (g_c_2_readNumber (c + 1) 1 20 (sI 5 (nI (p + 1)) S) T).2 T = (g_c_2_readNumber (c + 1) 1 20 (sI 5 (nI (p + 1)) S) T).2 := exp_err r2.1
    rw [hx] at hst
    right
    refine ⟨by show (nxtM t (g_cmd t (h + 1) M)).1 = false; rw [eM], ?_⟩
    show rNo t c (h + 1) p e S T (nxtM t (g_cmd t (h + 1) M)).2
    rw [eM]
    exact ⟨1, _, _, hst, fl_sI (fl_sA (fl_sA (fl_sA r2 (by decide)) (by decide)) (by decide)) (by decide) (by decide), by omega⟩
theorem cmd_out : ∀ h, h ≤ 3 → CmdOut x t c h := by
  intro h
  induction h with
  | zero =>
    intro _ p e S T M hS hN hR h9 k6 k0
    rcases code_rg hS with hc | hc | ⟨c1, c2, c3⟩
    · -- too deep
      have hw : g_m_wordAhead t M = 7 := by rw [word_eq hS hN.2, hc]; decide
      have eM : g_cmd t 0 M = (false, (g_m_fail 5 M).2) := by rw [g_cmd, g_m_cmd0, if_neg (by rw [hw]; decide), if_pos hw]
      have hst := st_open (T := T) hS hc
      have hso : so S = 3 := so_nI h9 (by decide)
      have eO : g_c_2_openRepeat (c + 1) S T = g_c_2_fail 5 S T := by rw [g_c_2_openRepeat, if_neg (by omega)]
      rw [eO] at hst
      have f := fl_of (TU := T) (v := 5) hS.1 hN.2.2.2.1 hS.2.1 hN.2.2.2.2.2 (by decide)
      right
      show (nxtM t (g_cmd t 0 M)).1 = false ∧ rNo t c 0 p e S T (nxtM t (g_cmd t 0 M)).2
      rw [eM, nxtM_F]
      exact ⟨rfl, 1, _, _, hst, f, by omega⟩
    · exact cmd_word hS hN hR h9 hc
    · refine cmd_none hS hN c1 c3 c2 (Or.inl (by rw [h9]; decide)) (fun z => ?_)
      exact absurd (k6 ((at_is hS.1 hN.2.2.2.1).2.2.2.2.1.mp z)) (by decide)
  | succ h ih =>
    intro h3 p e S T M hS hN hR h9 k6 k0
    have e23 : 3 - (h + 1) = 2 - h := by omega
    rcases code_rg hS with hc | hc | ⟨c1, c2, c3⟩
    · rw [e23]
      exact rep_out (ih (by omega)) (by omega) hS hN hR (by rw [← e23]; exact h9) hc
    · exact cmd_word hS hN hR h9 hc
    · refine cmd_none hS hN c1 c3 c2 ?_ (fun z => ?_)
      · by_cases k : h + 1 = 3
        · exact Or.inr (fun z => absurd k (k0 ((at_is hS.1 hN.2.2.2.1).2.2.2.2.2.mp z)))
        · left
          rw [h9]
          exact (nI_ltI (a := 0) (by decide) (by omega)).mpr (by omega)
      · have k := k6 ((at_is hS.1 hN.2.2.2.1).2.2.2.2.1.mp z)
        rw [h9, show 3 - (h + 1) = 0 by omega]
        decide
end ALLC
