variable {sc : SC}
/-! ===== a round ===== -/
section RND
variable {x : Nat → Int32} {t c s p e u n : Nat} {S M : ZS} {T : TS} {h dd ts b kk : Nat} {dp : Int32}
theorem W_if {F : ZS → Bool × ZS} (fu : Nat) (N : ZS) (h6 : N.1 23 = 6) : g_m_readsRepeat_L2 dd t F dp (fu + 1) ts b kk N = (true, N) := by rw [g_m_readsRepeat_L2, if_pos h6]
theorem W_ok2 {F : ZS → Bool × ZS} (fu : Nat) (N : ZS) (h6 : ¬ N.1 23 = 6) (hT : (F N).1 = true) : g_m_readsRepeat_L2 dd t F dp (fu + 1) ts b kk N = g_m_readsRepeat_L2 dd t F dp fu ts b kk (g_m_next t (F N).2) := by rw [g_m_readsRepeat_L2, if_neg h6, if_pos hT]
theorem W_no2 {F : ZS → Bool × ZS} (fu : Nat) (N : ZS) (h6 : ¬ N.1 23 = 6) (hT : (F N).1 = false) : g_m_readsRepeat_L2 dd t F dp (fu + 1) ts b kk N = (false, (F N).2) := by rw [g_m_readsRepeat_L2, if_neg h6, if_neg (by rw [hT]; decide)]
theorem nxtM_1 {r : Bool × ZS} (h : (nxtM t r).1 = true) : r.1 = true ∧ (nxtM t r).2 = g_m_next t r.2 := by
  by_cases k : r.1 = true
  · rw [nxtM_t k]; exact ⟨k, rfl⟩
  · rw [nxtM_f (Bool.eq_false_iff.mpr k)] at h
    exact absurd h k
theorem nxtM_0 {r : Bool × ZS} (h : (nxtM t r).1 = false) : r.1 = false ∧ nxtM t r = r := by
  by_cases k : r.1 = true
  · rw [nxtM_t k] at h
    exact (Bool.false_ne_true h.symm).elim
  · have k2 := Bool.eq_false_iff.mpr k
    exact ⟨k2, nxtM_f k2⟩
/-- what is to be shown of every command -/
def CmdOut (x : Nat → Int32) (t c h : Nat) : Prop := ∀ (p e : Nat) (S : ZS) (T : TS) (M : ZS), sP x t c p e S → sNp x t p e M → Rel (mn M) T (M.2 0) → S.1 9 = nI (3 - h) → (M.1 23 = 6 → h = 3) → (M.1 23 = 0 → ¬ h = 3) → cOut x t c (3 - h) h p e S T (fun N => nxtM t (g_cmd t h N)) M
theorem W_out (hC : CmdOut x t c h) (h3 : ¬ h = 3) : ∀ (fu p e : Nat) (S : ZS) (T : TS) (M : ZS), sP x t c p e S → sNp x t p e M → Rel (mn M) T (M.2 0) → S.1 9 = nI (3 - h) → t + 1 ≤ me M + fu →
    ((g_m_readsRepeat_L2 dd t (g_cmd t h) dp fu ts b kk M).1 = true → (g_m_readsRepeat_L2 dd t (g_cmd t h) dp fu ts b kk M).2.1 23 = 6) ∧ cOut x t c (3 - h) h p e S T (fun N => g_m_readsRepeat_L2 dd t (g_cmd t h) dp fu ts b kk N) M := by
  intro fu
  induction fu with
  | zero =>
    intro p e S T M hS hN hR h9 hm
    exact absurd hN.1.1.1.2.2.2 (by omega)
  | succ fu ih =>
    intro p e S T M hS hN hR h9 hm
    by_cases k6 : M.1 23 = 6
    · have eW := W_if (dd := dd) (dp := dp) (ts := ts) (b := b) (kk := kk) (t := t) (F := g_cmd t h) fu M k6
      refine ⟨fun _ => by rw [eW]; exact k6, Or.inl ⟨by show (g_m_readsRepeat_L2 dd t (g_cmd t h) dp (fu + 1) ts b kk M).1 = true; rw [eW], 0, p, e, S, T, ?_, fun _ => ⟨rfl, fun N hN2 => ?_⟩⟩⟩
      · show rOK x t c (3 - h) h p e S T (g_m_readsRepeat_L2 dd t (g_cmd t h) dp (fu + 1) ts b kk M).2 0 p e S T
        rw [eW]
        exact ⟨sR.rfl' _ _ _ _, hS, hN, hR, ⟨h9, stk.rfl' _ _⟩, ⟨Nat.le_refl _, Nat.le_refl _⟩, by omega⟩
      · have e6 : N.1 23 = 6 := (cur_k hS hN.2.2.2.1 hN2.2.2.2.1).1.trans k6
        show (g_m_readsRepeat_L2 dd t (g_cmd t h) dp (fu + 1) ts b kk N).1 = true ∧ sNp x t p e (g_m_readsRepeat_L2 dd t (g_cmd t h) dp (fu + 1) ts b kk N).2 ∧ rwS N (g_m_readsRepeat_L2 dd t (g_cmd t h) dp (fu + 1) ts b kk N).2
        rw [W_if fu N e6]
        exact ⟨rfl, hN2, fun _ _ => rfl⟩
    · rcases hC p e S T M hS hN hR h9 (fun z => absurd z k6) (fun _ => h3) with ⟨o1, k1, q, e1, S1, T1, ⟨r1, r2, r3, r4, ⟨r5, r6⟩, ⟨r7, r8⟩, r9⟩, r10⟩ | ⟨o1, k1, S1, T1, r1, r2, r3⟩
      · obtain ⟨n1, n2⟩ := nxtM_1 (r := g_cmd t h M) o1
        have hme := (g_cmd_ok t h M hN.1).2 n1
        have hmn := me_next hme.1.tk
        have eW := W_ok2 (dd := dd) (dp := dp) (ts := ts) (b := b) (kk := kk) (t := t) (F := g_cmd t h) fu M k6 n1
        have n3 : (nxtM t (g_cmd t h M)).2 = g_m_next t (g_cmd t h M).2 := n2
        have r3' : sNp x t q e1 (nxtM t (g_cmd t h M)).2 := r3
        have r4' : Rel (mn (nxtM t (g_cmd t h M)).2) T1 ((nxtM t (g_cmd t h M)).2.2 0) := r4
        rw [n3] at r3' r4'
        obtain ⟨i1, i2⟩ := ih q e1 S1 T1 (g_m_next t (g_cmd t h M).2) r2 r3' r4' r5 (by omega)
        refine ⟨fun z => by rw [eW] at z ⊢; exact i1 z, ?_⟩
        rcases i2 with ⟨o2, k2, q2, e2, S2, T2, ⟨s1, s2, s3, s4, ⟨s5, s6⟩, ⟨s7, s8⟩, s9⟩, s10⟩ | ⟨o2, k2, S2, T2, s1, s2, s3⟩
        · refine Or.inl ⟨by show (g_m_readsRepeat_L2 dd t (g_cmd t h) dp (fu + 1) ts b kk M).1 = true; rw [eW]; exact o2, k1 + k2, q2, e2, S2, T2, ⟨r1.trans s1, s2, ?_, ?_, ⟨s5, r6.trans s6⟩, ⟨by omega, by omega⟩, by omega⟩, fun z => ?_⟩
          · show sNp x t q2 e2 (g_m_readsRepeat_L2 dd t (g_cmd t h) dp (fu + 1) ts b kk M).2
            rw [eW]; exact s3
          · show Rel (mn (g_m_readsRepeat_L2 dd t (g_cmd t h) dp (fu + 1) ts b kk M).2) T2 ((g_m_readsRepeat_L2 dd t (g_cmd t h) dp (fu + 1) ts b kk M).2.2 0)
            rw [eW]; exact s4
          · have z1 : e1 = e := by omega
            have z2 : e2 = e1 := by omega
            obtain ⟨y1, y2⟩ := r10 z1
            obtain ⟨y3, y4⟩ := s10 z2
            refine ⟨y3.trans y1, fun N hN2 => ?_⟩
            obtain ⟨w1, w2, w3⟩ := y2 N hN2
            obtain ⟨w4, w5⟩ := nxtM_1 (r := g_cmd t h N) w1
            have w5' : (nxtM t (g_cmd t h N)).2 = g_m_next t (g_cmd t h N).2 := w5
            have w2' : sNp x t q e (nxtM t (g_cmd t h N)).2 := w2
            have w3' : rwS N (nxtM t (g_cmd t h N)).2 := w3
            rw [w5'] at w2' w3'
            have e6 : ¬ N.1 23 = 6 := fun z9 => k6 ((cur_k hS hN.2.2.2.1 hN2.2.2.2.1).1.symm.trans z9)
            rw [z1] at y4
            obtain ⟨v1, v2, v3⟩ := y4 _ w2'
            show (g_m_readsRepeat_L2 dd t (g_cmd t h) dp (fu + 1) ts b kk N).1 = true ∧ sNp x t q2 e (g_m_readsRepeat_L2 dd t (g_cmd t h) dp (fu + 1) ts b kk N).2 ∧ rwS N (g_m_readsRepeat_L2 dd t (g_cmd t h) dp (fu + 1) ts b kk N).2
            rw [W_ok2 fu N e6 w4]
            exact ⟨v1, v2, fun k hk => (v3 k hk).trans (w3' k hk)⟩
        · refine Or.inr ⟨by show (g_m_readsRepeat_L2 dd t (g_cmd t h) dp (fu + 1) ts b kk M).1 = false; rw [eW]; exact o2, ?_⟩
          show rNo t c h p e S T (g_m_readsRepeat_L2 dd t (g_cmd t h) dp (fu + 1) ts b kk M).2
          rw [eW]
          exact ⟨k1 + k2, S2, T2, r1.trans s1, s2, by omega⟩
      · obtain ⟨n1, n2⟩ := nxtM_0 (r := g_cmd t h M) o1
        have eW := W_no2 (dd := dd) (dp := dp) (ts := ts) (b := b) (kk := kk) (t := t) (F := g_cmd t h) fu M k6 n1
        have r2' : Fl c S1 (nxtM t (g_cmd t h M)).2 := r2
        rw [n2] at r2'
        refine ⟨fun z => by rw [eW] at z; exact absurd z Bool.false_ne_true, Or.inr ⟨by show (g_m_readsRepeat_L2 dd t (g_cmd t h) dp (fu + 1) ts b kk M).1 = false; rw [eW], ?_⟩⟩
        show rNo t c h p e S T (g_m_readsRepeat_L2 dd t (g_cmd t h) dp (fu + 1) ts b kk M).2
        rw [eW]
        exact ⟨k1, S1, T1, r1, r2', r3⟩
/-- back to a place -/
theorem rewind {N : ZS} {B : Nat} (hP : mPar t N) (h6 : N.2 6 = x) (h27 : N.1 27 = nI e ∧ N.1 12 = -1) (h11 : N.1 11 = 0) (hl : tkP x t B ≤ t) : sNp x t B e (g_m_next t (sI 25 (nI (tkP x t B)) N)) ∧ (g_m_next t (sI 25 (nI (tkP x t B)) N)).2 = N.2 := by
  subst h6
  have hT := (par_set hP hl).1
  have k := kp_next hT
  refine ⟨⟨par_setnext hP hl, lx_next hT, by rw [next_2 hT]; rfl, ?_, ?_, ?_⟩, next_2 hT⟩
  · exact cur_next hT (sI_same _ _ _) hl
  · exact ⟨(k.1 27 (by decide) (by decide) (by decide) (by decide) (by decide) (by decide)).trans ((sI_o (by decide)).trans h27.1), (next_err hT).2.trans ((sI_o (by decide)).trans h27.2)⟩
  · exact (next_err hT).1.trans ((sI_o (by decide)).trans h11)
theorem sNp.next (hN : sNp x t p e M) (ho : tkO x t p < t) : sNp x t (p + 1) e (g_m_next t M) := ⟨par_next hN.1, hN.2.next ho⟩
theorem L1_s {F : ZS → Bool × ZS} (r bb : Nat) (N : ZS) (hT : (g_m_readsRepeat_L2 dd t F dp 601 ts bb kk (g_m_next t (sI 25 (nI bb) N))).1 = true) : g_m_readsRepeat_L1 dd t F dp (r + 1) ts bb kk N = g_m_readsRepeat_L1 dd t F dp r ts bb (kk + 1) (g_m_readsRepeat_L2 dd t F dp 601 ts bb kk (g_m_next t (sI 25 (nI bb) N))).2 := by rw [g_m_readsRepeat_L1, if_pos hT]
theorem L1_n {F : ZS → Bool × ZS} (r bb : Nat) (N : ZS) (hT : (g_m_readsRepeat_L2 dd t F dp 601 ts bb kk (g_m_next t (sI 25 (nI bb) N))).1 = false) : g_m_readsRepeat_L1 dd t F dp (r + 1) ts bb kk N = (false, (g_m_readsRepeat_L2 dd t F dp 601 ts bb kk (g_m_next t (sI 25 (nI bb) N))).2) := by rw [g_m_readsRepeat_L1, if_neg (by rw [hT]; decide)]
/-- L2 doesn't look at these -/
theorem W_any {F : ZS → Bool × ZS} : ∀ (fu ts b kk ts' b' kk' : Nat) (N : ZS), g_m_readsRepeat_L2 dd t F dp fu ts b kk N = g_m_readsRepeat_L2 dd t F dp fu ts' b' kk' N := by
  intro fu
  induction fu with
  | zero => intro _ _ _ _ _ _ _; rfl
  | succ fu ih =>
    intro ts b kk ts' b' kk' N
    rw [g_m_readsRepeat_L2, g_m_readsRepeat_L2, ih ts b kk ts' b' kk']
/-- rounds without a command -/
theorem idle_r {F : ZS → Bool × ZS} {B q : Nat} (hl : tkP x t B ≤ t) (hI : Idl x t B q e (fun N => g_m_readsRepeat_L2 dd t F dp 601 ts (tkP x t B) 0 N)) : ∀ (r kk : Nat) (N : ZS), sNp x t q e N → ∃ N' k', g_m_readsRepeat_L1 dd t F dp r ts (tkP x t B) kk N = g_m_readsRepeat_L1 dd t F dp 0 ts (tkP x t B) k' N' ∧ sNp x t q e N' ∧ rwS N N' := by
  intro r
  induction r with
  | zero => intro kk N hN; exact ⟨N, kk, rfl, hN, fun _ _ => rfl⟩
  | succ r ih =>
    intro kk N hN
    obtain ⟨w1, w2⟩ := rewind hN.1 hN.2.2.1 hN.2.2.2.2.1 hN.2.2.2.2.2 hl
    obtain ⟨v1, v2, v3⟩ := hI _ w1
    have v1' : (g_m_readsRepeat_L2 dd t F dp 601 ts (tkP x t B) kk (g_m_next t (sI 25 (nI (tkP x t B)) N))).1 = true := by rw [W_any 601 ts (tkP x t B) kk ts (tkP x t B) 0]; exact v1
    have v2' : sNp x t q e (g_m_readsRepeat_L2 dd t F dp 601 ts (tkP x t B) kk (g_m_next t (sI 25 (nI (tkP x t B)) N))).2 := by rw [W_any 601 ts (tkP x t B) kk ts (tkP x t B) 0]; exact v2
    have v3' : rwS N (g_m_readsRepeat_L2 dd t F dp 601 ts (tkP x t B) kk (g_m_next t (sI 25 (nI (tkP x t B)) N))).2 := by
      rw [W_any 601 ts (tkP x t B) kk ts (tkP x t B) 0]
      intro k hk
      have := v3 k hk
      rw [w2] at this
      exact this
    obtain ⟨N', k', u1, u2, u3⟩ := ih (kk + 1) _ v2'
    exact ⟨N', k', (L1_s r _ N v1').trans u1, u2, fun k hk => (u3 k hk).trans (v3' k hk)⟩
end RND
