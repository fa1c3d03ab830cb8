variable {sc : SC}
/-! ===== a repeat ===== -/
section REP
variable {x : Nat → Int32} {t c s p q e u n : Nat} {S M : ZS} {T : TS} {h dd ts B : Nat} {dp : Int32}
theorem sP_A {j i : Nat} {v : Int32} (hS : sP x t c p e S) (h2 : ¬ 2 = j) (h3 : ¬ 3 = j) (h4 : ¬ 4 = j) : sP x t c p e (sA j i v S) := by
  obtain ⟨⟨a, b, ⟨d1, d2, d3⟩, e1, f, g, k⟩, h7, h6, hh, hN⟩ := hS
  have w2 : (sA j i v S).2 2 = S.2 2 := sA_x h2
  have w3 : (sA j i v S).2 3 = S.2 3 := sA_x h3
  have w4 : (sA j i v S).2 4 = S.2 4 := sA_x h4
  exact ⟨⟨fun i2 hi => by rw [w2, w3, w4]; exact a i2 hi, b, ⟨by rw [w2]; exact d1, by rw [w3]; exact d2, by rw [w4]; exact d3⟩, e1, f, g, k⟩, h7, h6, hh, hN.of w4⟩
theorem sP_9 {v : Int32} (hS : sP x t c p e S) : sP x t c p e (sI 9 v S) := ⟨hS.1.sI (by decide) (by decide), (sI_o (by decide)).trans hS.2.1, (sI_o (by decide)).trans hS.2.2.1, ⟨hS.2.2.2.1.1, hS.2.2.2.1.2.of (sI_o (by decide))⟩, hS.2.2.2.2.of rfl⟩
theorem tkP_c (hS : sP x t c p e S) : ∀ q, q ≤ c → tkP x t q ≤ t := by
  intro q hq
  cases q with
  | zero => exact Nat.zero_le _
  | succ q => exact (tkP_le (hS.ho (by omega))).1
theorem exp_go {j : Int32} (hS : sP x t c p e S) (hc : g_c_4_codeAt (c + 1) p S = j) : g_c_2_expect (c + 1) j S T = sI 5 (nI (p + 1)) S := by rw [g_c_2_expect, if_pos hS.2.1, hS.1.sp, if_pos hc]
theorem exp_st {j : Int32} (hS : sP x t c p e S) (hc : ¬ g_c_4_codeAt (c + 1) p S = j) : g_c_2_expect (c + 1) j S T = g_c_2_fail 1 S T := by rw [g_c_2_expect, if_pos hS.2.1, hS.1.sp, if_neg hc]
theorem is_go {j : Int32} (k : M.1 23 = j) : g_m_is j M = (true, M) := by rw [g_m_is, if_pos k]
theorem is_st {j : Int32} (k : ¬ M.1 23 = j) : g_m_is j M = (false, (g_m_fail 1 M).2) := by rw [g_m_is, if_neg k]
/-- the end of a repeat -/
theorem pop_sim (hS : sP x t c q e S) (hN : sNp x t q e M) (hq : q < c) (v : Int32) :
    ((g_m_is 1 (g_m_next t M)).1 = true ∧ q + 1 < c ∧ sP x t c (q + 2) e (g_c_2_expect (c + 1) 6 (sI 5 (nI (q + 1)) (sI 9 (nI s) (sA 6 s v S))) T) ∧ (g_c_2_expect (c + 1) 6 (sI 5 (nI (q + 1)) (sI 9 (nI s) (sA 6 s v S))) T).1 9 = nI s ∧ stk s S (g_c_2_expect (c + 1) 6 (sI 5 (nI (q + 1)) (sI 9 (nI s) (sA 6 s v S))) T) ∧ ∀ N, sNp x t q e N → nxtM t (g_m_is 1 (g_m_next t N)) = (true, g_m_next t (g_m_next t N)) ∧ sNp x t (q + 2) e (g_m_next t (g_m_next t N)) ∧ rwS N (g_m_next t (g_m_next t N)) ∧ (g_m_next t (g_m_next t N)).2 = N.2)
    ∨ ((g_m_is 1 (g_m_next t M)).1 = false ∧ Fl c (g_c_2_expect (c + 1) 6 (sI 5 (nI (q + 1)) (sI 9 (nI s) (sA 6 s v S))) T) (g_m_is 1 (g_m_next t M)).2) := by
  have hS1 : sP x t c q e (sI 9 (nI s) (sA 6 s v S)) := sP_9 (sP_A hS (by decide) (by decide) (by decide))
  have hS2 := hS1.to (q := q + 1) (by omega)
  have hN1 := hN.next (hS.ho hq)
  have hat := at_is hS2.1 hN1.2.2.2.1
  by_cases k : (g_m_next t M).1 23 = 1
  · left
    have hp : q + 1 < c := at_lt hS2.1 hN1.2.2.2.1 (by rw [k]; decide)
    rw [exp_go hS2 (hat.2.1.mpr k), is_go k]
    refine ⟨rfl, hp, hS2.to (by omega), ?_, fun j hj => ?_, fun N hN2 => ?_⟩
    · rw [sI_o (by decide), sI_o (by decide), sI_same]
    · have e6 : (sA 6 s v S).2 6 j = S.2 6 j := sA_o (by omega)
      exact ⟨e6, rfl, rfl⟩
    · have hN3 := hN2.next (hS.ho hq)
      have k2 : (g_m_next t N).1 23 = 1 := (cur_k hS2 hN1.2.2.2.1 hN3.2.2.2.1).1.trans k
      have e2 : (g_m_next t (g_m_next t N)).2 = N.2 := (next_2 hN3.1.tk).trans (next_2 hN2.1.tk)
      rw [is_go k2, nxtM_T]
      exact ⟨rfl, hN3.next (hS.ho hp), fun j _ => by rw [e2], e2⟩
  · right
    rw [exp_st hS2 (fun z => k (hat.2.1.mp z)), is_st k]
    exact ⟨rfl, fl_of (TU := T) hS2.1 hN1.2.2.2.1 hS2.2.1 hN1.2.2.2.2.2 (by decide)⟩
theorem L1_0 {F : ZS → Bool × ZS} {b kk : Nat} (N : ZS) : g_m_readsRepeat_L1 dd t F dp 0 ts b kk N = g_m_is 1 (g_m_next t N) := by rw [g_m_readsRepeat_L1]
noncomputable def FL (dd t h : Nat) (dp : Int32) (r ts bb kk : Nat) (N : ZS) : Bool × ZS := nxtM t (g_m_readsRepeat_L1 dd t (g_cmd t h) dp r ts bb kk N)
/-- one round -/
theorem L1_one (hC : CmdOut x t c h) (h3 : ¬ h = 3) (r kk : Nat) (hS : sP x t c B e S) (h9 : S.1 9 = nI (3 - h)) (hP : mPar t M) (h6 : M.2 6 = x) (h27 : M.1 27 = nI e ∧ M.1 12 = -1) (h11 : M.1 11 = 0) (hR : Rel (mn M) T (M.2 0)) :
    (∃ k1 q e1 S1 T1 M1, g_m_readsRepeat_L1 dd t (g_cmd t h) dp (r + 1) ts (tkP x t B) kk M = g_m_readsRepeat_L1 dd t (g_cmd t h) dp r ts (tkP x t B) (kk + 1) M1 ∧ sR t c k1 S T S1 T1 ∧ sP x t c q e1 S1 ∧ q < c ∧ sNp x t q e1 M1 ∧ M1.1 23 = 6 ∧ Rel (mn M1) T1 (M1.2 0) ∧ S1.1 9 = nI (3 - h) ∧ stk (3 - h) S S1 ∧ B ≤ q ∧ e ≤ e1 ∧ k1 + (pt h e1 + (602 - q)) ≤ pt h e + (602 - B) ∧ (e1 = e → T1 = T ∧ Idl x t B q e (fun N => g_m_readsRepeat_L2 dd t (g_cmd t h) dp 601 ts (tkP x t B) 0 N)))
    ∨ ((FL dd t h dp (r + 1) ts (tkP x t B) kk M).1 = false ∧ rNo t c h B e S T (FL dd t h dp (r + 1) ts (tkP x t B) kk M).2) := by
  have hl := tkP_c hS B hS.le.1
  obtain ⟨w1, w2⟩ := rewind hP h6 h27 h11 hl
  have hR2 : Rel (mn (g_m_next t (sI 25 (nI (tkP x t B)) M))) T ((g_m_next t (sI 25 (nI (tkP x t B)) M)).2 0) := by
    rw [mn, w2]; exact hR
  have h600 := w1.1.1.1.2.1
  obtain ⟨i1, i2⟩ := W_out (dd := dd) (dp := dp) (ts := ts) (b := tkP x t B) (kk := 0) hC h3 601 B e S T _ hS w1 hR2 h9 (by omega)
  have eA := W_any (dd := dd) (dp := dp) (t := t) (F := g_cmd t h) 601 ts (tkP x t B) kk ts (tkP x t B) 0 (g_m_next t (sI 25 (nI (tkP x t B)) M))
  rcases i2 with ⟨o2, k2, q2, e2, S2, T2, ⟨s1, s2, s3, s4, ⟨s5, s6⟩, ⟨s7, s8⟩, s9⟩, s10⟩ | ⟨o2, k2, S2, T2, s1, s2, s3⟩
  · left
    have k6 := i1 o2
    have hq : q2 < c := at_lt s2.1 s3.2.2.2.1 (by show ¬ (g_m_readsRepeat_L2 dd t (g_cmd t h) dp 601 ts (tkP x t B) 0 (g_m_next t (sI 25 (nI (tkP x t B)) M))).2.1 23 = 0; rw [k6]; decide)
    refine ⟨k2, q2, e2, S2, T2, (g_m_readsRepeat_L2 dd t (g_cmd t h) dp 601 ts (tkP x t B) 0 (g_m_next t (sI 25 (nI (tkP x t B)) M))).2, ?_, s1, s2, hq, s3, k6, s4, s5, s6, s7, s8, s9, s10⟩
    have eL := L1_s (dd := dd) (dp := dp) (ts := ts) (kk := kk) (F := g_cmd t h) r (tkP x t B) M (by rw [eA]; exact o2)
    rw [eL, eA]
  · right
    have eL := L1_n (dd := dd) (dp := dp) (ts := ts) (kk := kk) (F := g_cmd t h) r (tkP x t B) M (by rw [eA]; exact o2)
    rw [eA] at eL
    have eF : FL dd t h dp (r + 1) ts (tkP x t B) kk M = (false, (g_m_readsRepeat_L2 dd t (g_cmd t h) dp 601 ts (tkP x t B) 0 (g_m_next t (sI 25 (nI (tkP x t B)) M))).2) := by rw [FL, eL, nxtM_F]
    rw [eF]
    exact ⟨rfl, k2, S2, T2, s1, s2, s3⟩
theorem close_pop (hS : sP x t c q e S) (h : (S.2 6 s) - 1 ≤ 0 ∨ S.1 6 ≤ S.2 8 s) : g_c_2_closeRepeat (c + 1) s S T = g_c_2_expect (c + 1) 6 (sI 5 (nI (q + 1)) (sI 9 (nI s) (sA 6 s (S.2 6 s - 1) S))) T := by
  rw [g_c_2_closeRepeat, hS.1.sp]
  by_cases k : (S.2 6 s) - 1 ≤ 0
  · rw [if_pos k]
  · rw [if_neg k, if_pos (h.resolve_left k)]
theorem close_back (h1 : ¬ (S.2 6 s) - 1 ≤ 0) (h2 : ¬ S.1 6 ≤ S.2 8 s) : g_c_2_closeRepeat (c + 1) s S T = sI 5 (S.2 7 s) (sA 8 s (S.1 6) (sA 6 s (S.2 6 s - 1) S)) := by
  rw [g_c_2_closeRepeat, if_neg h1, if_neg h2]
def LOut (x : Nat → Int32) (t c h B e : Nat) (S : ZS) (T : TS) (F : ZS → Bool × ZS) (M : ZS) : Prop :=
  ((F M).1 = true ∧ ∃ k q e' S' T', rOK x t c (2 - h) (h + 1) B e S T (F M).2 k q e' S' T' ∧ (e' = e → T' = T ∧ ∀ N, mPar t N → N.2 6 = x → (N.1 27 = nI e ∧ N.1 12 = -1) → N.1 11 = 0 → (F N).1 = true ∧ sNp x t q e (F N).2 ∧ rwS N (F N).2)) ∨ ((F M).1 = false ∧ rNo t c (h + 1) B e S T (F M).2)
theorem L1_out (hC : CmdOut x t c h) (hh : h ≤ 2) : ∀ (r kk e : Nat) (S : ZS) (T : TS) (M : ZS), r + 1 ≤ 20 → sP x t c B e S → S.1 9 = nI (3 - h) → S.2 6 (2 - h) = nI (r + 1) → S.2 7 (2 - h) = nI B → S.2 8 (2 - h) = nI e → mPar t M → M.2 6 = x → (M.1 27 = nI e ∧ M.1 12 = -1) → M.1 11 = 0 → Rel (mn M) T (M.2 0) → LOut x t c h B e S T (FL dd t h dp (r + 1) ts (tkP x t B) kk) M := by
  intro r
  induction r with
  | zero =>
    intro kk e S T M hr hS h9 a6 a7 a8 hP h6 h27 h11 hR
    rcases L1_one (dd := dd) (dp := dp) (ts := ts) hC (by omega) 0 kk hS h9 hP h6 h27 h11 hR with ⟨k1, q, e1, S1, T1, M1, r1, r2, r3, r4, r5, r6, r7, r8, r9, r10, r11, r12, r13⟩ | ⟨r1, k1, S1, T1, r2, r3, r4⟩
    · have hc5 := (at_is r3.1 r5.2.2.2.1).2.2.2.2.1.mpr r6
      have hst := st_close (T := T1) (s := 2 - h) r3 hc5 (by rw [r8]; congr 1; omega) (by omega)
      have b6 : S1.2 6 (2 - h) - 1 = nI 0 := by rw [(r9 (2 - h) (by omega)).1, a6]; exact pk_sub (a := 0 + 1) (b := 1) (by decide)
      rw [close_pop (s := 2 - h) r3 (Or.inl (by rw [b6]; decide))] at hst
      have hl := tkP_c hS B hS.le.1
      have hp1 := pt_s h e
      have hp2 := pt_s h e1
      have hcc := r3.le.2
      have eF : FL dd t h dp (0 + 1) ts (tkP x t B) kk M = nxtM t (g_m_is 1 (g_m_next t M1)) := by rw [FL, r1, L1_0]
      rcases pop_sim (s := 2 - h) (T := T1) r3 r5 r4 (S1.2 6 (2 - h) - 1) with ⟨p1, p2, p3, p4, p5, p6⟩ | ⟨p1, p2⟩
      · obtain ⟨y1, y2, y3, y4⟩ := p6 M1 r5
        left
        rw [eF, y1]
        refine ⟨rfl, k1 + 1, q + 2, e1, _, T1, ⟨r2.trans hst, p3, y2, ?_, ⟨p4, (r9.le (by omega)).trans p5⟩, ⟨by omega, r11⟩, by omega⟩, fun z => ?_⟩
        · show Rel (mn (g_m_next t (g_m_next t M1))) T1 ((g_m_next t (g_m_next t M1)).2 0)
          rw [mn, y4]; exact r7
        · subst z
          obtain ⟨z1, z2⟩ := r13 rfl
          refine ⟨z1, fun N n1 n2 n3 n4 => ?_⟩
          obtain ⟨w1, w2⟩ := rewind n1 n2 n3 n4 hl
          have hz : ∀ N, sNp x t B e1 N → (g_m_readsRepeat_L2 dd t (g_cmd t h) dp 601 ts (tkP x t B) 0 N).1 = true ∧ sNp x t q e1 (g_m_readsRepeat_L2 dd t (g_cmd t h) dp 601 ts (tkP x t B) 0 N).2 ∧ rwS N (g_m_readsRepeat_L2 dd t (g_cmd t h) dp 601 ts (tkP x t B) 0 N).2 := z2
          obtain ⟨v1, v2, v3⟩ := hz _ w1
          have eA := W_any (dd := dd) (dp := dp) (t := t) (F := g_cmd t h) 601 ts (tkP x t B) kk ts (tkP x t B) 0 (g_m_next t (sI 25 (nI (tkP x t B)) N))
          have eL := L1_s (dd := dd) (dp := dp) (ts := ts) (kk := kk) (F := g_cmd t h) 0 (tkP x t B) N (by rw [eA]; exact v1)
          rw [eA] at eL
          generalize g_m_readsRepeat_L2 dd t (g_cmd t h) dp 601 ts (tkP x t B) 0 (g_m_next t (sI 25 (nI (tkP x t B)) N)) = W at v1 v2 v3 eL
          obtain ⟨y5, y6, y7, y8⟩ := p6 _ v2
          have eG : FL dd t h dp (0 + 1) ts (tkP x t B) kk N = (true, g_m_next t (g_m_next t W.2)) := by rw [FL, eL, L1_0]; exact y5
          rw [eG]
          refine ⟨rfl, y6, fun k hk => (y7 k hk).trans ((v3 k hk).trans ?_)⟩
          rw [w2]
      · right
        have eX : nxtM t (g_m_is 1 (g_m_next t M1)) = g_m_is 1 (g_m_next t M1) := nxtM_f p1
        rw [eF, eX]
        exact ⟨p1, k1 + 1, _, _, r2.trans hst, p2, by omega⟩
    · right
      have hp1 := pt_s h e
      exact ⟨r1, k1, S1, T1, r2, r3, by omega⟩
  | succ r ih =>
    intro kk e S T M hr hS h9 a6 a7 a8 hP h6 h27 h11 hR
    rcases L1_one (dd := dd) (dp := dp) (ts := ts) hC (by omega) (r + 1) kk hS h9 hP h6 h27 h11 hR with ⟨k1, q, e1, S1, T1, M1, r1, r2, r3, r4, r5, r6, r7, r8, r9, r10, r11, r12, r13⟩ | ⟨r1, k1, S1, T1, r2, r3, r4⟩
    · have hc5 := (at_is r3.1 r5.2.2.2.1).2.2.2.2.1.mpr r6
      have hst := st_close (T := T1) (s := 2 - h) r3 hc5 (by rw [r8]; congr 1; omega) (by omega)
      have b6 : S1.2 6 (2 - h) - 1 = nI (r + 1) := by rw [(r9 (2 - h) (by omega)).1, a6]; exact pk_sub (a := r + 1 + 1) (b := 1) (by omega)
      have b8 : S1.2 8 (2 - h) = nI e := (r9 (2 - h) (by omega)).2.2.trans a8
      have b7 : S1.2 7 (2 - h) = nI B := (r9 (2 - h) (by omega)).2.1.trans a7
      have hl := tkP_c hS B hS.le.1
      have hp1 := pt_s h e
      have hp2 := pt_s h e1
      have hcc := r3.le.2
      have he1 := r3.2.2.2.1.1
      have he0 := hS.2.2.2.1.1
      by_cases ee : e1 = e
      · subst ee
        obtain ⟨z1, z2⟩ := r13 rfl
        rw [close_pop (s := 2 - h) r3 (Or.inr (by rw [r3.2.2.1, b8]; exact Int32.le_refl _))] at hst
        obtain ⟨M2, k', u1, u2, u3⟩ := idle_r (dd := dd) (dp := dp) (ts := ts) hl z2 (r + 1) (kk + 1) M1 r5
        have eF : FL dd t h dp (r + 1 + 1) ts (tkP x t B) kk M = nxtM t (g_m_is 1 (g_m_next t M2)) := by rw [FL, r1, u1, L1_0]
        rcases pop_sim (s := 2 - h) (T := T1) r3 u2 r4 (S1.2 6 (2 - h) - 1) with ⟨p1, p2, p3, p4, p5, p6⟩ | ⟨p1, p2⟩
        · obtain ⟨y1, y2, y3, y4⟩ := p6 M2 u2
          left
          rw [eF, y1]
          refine ⟨rfl, k1 + 1, q + 2, e1, _, T1, ⟨r2.trans hst, p3, y2, ?_, ⟨p4, (r9.le (by omega)).trans p5⟩, ⟨by omega, r11⟩, by omega⟩, fun _ => ?_⟩
          · show Rel (mn (g_m_next t (g_m_next t M2))) T1 ((g_m_next t (g_m_next t M2)).2 0)
            rw [mn, y4]
            show Rel (mn M2) T1 (M2.2 0)
            rw [rwS_mn u3]
            exact r7.cong u3
          · refine ⟨z1, fun N n1 n2 n3 n4 => ?_⟩
            obtain ⟨w1, w2⟩ := rewind n1 n2 n3 n4 hl
            have hz : ∀ N, sNp x t B e1 N → (g_m_readsRepeat_L2 dd t (g_cmd t h) dp 601 ts (tkP x t B) 0 N).1 = true ∧ sNp x t q e1 (g_m_readsRepeat_L2 dd t (g_cmd t h) dp 601 ts (tkP x t B) 0 N).2 ∧ rwS N (g_m_readsRepeat_L2 dd t (g_cmd t h) dp 601 ts (tkP x t B) 0 N).2 := z2
            obtain ⟨v1, v2, v3⟩ := hz _ w1
            have eA := W_any (dd := dd) (dp := dp) (t := t) (F := g_cmd t h) 601 ts (tkP x t B) kk ts (tkP x t B) 0 (g_m_next t (sI 25 (nI (tkP x t B)) N))
            have eL := L1_s (dd := dd) (dp := dp) (ts := ts) (kk := kk) (F := g_cmd t h) (r + 1) (tkP x t B) N (by rw [eA]; exact v1)
            rw [eA] at eL
            generalize g_m_readsRepeat_L2 dd t (g_cmd t h) dp 601 ts (tkP x t B) 0 (g_m_next t (sI 25 (nI (tkP x t B)) N)) = W at v1 v2 v3 eL
            obtain ⟨N2, k9, u4, u5, u6⟩ := idle_r (dd := dd) (dp := dp) (ts := ts) hl z2 (r + 1) (kk + 1) _ v2
            obtain ⟨y5, y6, y7, y8⟩ := p6 N2 u5
            have eG : FL dd t h dp (r + 1 + 1) ts (tkP x t B) kk N = (true, g_m_next t (g_m_next t N2)) := by
              rw [FL, eL, u4, L1_0]
              exact y5
            rw [eG]
            refine ⟨rfl, y6, fun k hk => (y7 k hk).trans ((u6 k hk).trans ((v3 k hk).trans ?_))⟩
            rw [w2]
        · right
          have eX : nxtM t (g_m_is 1 (g_m_next t M2)) = g_m_is 1 (g_m_next t M2) := nxtM_f p1
          rw [eF, eX]
          exact ⟨p1, k1 + 1, _, _, r2.trans hst, p2, by omega⟩
      · have hz1 : ¬ S1.2 6 (2 - h) - 1 ≤ 0 := by
          rw [b6]
          exact fun z => absurd ((nI_leI (b := 0) (by omega) (by decide)).mp z) (by omega)
        have hz2 : ¬ S1.1 6 ≤ S1.2 8 (2 - h) := by
          rw [r3.2.2.1, b8]
          exact fun z => absurd ((nI_leI (by omega) (by omega)).mp z) (by omega)
        rw [close_back hz1 hz2, b7, r3.2.2.1, b6] at hst
        have hS2 : sP x t c B e1 (sI 5 (nI B) (sA 8 (2 - h) (nI e1) (sA 6 (2 - h) (nI (r + 1)) S1))) := (sP_A (sP_A r3 (by decide) (by decide) (by decide)) (by decide) (by decide) (by decide)).to hS.le.1
        have c6 : (sI 5 (nI B) (sA 8 (2 - h) (nI e1) (sA 6 (2 - h) (nI (r + 1)) S1))).2 6 (2 - h) = nI (r + 1) := by
          show (sA 8 (2 - h) (nI e1) (sA 6 (2 - h) (nI (r + 1)) S1)).2 6 (2 - h) = _
          rw [sA_x (by decide), sA_same]
        have c7 : (sI 5 (nI B) (sA 8 (2 - h) (nI e1) (sA 6 (2 - h) (nI (r + 1)) S1))).2 7 (2 - h) = nI B := by
          show (sA 8 (2 - h) (nI e1) (sA 6 (2 - h) (nI (r + 1)) S1)).2 7 (2 - h) = _
          rw [sA_x (by decide), sA_x (by decide)]; exact b7
        have c8 : (sI 5 (nI B) (sA 8 (2 - h) (nI e1) (sA 6 (2 - h) (nI (r + 1)) S1))).2 8 (2 - h) = nI e1 := by
          show (sA 8 (2 - h) (nI e1) (sA 6 (2 - h) (nI (r + 1)) S1)).2 8 (2 - h) = _
          rw [sA_same]
        have hk : stk (2 - h) S1 (sI 5 (nI B) (sA 8 (2 - h) (nI e1) (sA 6 (2 - h) (nI (r + 1)) S1))) := fun j hj => by
          refine ⟨?_, ?_, ?_⟩
          · show (sA 8 (2 - h) (nI e1) (sA 6 (2 - h) (nI (r + 1)) S1)).2 6 j = _
            rw [sA_x (by decide), sA_o (by omega)]
          · show (sA 8 (2 - h) (nI e1) (sA 6 (2 - h) (nI (r + 1)) S1)).2 7 j = _
            rw [sA_x (by decide), sA_x (by decide)]
          · show (sA 8 (2 - h) (nI e1) (sA 6 (2 - h) (nI (r + 1)) S1)).2 8 j = _
            rw [sA_o (by omega), sA_x (by decide)]
        have c9 : (sI 5 (nI B) (sA 8 (2 - h) (nI e1) (sA 6 (2 - h) (nI (r + 1)) S1))).1 9 = nI (3 - h) := (sI_o (by decide)).trans r8
        have hi := ih (kk + 1) e1 _ T1 M1 (by omega) hS2 c9 c6 c7 c8 r5.1 r5.2.2.1 r5.2.2.2.2.1 r5.2.2.2.2.2 r7
        have eF : FL dd t h dp (r + 1 + 1) ts (tkP x t B) kk M = FL dd t h dp (r + 1) ts (tkP x t B) (kk + 1) M1 := by rw [FL, FL, r1]
        rcases hi with ⟨o1, k2, q2, e2, S2, T2, ⟨s1, s2, s3, s4, ⟨s5, s6⟩, ⟨s7, s8⟩, s9⟩, s10⟩ | ⟨o1, k2, S2, T2, s1, s2, s3⟩
        · left
          rw [eF]
          refine ⟨o1, k1 + 1 + k2, q2, e2, S2, T2, ⟨(r2.trans hst).trans s1, s2, s3, s4, ⟨s5, ((r9.le (by omega)).trans hk).trans s6⟩, ⟨s7, by omega⟩, by omega⟩, fun z => absurd z (by omega)⟩
        · right
          rw [eF]
          exact ⟨o1, k1 + 1 + k2, S2, T2, (r2.trans hst).trans s1, s2, by omega⟩
    · right
      have hp1 := pt_s h e
      exact ⟨r1, k1, S1, T1, r2, r3, by omega⟩
end REP
