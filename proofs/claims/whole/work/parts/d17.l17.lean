variable {sc : SC}
/-! ===== a command, a round, a repeat ===== -/
def stk (s : Nat) (S S' : ZS) : Prop := ∀ k, k < s → S'.2 6 k = S.2 6 k ∧ S'.2 7 k = S.2 7 k ∧ S'.2 8 k = S.2 8 k
theorem stk.rfl' (s : Nat) (S : ZS) : stk s S S := fun _ _ => ⟨rfl, rfl, rfl⟩
theorem stk.trans {s : Nat} {S R Q : ZS} (h : stk s S R) (g : stk s R Q) : stk s S Q := fun k hk => ⟨(g k hk).1.trans (h k hk).1, (g k hk).2.1.trans (h k hk).2.1, (g k hk).2.2.trans (h k hk).2.2⟩
theorem stk.le {s s' : Nat} {S R : ZS} (h : stk s S R) (hs : s' ≤ s) : stk s' S R := fun k hk => h k (by omega)
noncomputable def nxtM (t : Nat) (r : Bool × ZS) : Bool × ZS := if r.1 = true then (true, g_m_next t r.2) else r
theorem nxtM_t {t : Nat} {r : Bool × ZS} (h : r.1 = true) : nxtM t r = (true, g_m_next t r.2) := if_pos h
theorem nxtM_F (t : Nat) (X : ZS) : nxtM t (false, X) = (false, X) := if_neg Bool.false_ne_true
theorem nxtM_T (t : Nat) (X : ZS) : nxtM t (true, X) = (true, g_m_next t X) := if_pos rfl
theorem nxtM_f {t : Nat} {r : Bool × ZS} (h : r.1 = false) : nxtM t r = r := if_neg (by rw [h]; decide)
/-- what costs how many steps -/
def pt (h e : Nat) : Nat := 602 * (h * (200 - e))
theorem pt_s (h e : Nat) : pt (h + 1) e = pt h e + 602 * (200 - e) := by
  unfold pt
  rw [Nat.add_mul, Nat.one_mul, Nat.mul_add]
theorem pt_le (h : Nat) {e e' : Nat} (he : e ≤ e') : pt h e' ≤ pt h e := Nat.mul_le_mul_left _ (Nat.mul_le_mul_left _ (by omega))
/-- at a place, whatever the tree -/
def sNp (x : Nat → Int32) (t p e : Nat) (M : ZS) : Prop := mPar t M ∧ sC x t p e M
def rwS (M N : ZS) : Prop := ∀ k, k < 300 → N.2 0 k = M.2 0 k
theorem rwS_mn {M N : ZS} (h : rwS M N) : mn N = mn M := by rw [mn, mn, h 0 (by decide)]
def Idl (x : Nat → Int32) (t p q e : Nat) (F : ZS → Bool × ZS) : Prop := ∀ N, sNp x t p e N → (F N).1 = true ∧ sNp x t q e (F N).2 ∧ rwS N (F N).2
def rOK (x : Nat → Int32) (t c s h p e : Nat) (S : ZS) (T : TS) (M' : ZS) (k q e' : Nat) (S' : ZS) (T' : TS) : Prop :=
  sR t c k S T S' T' ∧ sP x t c q e' S' ∧ sNp x t q e' M' ∧ Rel (mn M') T' (M'.2 0) ∧ (S'.1 9 = nI s ∧ stk s S S') ∧ (p ≤ q ∧ e ≤ e') ∧ k + (pt h e' + (602 - q)) ≤ pt h e + (602 - p)
def rNo (t c h p e : Nat) (S : ZS) (T : TS) (M' : ZS) : Prop := ∃ k S' T', sR t c k S T S' T' ∧ Fl c S' M' ∧ k ≤ pt h e + (602 - p) + 1
def cOut (x : Nat → Int32) (t c s h p e : Nat) (S : ZS) (T : TS) (F : ZS → Bool × ZS) (M : ZS) : Prop :=
  ((F M).1 = true ∧ ∃ k q e' S' T', rOK x t c s h p e S T (F M).2 k q e' S' T' ∧ (e' = e → T' = T ∧ Idl x t p q e F)) ∨ ((F M).1 = false ∧ rNo t c h p e S T (F M).2)
section CM
variable {x : Nat → Int32} {t c s p e u n : Nat} {S M : ZS} {T : TS}
theorem tz_of (h : Rel n T (M.2 0)) : tz T = n := by
  show (tn T).toNatClampNeg = n
  rw [h.1.2.1, nI_clamp (by have := h.1.1.2; omega)]
theorem mn_rel (h : Rel n T (M.2 0)) : mn M = n := mn_of h.1.2.2 h.1.1.2
theorem fl_sI {j : Nat} {v : Int32} {S' : ZS} (h : Fl c S' M) (h7 : ¬ 7 = j) (h8 : ¬ 8 = j) : Fl c (sI j v S') M := by
  obtain ⟨a, b, q, d, e, f⟩ := h
  exact ⟨by rw [sI_o h7]; exact a, by rw [sI_o h7]; exact b, q, by rw [sI_o h8]; exact d, e, f⟩
theorem fl_sA {j i : Nat} {v : Int32} {S' : ZS} (h : Fl c S' M) (h3 : ¬ 3 = j) : Fl c (sA j i v S') M := by
  obtain ⟨a, b, q, d, e, f⟩ := h
  refine ⟨a, b, q, d, e, ?_⟩
  rw [← f, g_c_4_offsetAt, g_c_4_offsetAt]
  have e3 : (sA j i v S').2 3 = S'.2 3 := sA_x h3
  rw [e3]
/-- a command but repeat -/
theorem cmd_word {h : Nat} (hS : sP x t c p e S) (hN : sNp x t p e M) (hR : Rel (mn M) T (M.2 0)) (h9 : S.1 9 = nI s) (hc : g_c_4_codeAt (c + 1) p S = 9 ∨ g_c_4_codeAt (c + 1) p S = 10 ∨ g_c_4_codeAt (c + 1) p S = 11 ∨ g_c_4_codeAt (c + 1) p S = 12 ∨ g_c_4_codeAt (c + 1) p S = 13 ∨ g_c_4_codeAt (c + 1) p S = 14 ∨ g_c_4_codeAt (c + 1) p S = 15) : cOut x t c s h p e S T (fun N => nxtM t (g_cmd t h N)) M := by
  obtain ⟨hPar, hM⟩ := hN
  have hw := word_eq hS hM
  have h40 := hR.1.1.2
  have hz : tz T = mn M := tz_of hR
  have hpc : p < c := by
    have := hS.le.1
    rcases Nat.lt_or_ge p c with q | q
    · exact q
    · rw [hS.1.code, if_neg (by omega)] at hc
      exact absurd hc (by decide)
  have hst := st_cmd (T := T) hS (by rcases hc with k | k | k | k | k | k | k <;> rw [k] <;> decide)
  have hpF := (g_cmd_ok t h M hPar).2
  have heq : g_cmd t h M = if M.1 27 = 200 then (false, (g_m_fail 6 M).2) else g_bdy t (mn M) (g_m_wordAhead t M) (g_m_next t (sI 27 (M.1 27 + 1) M)) := cmd_eq (by rw [hw]; rcases hc with k | k | k | k | k | k | k <;> rw [k] <;> decide) (by rw [hw]; rcases hc with k | k | k | k | k | k | k <;> rw [k] <;> decide)
  have h27 := hM.2.2.2.1.1
  have he := hS.2.2.2.1.1
  have hx : xe S = e := xe_nI hS.2.2.1 (by omega)
  by_cases k : e = 200
  · have k27 : M.1 27 = 200 := by rw [h27, k]; rfl
    rw [if_pos k27] at heq
    have f := fl_of (TU := T) (v := 6) hS.1 hM.2.2.1 hS.2.1 hM.2.2.2.2 (by decide)
    right
    show (nxtM t (g_cmd t h M)).1 = false ∧ rNo t c h p e S T (nxtM t (g_cmd t h M)).2
    rw [heq, nxtM_F]
    refine ⟨rfl, 1, _, _, hst, ?_, by omega⟩
    rw [g_c_2_readCommand, if_neg (by omega)]
    exact f
  · have k27 : ¬ M.1 27 = 200 := by
      rw [h27]
      exact fun z => k ((nI_eq (b := 200) (by omega) (by decide)).mp z)
    rw [if_neg k27, hw] at heq
    have hM1 : sC x t p (e + 1) (sI 27 (M.1 27 + 1) M) := by
      obtain ⟨a1, a2, a3, a4, a5⟩ := hM
      exact ⟨a1.sI (by decide) (by decide) (by decide), a2, a3, ⟨by rw [sI_same, a4.1, nI_1], (sI_o (by decide)).trans a4.2⟩, (sI_o (by decide)).trans a5⟩
    have hM2 := hM1.next (hS.ho hpc)
    have hO2 : mOK (mn M) (g_m_next t (sI 27 (M.1 27 + 1) M)) := (kp_next hM1.1.tk).ok (hPar.2.1.sI (by decide))
    have hR2 : Rel (mn M) T ((g_m_next t (sI 27 (M.1 27 + 1) M)).2 0) := by rw [next_2 hM1.1.tk]; exact hR
    have hS2 := hS.to (q := p + 1) (by omega)
    have hb := body_sim (k := g_c_4_codeAt (c + 1) p S) hS2 hM2 hR2 hO2 hc
    rw [← heq] at hb
    rw [hz, cls_eq (by omega) hc, hS.1.sp] at hst
    dsimp only at hst
    rcases hb with ⟨b1, q, q1, q2, q3, q4, n', q5⟩ | ⟨b1, b2⟩
    · left
      show (nxtM t (g_cmd t h M)).1 = true ∧ _
      have eN : nxtM t (g_cmd t h M) = (true, g_m_next t (g_cmd t h M).2) := nxtM_t b1
      have hP2 := (hpF b1).1
      have e2 : (g_m_next t (g_cmd t h M).2).2 = (g_cmd t h M).2.2 := next_2 hP2.tk
      have e0 := mn_rel q5
      have hS3 := hS2.to (q := q + 1) (by omega)
      rw [← q3] at hS3
      have e6 : (g_cb (c + 1) (mn M) (g_c_4_codeAt (c + 1) p S) (sI 5 (nI (p + 1)) S) T).1.1 6 + 1 = nI (e + 1) := by rw [hS3.2.2.1, nI_1]
      rw [e6] at hst
      refine ⟨by show (nxtM t (g_cmd t h M)).1 = true; rw [eN], 1, q + 1, e + 1, _, _, ⟨hst, ?_, ?_, ?_, ⟨?_, ?_⟩, ⟨by omega, by omega⟩, ?_⟩, fun z => absurd z (by omega)⟩
      · obtain ⟨a1, a2, a3, a4, a5⟩ := hS3
        exact ⟨a1.sI (by decide) (by decide), (sI_o (by decide)).trans a2, sI_same _ _ _, ⟨by omega, a4.2.of (sI_o (by decide))⟩, a5.of rfl⟩
      · show sNp x t (q + 1) (e + 1) (nxtM t (g_cmd t h M)).2
        rw [eN]
        exact ⟨par_next hP2, q4.next (hS.ho q2)⟩
      · show Rel (mn (nxtM t (g_cmd t h M)).2) _ ((nxtM t (g_cmd t h M)).2.2 0)
        rw [eN]
        show Rel (mn (g_m_next t (g_cmd t h M).2)) _ ((g_m_next t (g_cmd t h M).2).2 0)
        have e1 : mn (g_m_next t (g_cmd t h M).2) = n' := by rw [mn, e2]; exact e0
        rw [e1, e2]
        exact q5
      · rw [sI_o (by decide), q3, sI_o (by decide), sI_o (by decide)]; exact h9
      · rw [q3]; exact fun _ _ => ⟨rfl, rfl, rfl⟩
      · have := pt_le h (show e ≤ e + 1 by omega)
        have := hS.le.2
        omega
    · right
      have eN : nxtM t (g_cmd t h M) = g_cmd t h M := nxtM_f b1
      show (nxtM t (g_cmd t h M)).1 = false ∧ rNo t c h p e S T (nxtM t (g_cmd t h M)).2
      rw [eN]
      exact ⟨b1, 1, _, _, hst, fl_sI b2 (by decide) (by decide), by omega⟩
/-- no command -/
theorem cmd_none {h : Nat} (hS : sP x t c p e S) (hN : sNp x t p e M) (hw : wA (g_c_4_codeAt (c + 1) p S) = -1) (h8 : ¬ g_c_4_codeAt (c + 1) p S = 8) (hl : g_c_4_codeAt (c + 1) p S < 9) (hg : 0 < S.1 9 ∨ ¬ g_c_4_codeAt (c + 1) p S = 0) (h5 : g_c_4_codeAt (c + 1) p S = 5 → S.1 9 ≤ 0) : cOut x t c s h p e S T (fun N => nxtM t (g_cmd t h N)) M := by
  obtain ⟨hPar, hM⟩ := hN
  have hw2 := (word_eq hS hM).trans hw
  have heq : g_cmd t h M = (false, (g_m_fail 1 M).2) := by
    cases h with
    | zero => rw [g_cmd, g_m_cmd0, if_pos hw2]
    | succ h => rw [g_cmd, g_m_cmdS, if_pos hw2]
  have f := fl_of (TU := T) (v := 1) hS.1 hM.2.2.1 hS.2.1 hM.2.2.2.2 (by decide)
  right
  show (nxtM t (g_cmd t h M)).1 = false ∧ rNo t c h p e S T (nxtM t (g_cmd t h M)).2
  rw [heq, nxtM_F]
  exact ⟨rfl, 1, _, _, st_fail hS hg hl h8 h5, f, by omega⟩
end CM
