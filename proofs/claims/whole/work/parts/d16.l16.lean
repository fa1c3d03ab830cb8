variable {sc : SC}
/-! ===== one step of the class ===== -/
def sR (t c k : Nat) (S : ZS) (T : TS) (S' : ZS) (T' : TS) : Prop := ∀ (fu j : Nat) (X : ZS), g_c_2_run_L t (fu + k) j (c + 1) S X T = g_c_2_run_L t fu (j + k) (c + 1) S' X T'
theorem sR.rfl' (t c : Nat) (S : ZS) (T : TS) : sR t c 0 S T S T := fun _ _ _ => rfl
theorem sR.trans {t c k k' : Nat} {S S1 S2 : ZS} {T T1 T2 : TS} (h : sR t c k S T S1 T1) (g : sR t c k' S1 T1 S2 T2) : sR t c (k + k') S T S2 T2 := fun fu j X => by
  have e1 := h (fu + k') j X
  have e2 := g fu (j + k) X
  rw [show fu + (k + k') = fu + k' + k by omega, show j + (k + k') = j + k + k' by omega]
  exact e1.trans e2
section STEPS
variable {x : Nat → Int32} {t c p e u n : Nat} {S M : ZS} {T : TS}
theorem goes_t (hS : sP x t c p e S) (h : 0 < S.1 9 ∨ ¬ g_c_4_codeAt (c + 1) p S = 0) : g_c_2_goesOn (c + 1) S T = true := by
  rw [g_c_2_goesOn, if_pos hS.2.1]
  by_cases q : 0 < S.1 9
  · rw [if_pos q]
  · rw [if_neg q, if_neg (fun z => (h.resolve_left q) ((c_isAt hS.1).mp z))]
theorem st_cmd (hS : sP x t c p e S) (h : ¬ g_c_4_codeAt (c + 1) p S < 9) : sR t c 1 S T (g_c_2_readCommand (c + 1) (tz T) (g_c_4_codeAt (c + 1) p S) S T).1 (g_c_2_readCommand (c + 1) (tz T) (g_c_4_codeAt (c + 1) p S) S T).2 := by
  intro fu j X
  show g_c_2_run_L t (fu + 1) j (c + 1) S X T = _
  have hg : g_c_2_goesOn (c + 1) S T = true := goes_t hS (Or.inr (fun z => h (by rw [z]; decide)))
  rw [g_c_2_run_L, if_pos hg, hS.1.sp, if_neg h]
theorem st_open (hS : sP x t c p e S) (h : g_c_4_codeAt (c + 1) p S = 8) : sR t c 1 S T (g_c_2_openRepeat (c + 1) S T) T := by
  intro fu j X
  show g_c_2_run_L t (fu + 1) j (c + 1) S X T = _
  have hg : g_c_2_goesOn (c + 1) S T = true := goes_t hS (Or.inr (fun z => by rw [h] at z; exact absurd z (by decide)))
  rw [g_c_2_run_L, if_pos hg, hS.1.sp, h, if_pos (by decide), if_pos rfl]
theorem st_close {s : Nat} (hS : sP x t c p e S) (h : g_c_4_codeAt (c + 1) p S = 5) (h9 : S.1 9 = nI (s + 1)) (h3 : s < 3) : sR t c 1 S T (g_c_2_closeRepeat (c + 1) s S T) T := by
  intro fu j X
  show g_c_2_run_L t (fu + 1) j (c + 1) S X T = _
  have hg : g_c_2_goesOn (c + 1) S T = true := goes_t hS (Or.inr (fun z => by rw [h] at z; exact absurd z (by decide)))
  have hz : ¬ S.1 9 ≤ 0 := by
    rw [h9]
    exact fun z => absurd ((nI_leI (b := 0) (by omega) (by decide)).mp z) (by omega)
  have hs : so S - 1 = s := by rw [so_nI h9 (by omega)]; omega
  rw [g_c_2_run_L, if_pos hg, hS.1.sp, h, if_pos (by decide), if_neg (by decide), if_pos rfl, if_neg hz, hs]
theorem st_fail (hS : sP x t c p e S) (hg : 0 < S.1 9 ∨ ¬ g_c_4_codeAt (c + 1) p S = 0) (h : g_c_4_codeAt (c + 1) p S < 9) (h8 : ¬ g_c_4_codeAt (c + 1) p S = 8) (h5 : g_c_4_codeAt (c + 1) p S = 5 → S.1 9 ≤ 0) : sR t c 1 S T (g_c_2_fail 1 S T) T := by
  intro fu j X
  show g_c_2_run_L t (fu + 1) j (c + 1) S X T = _
  rw [g_c_2_run_L, if_pos (goes_t hS hg), hS.1.sp, if_pos h, if_neg h8]
  by_cases q : g_c_4_codeAt (c + 1) p S = 5
  · rw [if_pos q, if_pos (h5 q)]
  · rw [if_neg q]
/-! words -/
theorem tcd_rg (x : Nat → Int32) (o e : Nat) : tcd x o e = 8 ∨ (tcd x o e = 9 ∨ tcd x o e = 10 ∨ tcd x o e = 11 ∨ tcd x o e = 12 ∨ tcd x o e = 13 ∨ tcd x o e = 14 ∨ tcd x o e = 15) ∨ (wA (tcd x o e) = -1 ∧ tcd x o e < 9 ∧ ¬ tcd x o e = 8) := by
  unfold tcd
  by_cases k : lxK x o e = 2
  · rw [if_pos k]
    have h := wdC_rg x o e
    generalize wdC x o e = w at h ⊢
    rcases h with h | h | h | h | h | h | h | h | h | h <;> rw [h] <;> decide
  · rw [if_neg k]
    have h := lxK_rg x o e
    generalize lxK x o e = w at h ⊢
    rcases h with h | h | h | h | h | h | h <;> rw [h] <;> decide
theorem code_rg (hS : sP x t c p e S) : g_c_4_codeAt (c + 1) p S = 8 ∨ (g_c_4_codeAt (c + 1) p S = 9 ∨ g_c_4_codeAt (c + 1) p S = 10 ∨ g_c_4_codeAt (c + 1) p S = 11 ∨ g_c_4_codeAt (c + 1) p S = 12 ∨ g_c_4_codeAt (c + 1) p S = 13 ∨ g_c_4_codeAt (c + 1) p S = 14 ∨ g_c_4_codeAt (c + 1) p S = 15) ∨ (wA (g_c_4_codeAt (c + 1) p S) = -1 ∧ g_c_4_codeAt (c + 1) p S < 9 ∧ ¬ g_c_4_codeAt (c + 1) p S = 8) := by
  rw [hS.1.code]
  by_cases q : p < c
  · rw [if_pos q]; exact tcd_rg _ _ _
  · rw [if_neg q]; exact Or.inr (Or.inr ⟨by decide, by decide, by decide⟩)
theorem sP.le (hS : sP x t c p e S) : p ≤ c ∧ c ≤ 600 := ⟨hS.1.2.2.2.2.2.2, hS.1.2.2.2.2.1⟩
theorem sP.en (hS : sP x t c p e S) : tkO x t c = t := hS.1.2.2.2.1
theorem cur_k {N : ZS} (hS : sP x t c p e S) (hM : Cur x t p M) (hN : Cur x t p N) : N.1 23 = M.1 23 ∧ (p < c → N.1 26 = M.1 26) := by
  by_cases q : p < c
  · have ho := hS.ho q
    exact ⟨(hN.2.2 ho).1.trans (hM.2.2 ho).1.symm, fun _ => (hN.2.2 ho).2.2.trans (hM.2.2 ho).2.2.symm⟩
  · have ep : p = c := by have := hS.le.1; omega
    have ho : tkO x t p = t := by rw [ep]; exact hS.en
    exact ⟨(hN.2.1 ho).1.trans (hM.2.1 ho).1.symm, fun z => absurd z q⟩
theorem word_eq (hS : sP x t c p e S) (hM : sC x t p u M) : g_m_wordAhead t M = wA (g_c_4_codeAt (c + 1) p S) := by
  obtain ⟨hL, rfl, hC, h27, h11⟩ := hM
  rw [hS.1.code]
  by_cases q : p < c
  · have ho := hS.ho q
    obtain ⟨k1, k2, k3⟩ := hC.2.2 ho
    have h6 := hL.tk.2.1
    have hP := tkP_le ho
    have e1 : mo M = tkO (M.2 6) t p := mo_nI hC.1 (by omega)
    have e2 : me M = tkP (M.2 6) t (p + 1) := me_nI k2 (by omega)
    have k1' : lxK (M.2 6) (tkO (M.2 6) t p) (tkP (M.2 6) t (p + 1)) = M.1 23 := k1.symm
    rw [if_pos q, tkC, tcd]
    by_cases k : M.1 23 = 2
    · rw [m_word k, if_pos (k1'.trans k), e1, e2]
    · have ew : g_m_wordAhead t M = -1 := Classical.byContradiction (fun z => k (word_k z))
      rw [ew, if_neg (fun z => k (k1'.symm.trans z))]
      have h := lxK_rg (M.2 6) (tkO (M.2 6) t p) (tkP (M.2 6) t (p + 1))
      have k' : ¬ lxK (M.2 6) (tkO (M.2 6) t p) (tkP (M.2 6) t (p + 1)) = 2 := fun z => k (k1'.symm.trans z)
      generalize lxK (M.2 6) (tkO (M.2 6) t p) (tkP (M.2 6) t (p + 1)) = w at h k' ⊢
      rcases h with h | h | h | h | h | h | h <;> rw [h] at k' ⊢ <;> first | exact absurd rfl k' | decide
  · have ep : p = c := by have := hS.le.1; omega
    have ho : tkO (M.2 6) t p = t := by rw [ep]; exact hS.en
    have k : ¬ M.1 23 = 2 := by rw [(hC.2.1 ho).1]; decide
    have ew : g_m_wordAhead t M = -1 := Classical.byContradiction (fun z => k (word_k z))
    rw [ew, if_neg q]
    decide
end STEPS
/-! a command behind its word -/
noncomputable def g_bdy (tl n : Nat) (w : Int32) (Q : ZS) : Bool × ZS := if w = 0 then g_m_readsAssign tl n Q else if w = 1 then g_m_readsAdd tl n Q else if w = 2 then g_m_readsNegate tl n Q else if w = 3 then g_m_rp tl n Q else if w = 4 then g_m_readsSettle tl n Q else if w = 5 then g_m_readsAppend tl n Q else g_m_readsRemove tl n Q
theorem cmd_eq {t h : Nat} {M : ZS} (h1 : ¬ g_m_wordAhead t M = -1) (h7 : ¬ g_m_wordAhead t M = 7) : g_cmd t h M = if M.1 27 = 200 then (false, (g_m_fail 6 M).2) else g_bdy t (mn M) (g_m_wordAhead t M) (g_m_next t (sI 27 (M.1 27 + 1) M)) := by
  cases h with
  | zero =>
    rw [g_cmd, g_m_cmd0, if_neg h1, if_neg h7]
    rfl
  | succ h =>
    rw [g_cmd, g_m_cmdS, if_neg h1, if_neg h7]
    rfl
noncomputable def g_cb (c n : Nat) (x : Int32) (S : ZS) (T : TS) : ZS × TS := if x = 12 then g_c_2_readPush c S T else if x = 13 then (if (g_c_2_ends c true S T).1 = true then ((g_c_2_ends c true S T).2, (tPushEach T).1) else ((g_c_2_ends c true S T).2, T)) else if x = 14 then g_c_2_readAppend c n S T else if x = 15 then (if n ≤ 1 then (if (g_c_2_ends c false S T).1 = true then ((g_c_2_ends c false S T).2, tBuild (tSz T (n - 1) (tva T))) else ((g_c_2_ends c false S T).2, T)) else (if (g_c_2_ends c true S T).1 = true then ((g_c_2_ends c true S T).2, tBuild (tSz T (n - 1) (tva T))) else ((g_c_2_ends c true S T).2, T))) else g_c_2_readUpdate c n x S T
theorem cb_9 {c n : Nat} {S : ZS} {T : TS} : g_cb c n 9 S T = g_c_2_readUpdate c n 9 S T := by rw [g_cb, if_neg (by decide), if_neg (by decide), if_neg (by decide), if_neg (by decide)]
theorem cb_10 {c n : Nat} {S : ZS} {T : TS} : g_cb c n 10 S T = g_c_2_readUpdate c n 10 S T := by rw [g_cb, if_neg (by decide), if_neg (by decide), if_neg (by decide), if_neg (by decide)]
theorem cb_11 {c n : Nat} {S : ZS} {T : TS} : g_cb c n 11 S T = g_c_2_readUpdate c n 11 S T := by rw [g_cb, if_neg (by decide), if_neg (by decide), if_neg (by decide), if_neg (by decide)]
theorem cb_12 {c n : Nat} {S : ZS} {T : TS} : g_cb c n 12 S T = g_c_2_readPush c S T := by rw [g_cb, if_pos rfl]
theorem cb_13 {c n : Nat} {S : ZS} {T : TS} : g_cb c n 13 S T = (if (g_c_2_ends c true S T).1 = true then ((g_c_2_ends c true S T).2, (tPushEach T).1) else ((g_c_2_ends c true S T).2, T)) := by rw [g_cb, if_neg (by decide), if_pos rfl]
theorem cb_14 {c n : Nat} {S : ZS} {T : TS} : g_cb c n 14 S T = g_c_2_readAppend c n S T := by rw [g_cb, if_neg (by decide), if_neg (by decide), if_pos rfl]
theorem cb_15 {c n : Nat} {S : ZS} {T : TS} : g_cb c n 15 S T = (if n ≤ 1 then (if (g_c_2_ends c false S T).1 = true then ((g_c_2_ends c false S T).2, tBuild (tSz T (n - 1) (tva T))) else ((g_c_2_ends c false S T).2, T)) else (if (g_c_2_ends c true S T).1 = true then ((g_c_2_ends c true S T).2, tBuild (tSz T (n - 1) (tva T))) else ((g_c_2_ends c true S T).2, T))) := by rw [g_cb, if_neg (by decide), if_neg (by decide), if_neg (by decide), if_pos rfl]
theorem cls_d (b : Bool) (A B : ZS × TS) : (sI 6 ((if b = true then A else B).1.1 6 + 1) (if b = true then A else B).1, (if b = true then A else B).2) = if b = true then (sI 6 (A.1.1 6 + 1) A.1, A.2) else (sI 6 (B.1.1 6 + 1) B.1, B.2) := by
  cases b
  · rw [if_neg Bool.false_ne_true, if_neg Bool.false_ne_true]
  · rw [if_pos rfl, if_pos rfl]
theorem cls_eq {c n : Nat} {x : Int32} {S : ZS} {T : TS} (hx : xe S < 200) (h : x = 9 ∨ x = 10 ∨ x = 11 ∨ x = 12 ∨ x = 13 ∨ x = 14 ∨ x = 15) : g_c_2_readCommand c n x S T = (sI 6 ((g_cb c n x (sI 5 (nI (sp S + 1)) S) T).1.1 6 + 1) (g_cb c n x (sI 5 (nI (sp S + 1)) S) T).1, (g_cb c n x (sI 5 (nI (sp S + 1)) S) T).2) := by
  rw [g_c_2_readCommand, if_pos hx]
  generalize sI 5 (nI (sp S + 1)) S = Q
  rcases h with rfl | rfl | rfl | rfl | rfl | rfl | rfl
  · rw [if_pos rfl, cb_9]
  · rw [if_neg (show ¬ (10 : Int32) = 9 by decide), if_pos rfl, cb_10]
  · rw [if_neg (show ¬ (11 : Int32) = 9 by decide), if_neg (show ¬ (11 : Int32) = 10 by decide), if_pos rfl, cb_11]
  · rw [if_neg (show ¬ (12 : Int32) = 9 by decide), if_neg (show ¬ (12 : Int32) = 10 by decide), if_neg (show ¬ (12 : Int32) = 11 by decide), if_pos rfl, cb_12]
  · rw [if_neg (show ¬ (13 : Int32) = 9 by decide), if_neg (show ¬ (13 : Int32) = 10 by decide), if_neg (show ¬ (13 : Int32) = 11 by decide), if_neg (show ¬ (13 : Int32) = 12 by decide), if_pos rfl, cb_13, cls_d]
  · rw [if_neg (show ¬ (14 : Int32) = 9 by decide), if_neg (show ¬ (14 : Int32) = 10 by decide), if_neg (show ¬ (14 : Int32) = 11 by decide), if_neg (show ¬ (14 : Int32) = 12 by decide), if_neg (show ¬ (14 : Int32) = 13 by decide), if_pos rfl, cb_14]
  · rw [if_neg (show ¬ (15 : Int32) = 9 by decide), if_neg (show ¬ (15 : Int32) = 10 by decide), if_neg (show ¬ (15 : Int32) = 11 by decide), if_neg (show ¬ (15 : Int32) = 12 by decide), if_neg (show ¬ (15 : Int32) = 13 by decide), if_neg (show ¬ (15 : Int32) = 14 by decide), cb_15]
    by_cases k : n ≤ 1
    · rw [if_pos k, if_pos k, cls_d]
    · rw [if_neg k, if_neg k, cls_d]
section BODY
variable {x : Nat → Int32} {t c p e u n : Nat} {S M : ZS} {T : TS}
theorem body_sim {k : Int32} (hS : sP x t c p e S) (hM : sC x t p u M) (hR : Rel n T (M.2 0)) (hO : mOK n M) (h : k = 9 ∨ k = 10 ∨ k = 11 ∨ k = 12 ∨ k = 13 ∨ k = 14 ∨ k = 15) : rdO x t c p u S (g_cb (c + 1) n k S T) (g_bdy t n (wA k) M) := by
  rcases h with rfl | rfl | rfl | rfl | rfl | rfl | rfl
  · rw [show wA 9 = 0 by decide, g_bdy, if_pos rfl, cb_9]; exact c_assign hS hM hR hO
  · rw [show wA 10 = 1 by decide, g_bdy, if_neg (by decide), if_pos rfl, cb_10]; exact c_add hS hM hR hO
  · rw [show wA 11 = 2 by decide, g_bdy, if_neg (by decide), if_neg (by decide), if_pos rfl, cb_11]; exact c_negate hS hM hR hO
  · rw [show wA 12 = 3 by decide, g_bdy, if_neg (by decide), if_neg (by decide), if_neg (by decide), if_pos rfl, cb_12]; exact c_push hS hM hR hO
  · rw [show wA 13 = 4 by decide, g_bdy, if_neg (by decide), if_neg (by decide), if_neg (by decide), if_neg (by decide), if_pos rfl, cb_13]; exact c_settle hS hM hR hO
  · rw [show wA 14 = 5 by decide, g_bdy, if_neg (by decide), if_neg (by decide), if_neg (by decide), if_neg (by decide), if_neg (by decide), if_pos rfl, cb_14]; exact c_append hS hM hR hO
  · rw [show wA 15 = 6 by decide, g_bdy, if_neg (by decide), if_neg (by decide), if_neg (by decide), if_neg (by decide), if_neg (by decide), if_neg (by decide), cb_15]; exact c_remove hS hM hR hO
end BODY
