variable {sc : SC}
/-! ===== the sequence ===== -/
section SEQ
variable {x : Nat → Int32} {t c p q e u n : Nat} {S M : ZS} {T : TS}
theorem sC_A0 {i : Nat} {v : Int32} (h : sC x t p u M) : sC x t p u (sA 0 i v M) := ⟨h.1.sA, (sA_x (by decide)).trans h.2.1, h.2.2⟩
theorem seqL_no {fu k j : Nat} (h : ¬ S.1 7 = 0) : g_c_2_readSequence_L c fu k j S T = (S, T) := by
  have e : g_c_2_expect c 6 S T = S := exp_err h
  cases fu with
  | zero => rw [g_c_2_readSequence_L, e, if_neg h]
  | succ fu => rw [g_c_2_readSequence_L, if_neg h, e, if_neg h]
theorem full1 {v : Int32} {j : Nat} (hS : sP x t c p e S) (hM : sC x t p u M) : Fl c (if g_c_2_isAt (c + 1) 2 S T = true then g_c_2_expect (c + 1) 2 (g_c_2_fail 3 S T) T else g_c_2_expect (c + 1) 2 S T) (if (g_m_is 3 M).1 = true then (g_m_fail 3 (sA 12 j v M)).2 else (g_m_is 3 M).2) := by
  have hat := at_is hS.1 hM.2.2.1
  by_cases k : M.1 23 = 3
  · have hM2 := hM.sA (i := j) (v := v)
    have f := fl_of (TU := T) (v := 3) hS.1 hM2.2.2.1 hS.2.1 hM2.2.2.2.2 (by decide)
    rw [if_pos ((c_isAt hS.1).mpr (hat.1.mpr k)), is_go k, if_pos rfl, c_expect_no f.1]
    exact f
  · have f := fl_of (TU := T) (v := 1) hS.1 hM.2.2.1 hS.2.1 hM.2.2.2.2 (by decide)
    rw [if_neg (fun z => k (hat.1.mp ((c_isAt hS.1).mp z))), is_st k, if_neg Bool.false_ne_true, exp_st hS (fun z => k (hat.1.mp z))]
    exact f
theorem val_ff (hS : sP x t c p e S) (hk : ¬ g_c_4_codeAt (c + 1) p S = 3) : (g_c_2_readValue (c + 1) false S T).2 = if g_c_2_isAt (c + 1) 2 S T = true then g_c_2_expect (c + 1) 2 (g_c_2_fail 3 S T) T else g_c_2_expect (c + 1) 2 S T := by
  rw [g_c_2_readValue, if_pos hS.2.1, if_neg (fun z => hk ((c_isAt hS.1).mp z)), if_neg Bool.false_ne_true]
  by_cases k : g_c_2_isAt (c + 1) 2 S T = true
  · rw [if_pos k, if_pos k]
  · rw [if_neg k, if_neg k]
theorem val_ft (hS : sP x t c p e S) (hk : g_c_4_codeAt (c + 1) p S = 3) : (g_c_2_readValue (c + 1) false S T).2 = if g_c_2_isAt (c + 1) 2 (sI 5 (nI (p + 1)) S) T = true then g_c_2_expect (c + 1) 2 (g_c_2_fail 3 (sI 5 (nI (p + 1)) S) T) T else g_c_2_expect (c + 1) 2 (sI 5 (nI (p + 1)) S) T := by
  rw [g_c_2_readValue, if_pos hS.2.1, if_pos ((c_isAt hS.1).mpr hk), if_neg Bool.false_ne_true, hS.1.sp]
  by_cases k : g_c_2_isAt (c + 1) 2 (sI 5 (nI (p + 1)) S) T = true
  · rw [if_pos k, if_pos k]
  · rw [if_neg k, if_neg k]
theorem b_full {j : Nat} (hS : sP x t c p e S) (hM : sC x t p u M) : Fl c (g_c_2_readValue (c + 1) false S T).2 (if (g_m_signed t j M).1 = true then (g_m_fail 3 (g_m_signed t j M).2).2 else (g_m_signed t j M).2) := by
  have hat := at_is hS.1 hM.2.2.1
  by_cases k : M.1 23 = 4
  · have hp : p < c := at_lt hS.1 hM.2.2.1 (by rw [k]; decide)
    have hS2 := hS.to (q := p + 1) (by omega)
    have hM2 := hM.next (hS.ho hp)
    have f := full1 (T := T) (v := -(((g_m_is 3 (g_m_next t M)).2).1 26)) (j := j) hS2 hM2
    rw [val_ft hS (hat.2.2.1.mpr k), g_m_signed, if_pos k]
    by_cases k3 : (g_m_next t M).1 23 = 3
    · rw [is_go k3] at f ⊢
      exact f
    · rw [is_st k3] at f ⊢
      exact f
  · have f := full1 (T := T) (v := ((g_m_is 3 M).2).1 26) (j := j) hS hM
    rw [val_ff hS (fun z => k (hat.2.2.1.mp z)), g_m_signed, if_neg k]
    by_cases k3 : M.1 23 = 3
    · rw [is_go k3] at f ⊢
      exact f
    · rw [is_st k3] at f ⊢
      exact f
def sqO (x : Nat → Int32) (t c e u : Nat) (S M : ZS) (T : TS) (R : ZS × TS) (r : Bool × ZS) : Prop :=
  (r.1 = true ∧ ∃ q m, 1 ≤ m ∧ m ≤ 40 ∧ q < c ∧ sP x t c (q + 1) e R.1 ∧ sC x t q u r.2 ∧ R.1.1 9 = S.1 9 ∧ r.2.2 0 0 = nI m ∧ (∀ i, i < m → r.2.2 0 (4 + i) = R.1.2 5 i ∧ bd (R.1.2 5 i)) ∧ (∀ k, (1 ≤ k ∧ k < 4) ∨ 44 ≤ k → r.2.2 0 k = M.2 0 k) ∧ R.2 = tBuild (tSz (tClear T) m (va_cpy (R.1.2 5) (tva (tClear T)) 0 0 m))) ∨ (r.1 = false ∧ Fl c R.1 r.2)
theorem seq_sim : ∀ (fu n : Nat) (more : Bool) (p : Nat) (S M : ZS), n + fu = 41 → n ≤ 40 → sP x t c p e S → sC x t p u M → M.2 0 0 = nI n → (∀ i, i < n → M.2 0 (4 + i) = S.2 5 i ∧ bd (S.2 5 i)) → ((more = true ∧ n = 0) ∨ (1 ≤ n ∧ more = decide (M.1 23 = 3 ∨ M.1 23 = 4))) →
    sqO x t c e u S M T (g_c_2_readSequence_L (c + 1) fu n n S T) (g_m_readsSequence_L t fu more n M) := by
  intro fu
  induction fu with
  | zero => intro n more p S M hn h40; omega
  | succ fu ih =>
    intro n more p S M hn h40 hS hM h0 hv hm
    have hat := at_is hS.1 hM.2.2.1
    rw [g_m_readsSequence_L, g_c_2_readSequence_L, if_pos hS.2.1]
    by_cases mo : more = true
    · rw [if_pos mo]
      have n6 : ¬ n ≤ 0 → ¬ g_c_2_isAt (c + 1) 6 S T = true := fun hn0 z => by
        have k1 := hat.2.1.mp ((c_isAt hS.1).mp z)
        rcases hm with ⟨-, hm⟩ | ⟨-, hm⟩
        · omega
        · rw [mo] at hm
          rcases of_decide_eq_true hm.symm with k | k <;> rw [k1] at k <;> exact absurd k (by decide)
      by_cases k40 : 40 ≤ n
      · have hn40 : n = 40 := by omega
        have hn0 : ¬ n ≤ 0 := by omega
        have f := b_full (T := T) (j := 0) hS hM
        rw [if_neg hn0, if_neg (n6 hn0), if_pos k40, seqL_no f.1, if_pos hn40]
        right
        by_cases ks : (g_m_signed t 0 M).1 = true
        · rw [if_pos ks] at f ⊢
          exact ⟨rfl, f⟩
        · rw [if_neg ks] at f ⊢
          exact ⟨rfl, f⟩
      · have eC : (if n ≤ 0 then (if 40 ≤ n then g_c_2_readSequence_L (c + 1) fu n (n + 1) (g_c_2_readValue (c + 1) false S T).2 T else g_c_2_readSequence_L (c + 1) fu (n + 1) (n + 1) (sA 5 n (g_c_2_readValue (c + 1) true S T).1 (g_c_2_readValue (c + 1) true S T).2) T) else (if g_c_2_isAt (c + 1) 6 S T = true then (if (g_c_2_expect (c + 1) 6 S T).1 7 = 0 then (g_c_2_expect (c + 1) 6 S T, tBuild (tSz (tClear T) n (va_cpy ((g_c_2_expect (c + 1) 6 S T).2 5) (tva (tClear T)) 0 0 n))) else (g_c_2_expect (c + 1) 6 S T, T)) else (if 40 ≤ n then g_c_2_readSequence_L (c + 1) fu n (n + 1) (g_c_2_readValue (c + 1) false S T).2 T else g_c_2_readSequence_L (c + 1) fu (n + 1) (n + 1) (sA 5 n (g_c_2_readValue (c + 1) true S T).1 (g_c_2_readValue (c + 1) true S T).2) T))) = g_c_2_readSequence_L (c + 1) fu (n + 1) (n + 1) (sA 5 n (g_c_2_readValue (c + 1) true S T).1 (g_c_2_readValue (c + 1) true S T).2) T := by
          by_cases hn0 : n ≤ 0
          · rw [if_pos hn0, if_neg k40]
          · rw [if_neg hn0, if_neg (n6 hn0), if_neg k40]
        rw [eC, if_neg (show ¬ n = 40 by omega)]
        rcases b_val (TU := T) (j := 0) hS hM with ⟨q, v, N, q1, q2, q3, q4, q5, q6, q7, q8⟩ | ⟨h1, h2⟩
        · have hN0 := sC_A0 (i := 0) (v := nI (n + 1)) (sC_A0 (i := 4 + n) (v := v) (q5.sA (i := 0) (v := v)))
          have hNx := hN0.next (hS.ho q2)
          have es : s_m_readsSequence_1 t n M = g_m_next t (sA 0 0 (nI (n + 1)) (sA 0 (4 + n) v (sA 12 0 v N))) := by
            rw [s_m_readsSequence_1, q3]
            show g_m_next t (sA 0 0 (nI (n + 1)) (sA 0 (4 + n) ((sA 12 0 v N).2 12 0) (sA 12 0 v N))) = _
            rw [sA_same]
          rw [es, q3, q4, if_pos rfl]
          have hS2 : sP x t c (q + 1) e (sA 5 n v (sI 5 (nI (q + 1)) S)) := sP_A (hS.to (by omega)) (by decide) (by decide) (by decide)
          have e0 : ∀ k, (g_m_next t (sA 0 0 (nI (n + 1)) (sA 0 (4 + n) v (sA 12 0 v N)))).2 0 k = if k = 0 then nI (n + 1) else if k = 4 + n then v else M.2 0 k := fun k => by
            rw [next_2 hN0.1.tk]
            by_cases y0 : k = 0
            · rw [if_pos y0, y0, sA_same]
            · rw [if_neg y0, sA_o y0]
              by_cases y1 : k = 4 + n
              · rw [if_pos y1, y1, sA_same]
              · rw [if_neg y1, sA_o y1, sA_x (by decide), q6]
          have hv2 : ∀ i, i < n + 1 → (g_m_next t (sA 0 0 (nI (n + 1)) (sA 0 (4 + n) v (sA 12 0 v N)))).2 0 (4 + i) = (sA 5 n v (sI 5 (nI (q + 1)) S)).2 5 i ∧ bd ((sA 5 n v (sI 5 (nI (q + 1)) S)).2 5 i) := fun i hi => by
            rw [e0, if_neg (by omega)]
            by_cases y : i = n
            · rw [y, if_pos rfl, sA_same]; exact ⟨rfl, bd_val q8⟩
            · rw [if_neg (by omega), sA_o y]; exact hv i (by omega)
          have fin : ∀ b : Bool, b = decide ((g_m_next t (sA 0 0 (nI (n + 1)) (sA 0 (4 + n) v (sA 12 0 v N)))).1 23 = 3 ∨ (g_m_next t (sA 0 0 (nI (n + 1)) (sA 0 (4 + n) v (sA 12 0 v N)))).1 23 = 4) → sqO x t c e u S M T (g_c_2_readSequence_L (c + 1) fu (n + 1) (n + 1) (sA 5 n v (sI 5 (nI (q + 1)) S)) T) (g_m_readsSequence_L t fu b (n + 1) (g_m_next t (sA 0 0 (nI (n + 1)) (sA 0 (4 + n) v (sA 12 0 v N))))) := fun b hb => by
            have h9 := ih (n + 1) b (q + 1) _ _ (by omega) (by omega) hS2 hNx (by rw [e0, if_pos rfl]) hv2 (Or.inr ⟨by omega, hb⟩)
            have e9 : (sA 5 n v (sI 5 (nI (q + 1)) S)).1 9 = S.1 9 := by
              show (sI 5 (nI (q + 1)) S).1 9 = _
              rw [sI_o (by decide)]
            rcases h9 with ⟨o1, q9, m, m1, m2, m3, m4, m5, m6, m7, m8, m9, m10⟩ | h9
            · exact Or.inl ⟨o1, q9, m, m1, m2, m3, m4, m5, m6.trans e9, m7, m8, fun k hk => by rw [m9 k hk, e0, if_neg (by omega), if_neg (by omega)], m10⟩
            · exact Or.inr h9
          dsimp only
          by_cases k3 : (g_m_next t (sA 0 0 (nI (n + 1)) (sA 0 (4 + n) v (sA 12 0 v N)))).1 23 = 3
          · rw [if_pos k3]
            exact fin true (decide_eq_true (Or.inl k3)).symm
          · rw [if_neg k3]
            by_cases k4 : (g_m_next t (sA 0 0 (nI (n + 1)) (sA 0 (4 + n) v (sA 12 0 v N)))).1 23 = 4
            · rw [if_pos k4]
              exact fin true (decide_eq_true (Or.inr k4)).symm
            · rw [if_neg k4]
              exact fin false (decide_eq_false (fun z => z.elim k3 k4)).symm
        · have f := fl_sA (i := n) (v := (g_c_2_readValue (c + 1) true S T).1) h2 (show ¬ 3 = 5 by decide)
          rw [seqL_no f.1, h1, if_neg Bool.false_ne_true]
          exact Or.inr ⟨rfl, f⟩
    · rw [if_neg mo]
      rcases hm with ⟨hm, -⟩ | ⟨hn1, hm⟩
      · exact absurd hm mo
      have hk : ¬ (M.1 23 = 3 ∨ M.1 23 = 4) := fun z => mo (hm.trans (decide_eq_true z))
      rw [if_neg (show ¬ n ≤ 0 by omega)]
      by_cases k1 : M.1 23 = 1
      · have hp : p < c := at_lt hS.1 hM.2.2.1 (by rw [k1]; decide)
        have hc6 := hat.2.1.mpr k1
        have hS2 := hS.to (q := p + 1) (by omega)
        rw [if_pos ((c_isAt hS.1).mpr hc6), exp_go hS hc6, if_pos hS2.2.1, is_go k1]
        refine Or.inl ⟨rfl, p, n, hn1, h40, hp, hS2, hM, ?_, h0, hv, fun _ _ => rfl, ?_⟩
        · show (sI 5 (nI (p + 1)) S).1 9 = _
          rw [sI_o (by decide)]
        · dsimp only
      · have f := fl_of (TU := T) (v := 1) hS.1 hM.2.2.1 hS.2.1 hM.2.2.2.2 (by decide)
        have n3 : ¬ g_c_2_isAt (c + 1) 3 S T = true := fun z => hk (Or.inr (hat.2.2.1.mp ((c_isAt hS.1).mp z)))
        have n2 : ¬ g_c_4_codeAt (c + 1) p S = 2 := fun z => hk (Or.inl (hat.1.mp z))
        have n2' : ¬ g_c_2_isAt (c + 1) 2 S T = true := fun z => n2 ((c_isAt hS.1).mp z)
        have eV : ∀ b : Bool, (g_c_2_readValue (c + 1) b S T).2 = g_c_2_fail 1 S T := fun b => by
          rw [g_c_2_readValue, if_pos hS.2.1, if_neg n3, exp_st hS n2]
          cases b
          · rw [if_neg Bool.false_ne_true, if_neg n2']
          · rw [if_pos rfl]
        rw [if_neg (fun z => k1 (hat.2.1.mp ((c_isAt hS.1).mp z))), is_st k1]
        right
        by_cases k40 : 40 ≤ n
        · rw [if_pos k40, eV, seqL_no f.1]
          exact ⟨rfl, f⟩
        · have f2 := fl_sA (i := n) (v := (g_c_2_readValue (c + 1) true S T).1) f (show ¬ 3 = 5 by decide)
          rw [if_neg k40, eV, seqL_no f2.1]
          exact ⟨rfl, f2⟩
end SEQ
