variable {sc : SC}

/-- what holds at each step of a script -/
def scR (c : Nat) (S : ZS) (TU : TS) : Prop := scO c S ∧ scN c S ∧ (S.1 9 = nI (so S) ∧ so S ≤ 3) ∧ (S.1 6 = nI (xe S) ∧ xe S ≤ 200) ∧ (∀ k, k < so S → ∃ b, S.2 7 k = nI b ∧ b ≤ c) ∧ (S.1 7 = 0 → tOK TU)
theorem so_of {S R : ZS} (h : R.1 9 = S.1 9) : so R = so S := by rw [so, so, h]
theorem xe_of {S R : ZS} (h : R.1 6 = S.1 6) : xe R = xe S := by rw [xe, xe, h]
theorem xe_nI {S : ZS} {e : Nat} (h : S.1 6 = nI e) (he : e < 2 ^ 31) : xe S = e := by rw [xe, h, nI_clamp he]
theorem scR.kf {c : Nat} {S R : ZS} {TU TV : TS} (h : scR c S TU) (g : kf S R) (ho : scO c R) (hT : R.1 7 = 0 → tOK TV) : scR c R TV := by
  obtain ⟨_, h2, h3, h4, h5, _⟩ := h
  refine ⟨ho, h2.of (by rw [g.2.2.2]), ⟨by rw [g.2.2.1, so_of g.2.2.1]; exact h3.1, by rw [so_of g.2.2.1]; exact h3.2⟩, ⟨by rw [g.2.1, xe_of g.2.1]; exact h4.1, by rw [xe_of g.2.1]; exact h4.2⟩, fun k hk => ?_, hT⟩
  rw [g.2.2.2]
  exact h5 k (by rw [so_of g.2.2.1] at hk; exact hk)
theorem fail_R {c : Nat} {x : Int32} {S : ZS} {TU : TS} (h : scR c S TU) (hx : ¬ x = 0) : scR c (g_c_2_fail x S TU) TU :=
  h.kf kf_fail (fail_sc h.1) (fun e => absurd e (fail_err hx))
theorem kf_I5 {v : Int32} {S : ZS} : kf S (sI 5 v S) := ⟨rfl, rfl, rfl, rfl⟩
/-- one command more -/
theorem xe_R {c : Nat} {S R : ZS} {TU TV : TS} (h : scR c S TU) (g : kf S R) (ho : scO c R) (hT : tOK TV) (hx : xe S < 200) : scR c (sI 6 (R.1 6 + 1) R) TV := by
  have h9 := h.kf (TV := TV) g ho (fun _ => hT)
  obtain ⟨a1, a2, a3, a4, a5, a6⟩ := h9
  have e : (sI 6 (R.1 6 + 1) R).1 6 = nI (xe S + 1) := by
    show R.1 6 + 1 = _
    rw [a4.1, xe_of g.2.1]
    exact zq1 _
  have e2 := xe_nI e (by omega)
  exact ⟨a1.of rfl rfl, a2.of rfl, a3, ⟨by rw [e2]; exact e, by rw [e2]; omega⟩, a5, fun _ => hT⟩
theorem cmd_R {c : Nat} {x : Int32} {S : ZS} {TU : TS} (h : scR c S TU) (hr : sp S < c) (hT : tOK TU) : scR c (g_c_2_readCommand c (tz TU) x S TU).1 (g_c_2_readCommand c (tz TU) x S TU).2 := by
  have hA := adv_sc h.1 hr
  have kA : kf S (sI 5 (nI (sp S + 1)) S) := kf_I5
  have hU := upd_all (n := tz TU) (x := x) (TU := TU) hA
  have hP := push_all (TU := TU) hA
  have hQ := app_all hA hT.1 hT.2.1 hT.2.2
  have t1 : tn (tPushEach TU).1 = tn TU := tn_pushEach TU
  have t2 : tn (tBuild (tSz TU (tz TU - 1) (tva TU))) = nI (tz TU - 1) := by rw [tn_build]; rfl
  rw [g_c_2_readCommand]
  have e1 : ∀ b, scO c (g_c_2_ends c b (sI 5 (nI (sp S + 1)) S) TU).2 ∧ kf (sI 5 (nI (sp S + 1)) S) (g_c_2_ends c b (sI 5 (nI (sp S + 1)) S) TU).2 := fun b => ⟨ends_sc hA, kf_ends⟩
  have e2 : ¬ (g_c_2_ends c false (sI 5 (nI (sp S + 1)) S) TU).1 = true := fun q => absurd (ends_ok q).1 Bool.false_ne_true
  generalize g_c_2_readUpdate c (tz TU) x (sI 5 (nI (sp S + 1)) S) TU = U at hU ⊢
  generalize g_c_2_readPush c (sI 5 (nI (sp S + 1)) S) TU = P at hP ⊢
  generalize g_c_2_readAppend c (tz TU) (sI 5 (nI (sp S + 1)) S) TU = Q at hQ ⊢
  generalize (tPushEach TU).1 = T1 at t1 ⊢
  generalize tBuild (tSz TU (tz TU - 1) (tva TU)) = T2 at t2 ⊢
  split
  next q =>
    have r1 := xe_R h (kA.tr hU.2.1) hU.1 (hT.same hU.2.2) q
    have r2 := xe_R h (kA.tr hP.2.1) hP.1 (hT.same hP.2.2) q
    have r3 := xe_R h (kA.tr hQ.2.1) hQ.1 hQ.2.2 q
    have r4 := xe_R h (kA.tr (e1 true).2) (e1 true).1 (hT.same t1) q
    have r5 := xe_R h (kA.tr (e1 true).2) (e1 true).1 hT q
    have r6 : ¬ tz TU ≤ 1 → _ := fun c9 => xe_R h (kA.tr (e1 true).2) (e1 true).1 (tOK.of t2 (by omega) (by have := hT.2.2; omega)) q
    have r7 := xe_R h (kA.tr (e1 false).2) (e1 false).1 hT q
    generalize g_c_2_ends c true (sI 5 (nI (sp S + 1)) S) TU = E1 at r4 r5 r6 ⊢
    split
    · exact r1
    · split
      · exact r1
      · split
        · exact r1
        · split
          · exact r2
          · split
            · split
              · exact r4
              · exact r5
            · split
              · exact r3
              · split
                next c9 => exact r7
                next c9 =>
                  split
                  · exact r6 c9
                  · exact r5
  next q => exact fail_R h (by decide)
theorem close_R {c k : Nat} {S : ZS} {TU : TS} (h : scR c S TU) (ho : S.1 9 = nI (k + 1)) (hk : k < 3) (hr : sp S < c) (hT : tOK TU) : scR c (g_c_2_closeRepeat c k S TU) TU := by
  obtain ⟨a1, a2, a3, a4, a5, a6⟩ := h
  have e9 := so_nI ho (by omega)
  have hE : scR c (g_c_2_expect c 6 (sI 5 (nI (sp S + 1)) (sI 9 (nI k) (sA 6 k (S.2 6 k - 1) S))) TU) TU := by
    have hS : scO c (sI 5 (nI (sp S + 1)) (sI 9 (nI k) (sA 6 k (S.2 6 k - 1) S))) := a1.adv hr rfl rfl
    have e : (g_c_2_expect c 6 (sI 5 (nI (sp S + 1)) (sI 9 (nI k) (sA 6 k (S.2 6 k - 1) S))) TU).1 9 = nI k := by rw [exp_f.2.2.1]; rfl
    have e2 := so_nI e (by omega)
    have e3 := xe_of (S := S) (R := g_c_2_expect c 6 (sI 5 (nI (sp S + 1)) (sI 9 (nI k) (sA 6 k (S.2 6 k - 1) S))) TU) (by rw [exp_f.2.1]; rfl)
    refine ⟨exp_sc hS (by decide), a2.of (by rw [exp_f.2.2.2]; rfl), ⟨by rw [e2]; exact e, by omega⟩, ⟨by rw [e3, exp_f.2.1]; exact a4.1, by rw [e3]; exact a4.2⟩, fun j hj => ?_, fun _ => hT⟩
    rw [exp_f.2.2.2]
    exact a5 j (by omega)
  rw [g_c_2_closeRepeat]
  split
  · exact hE
  · split
    · exact hE
    · obtain ⟨b, hb, hbc⟩ := a5 k (by omega)
      have hb9 : b < 2 ^ 31 := by have := a1.2.1; omega
      have ep : sp (sI 5 (S.2 7 k) (sA 8 k (S.1 6) (sA 6 k (S.2 6 k - 1) S))) = b := sp_nI (show S.2 7 k = nI b from hb) hb9
      exact ⟨⟨a1.1, a1.2.1, by rw [ep]; exact hb, by rw [ep]; exact hbc⟩, a2.of rfl, a3, a4, a5, fun _ => hT⟩
theorem open_R {c : Nat} {S : ZS} {TU : TS} (h : scR c S TU) (hr : sp S < c) (hT : tOK TU) : scR c (g_c_2_openRepeat c S TU) TU := by
  obtain ⟨a1, a2, a3, a4, a5, a6⟩ := h
  rw [g_c_2_openRepeat]
  split
  case isFalse => exact fail_R ⟨a1, a2, a3, a4, a5, a6⟩ (by decide)
  case isTrue q =>
    generalize eR : g_c_2_expect c 4 (g_c_2_readNumber c 1 20 (sI 5 (nI (sp S + 1)) S) TU).2 TU = R
    have hR : scO c R := by rw [← eR]; exact exp_sc (num_sc (adv_sc a1 hr)) (by decide)
    have kR : kf S R := by rw [← eR]; exact (kf_I5.tr kf_num).tr kf_exp
    generalize (g_c_2_readNumber c 1 20 (sI 5 (nI (sp S + 1)) S) TU).1 = z
    generalize hQ : sI 9 (nI (so S + 1)) (sA 8 (so S) (R.1 6) (sA 7 (so S) (R.1 5) (sA 6 (so S) z R))) = Q
    have q9 : Q.1 9 = nI (so S + 1) := by rw [← hQ]; rfl
    have q4 : Q.1 4 = R.1 4 := by rw [← hQ]; rfl
    have q5 : Q.1 5 = R.1 5 := by rw [← hQ]; rfl
    have q6 : Q.1 6 = R.1 6 := by rw [← hQ]; rfl
    have r4 : Q.2 4 = R.2 4 := by rw [← hQ]; rfl
    have r7 : ∀ k, ¬ k = so S → Q.2 7 k = R.2 7 k := fun k hk => by
      rw [← hQ]
      show (sA 8 (so S) (R.1 6) (sA 7 (so S) (R.1 5) (sA 6 (so S) z R))).2 7 k = _
      rw [sA_x (by decide), sA_o hk, sA_x (by decide)]
    have r7s : Q.2 7 (so S) = R.1 5 := by
      rw [← hQ]
      show (sA 8 (so S) (R.1 6) (sA 7 (so S) (R.1 5) (sA 6 (so S) z R))).2 7 (so S) = _
      rw [sA_x (by decide), sA_same]
    have s9 : so Q = so S + 1 := so_nI q9 (by have := a3.2; omega)
    have s6 : xe Q = xe S := (xe_of q6).trans (xe_of kR.2.1)
    refine ⟨hR.of q4 q5, (a2.of (R := R) (by rw [kR.2.2.2])).of r4, ⟨by rw [s9]; exact q9, by omega⟩, ⟨by rw [s6, q6, kR.2.1]; exact a4.1, by rw [s6]; exact a4.2⟩, fun k hk => ?_, fun _ => hT⟩
    rw [s9] at hk
    by_cases ek : k = so S
    · subst ek
      exact ⟨sp R, r7s.trans hR.2.2.1, hR.2.2.2⟩
    · obtain ⟨b, hb, hbc⟩ := a5 k (by omega)
      exact ⟨b, by rw [r7 k ek, kR.2.2.2]; exact hb, hbc⟩
