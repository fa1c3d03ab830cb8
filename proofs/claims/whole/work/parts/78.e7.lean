/-- what holds at each step of a script -/
def scR (c : Nat) (S : ZS) (TU : TS) : Prop := scO c S ∧ scN c S ∧ (S.1 9 = nI (so S) ∧ so S ≤ 3) ∧ (S.1 6 = nI (xe S) ∧ xe S ≤ 200) ∧ (∀ k, k < so S → ∃ b, S.2 7 k = nI b ∧ b ≤ c) ∧ (S.1 7 = 0 → tOK TU)
theorem so_of {S R : ZS} (h : R.1 9 = S.1 9) : so R = so S := by rw [so, so, h]
theorem xe_of {S R : ZS} (h : R.1 6 = S.1 6) : xe R = xe S := by rw [xe, xe, h]
theorem xe_nI {S : ZS} {e : Nat} (h : S.1 6 = nI e) (he : e < 2 ^ 31) : xe S = e := by rw [xe, h, nI_clamp he]
theorem scR.kf {c : Nat} {S R : ZS} {TU TV : TS} (h : scR c S TU) (g : kf S R) (ho : scO c R) (hT : R.1 7 = 0 → tOK TV) : scR c R TV := by
  obtain ⟨_, h2, h3, h4, h5, _⟩ := h
  refine ⟨ho, h2.of (by rw [g.2.2.2]), ⟨by rw [g.2.2.1, so_of g.2.2.1]; exact h3.1, by rw [so_of g.2.2.1]; exact h3.2⟩, ⟨by rw [g.2.1, xe_of g.2.1]; exact h4.1, by rw [xe_of g.2.1]; exact h4.2⟩, fun k hk => ?_, hT⟩
  rw [g.2.2.2]
  exact h5 k (by rw [so_of g.2.2.1] at hk; exact hk)
theorem fail_R {c : Nat} {x : Int32} {S : ZS} {TU : TS} (h : scR c S TU) (hx : ¬ x = 0) : scR c (g_c_2_fail x S TU) TU :=
  h.kf kf_fail (fail_sc h.1) (fun e => absurd e (fail_err hx))
theorem kf_I5 {v : Int32} {S : ZS} : kf S (sI 5 v S) := ⟨rfl, rfl, rfl, rfl⟩
/-- one command more -/
theorem xe_R {c : Nat} {S R : ZS} {TU TV : TS} (h : scR c S TU) (g : kf S R) (ho : scO c R) (hT : tOK TV) (hx : xe S < 200) : scR c (sI 6 (R.1 6 + 1) R) TV := by
  have h9 := h.kf (TV := TV) g ho (fun _ => hT)
  obtain ⟨a1, a2, a3, a4, a5, a6⟩ := h9
  have e : (sI 6 (R.1 6 + 1) R).1 6 = nI (xe S + 1) := by
    show R.1 6 + 1 = _
    rw [a4.1, xe_of g.2.1]
    exact zq1 _
  have e2 := xe_nI e (by omega)
  exact ⟨a1.of rfl rfl, a2.of rfl, a3, ⟨by rw [e2]; exact e, by rw [e2]; omega⟩, a5, fun _ => hT⟩
theorem cmd_R {c : Nat} {x : Int32} {S : ZS} {TU : TS} (h : scR c S TU) (hr : sp S < c) (hT : tOK TU) : scR c (g_c_2_readCommand c (tz TU) x S TU).1 (g_c_2_readCommand c (tz TU) x S TU).2 := by
  have hA := adv_sc h.1 hr
  have kA : kf S (sI 5 (nI (sp S + 1)) S) := kf_I5
  rw [g_c_2_readCommand]
  split
  next q =>
    repeat' split
    all_goals first
      | exact xe_R h (kA.tr (upd_all hA).2.1) (upd_all hA).1 (hT.same (upd_all hA).2.2) q
      | exact xe_R h (kA.tr (push_all hA).2.1) (push_all hA).1 (hT.same (push_all hA).2.2) q
      | exact xe_R h (kA.tr (app_all hA hT.1 hT.2.1 hT.2.2).2.1) (app_all hA hT.1 hT.2.1 hT.2.2).1 (app_all hA hT.1 hT.2.1 hT.2.2).2.2 q
      | exact xe_R h (kA.tr kf_ends) (ends_sc hA) (hT.same (tn_pushEach _)) q
      | exact xe_R h (kA.tr kf_ends) (ends_sc hA) hT q
      | exact absurd (ends_ok (by assumption)).1 Bool.false_ne_true
      | exact xe_R h (kA.tr kf_ends) (ends_sc hA) (tOK.of (n := tz TU - 1) (tn_build _) (by omega) (by have := hT.2.2; omega)) q
  next q => exact fail_R h (by decide)
theorem close_R {c k : Nat} {S : ZS} {TU : TS} (h : scR c S TU) (ho : S.1 9 = nI (k + 1)) (hk : k < 3) (hr : sp S < c) (hT : tOK TU) : scR c (g_c_2_closeRepeat c k S TU) TU := by
  obtain ⟨a1, a2, a3, a4, a5, a6⟩ := h
  have e9 := so_nI ho (by omega)
  rw [g_c_2_closeRepeat]
  repeat' split
  next =>
    obtain ⟨b, hb, hbc⟩ := a5 k (by omega)
    have hb9 : b < 2 ^ 31 := by have := a1.2.1; omega
    refine ⟨⟨a1.1, a1.2.1, ?_, ?_⟩, a2.of rfl, a3, a4, ?_, fun _ => hT⟩
    · rw [sp_nI (p := b) (by show S.2 7 k = _; exact hb) hb9]
      exact hb
    · rw [sp_nI (p := b) (by show S.2 7 k = _; exact hb) hb9]
      exact hbc
    · exact a5
  all_goals
    have hS : scO c (sI 5 (nI (sp S + 1)) (sI 9 (nI k) (sA 6 k (S.2 6 k - 1) S))) := a1.adv hr rfl rfl
    have e : (g_c_2_expect c 6 (sI 5 (nI (sp S + 1)) (sI 9 (nI k) (sA 6 k (S.2 6 k - 1) S))) TU).1 9 = nI k := by rw [exp_f.2.2.1]; rfl
    have e2 := so_nI e (by omega)
    have e3 := xe_of (S := S) (R := g_c_2_expect c 6 (sI 5 (nI (sp S + 1)) (sI 9 (nI k) (sA 6 k (S.2 6 k - 1) S))) TU) (by rw [exp_f.2.1]; rfl)
    refine ⟨exp_sc hS (by decide), a2.of (by rw [exp_f.2.2.2]; rfl), ⟨by rw [e2]; exact e, by omega⟩, ⟨by rw [e3, exp_f.2.1]; exact a4.1, by rw [e3]; exact a4.2⟩, fun j hj => ?_, fun _ => hT⟩
    rw [exp_f.2.2.2]
    exact a5 j (by omega)
theorem open_R {c : Nat} {S : ZS} {TU : TS} (h : scR c S TU) (hr : sp S < c) (hT : tOK TU) : scR c (g_c_2_openRepeat c S TU) TU := by
  obtain ⟨a1, a2, a3, a4, a5, a6⟩ := h
  rw [g_c_2_openRepeat]
  split
  next => exact fail_R ⟨a1, a2, a3, a4, a5, a6⟩ (by decide)
  next q =>
    generalize eR : g_c_2_expect c 4 (g_c_2_readNumber c 1 20 (sI 5 (nI (sp S + 1)) S) TU).2 TU = R
    have hR : scO c R := by rw [← eR]; exact exp_sc (num_sc (adv_sc a1 hr)) (by decide)
    have kR : kf S R := by rw [← eR]; exact (kf_I5.tr kf_num).tr kf_exp
    have e : ∀ (v w z y : Int32), (sI 9 (nI (so S + 1)) (sA 8 (so S) v (sA 7 (so S) w (sA 6 (so S) z R)))).1 9 = nI (so S + 1) := fun _ _ _ _ => rfl
    refine ⟨hR.of rfl rfl, (a2.of (by rw [kR.2.2.2])).of rfl, ?_, ?_, ?_, fun _ => hT⟩
    · rw [so_nI (p := so S + 1) rfl (by have := a3.2; omega)]
      exact ⟨rfl, by omega⟩
    · rw [xe_of (S := R) rfl, xe_of kR.2.1]
      exact ⟨kR.2.1.trans a4.1, a4.2⟩
    · intro k hk
      rw [so_nI (p := so S + 1) rfl (by have := a3.2; omega)] at hk
      by_cases ek : k = so S
      · subst ek
        refine ⟨sp R, ?_, hR.2.2.2⟩
        show (sA 8 _ _ (sA 7 (so S) _ _)).2 7 (so S) = _
        rw [sA_x (by decide), sA_same]
        first | rfl | exact hR.2.2.1
      · obtain ⟨b, hb, hbc⟩ := a5 k (by omega)
        refine ⟨b, ?_, hbc⟩
        show (sA 8 _ _ (sA 7 (so S) _ (sA 6 _ _ R))).2 7 k = _
        rw [sA_x (by decide), sA_o ek, sA_x (by decide), kR.2.2.2]
        exact hb
