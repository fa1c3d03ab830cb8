variable {sc : SC}
/-! what the updates leave: the texts, the token, the snapshots -/
def uF (S R : ZS) : Prop := (∀ k, ¬ k = 19 → ¬ k = 21 → ¬ k = 22 → R.1 k = S.1 k) ∧ (∀ j, 1 ≤ j → j ≤ 7 ∨ j = 12 → R.2 j = S.2 j) ∧ gF S R
theorem uF.rfl' (S : ZS) : uF S S := ⟨fun _ _ _ _ => rfl, fun _ _ _ => rfl, gF.rfl' S⟩
theorem uF.trans {S R Q : ZS} (h : uF S R) (g : uF R Q) : uF S Q := ⟨fun k a b c => (g.1 k a b c).trans (h.1 k a b c), fun j a b => (g.2.1 j a b).trans (h.2.1 j a b), h.2.2.trans g.2.2⟩
theorem uF_A {j i : Nat} {v : Int32} {S : ZS} (h : j = 0 ∨ j = 0 ∨ j = 11) : uF S (sA j i v S) := ⟨fun _ _ _ _ => rfl, fun q a b => sA_x (by omega), Or.inl ⟨rfl, sA_x (by omega), sA_x (by omega), sA_x (by omega)⟩⟩
theorem uF_I {k : Nat} {v : Int32} {S : ZS} (h : k = 21 ∨ k = 21 ∨ k = 22) : uF S (sI k v S) := ⟨fun q a b c => sI_o (by omega), fun _ _ _ => rfl, Or.inl ⟨sI_o (by omega), rfl, rfl, rfl⟩⟩
theorem uF_grows {n : Nat} (S : ZS) (h1 : 1 ≤ n) (h40 : n ≤ 40) : uF S (g_m_grows n S) := by
  have h := mEq_grows S h1 h40
  refine ⟨fun k a _ _ => h.1 k a, fun j a b => h.2 j (by omega) (by omega) (by omega), ?_⟩
  by_cases c : S.1 19 = nI n
  · rw [g_m_grows, if_pos c]; exact gF.rfl' S
  · have h2 := grL1 h1 h40 128 0 (sI 19 (nI n) S) (by omega) (fun j hj => absurd hj (Nat.not_lt_zero j))
    rw [g_m_grows, if_neg c]
    exact Or.inr ⟨n, h1, h40, by rw [h2.2.1]; exact sI_same _ _ _, fun k hk => (h2.1.1 k hk).1 (by omega), fun i hi => h2.1.2 i hi (lf_gp h40 hi).2.2⟩
theorem uF_ap (n k : Nat) (f o : Int32) (S : ZS) : uF S (g_m_applies n k f o S) := by
  rw [g_m_applies]
  split
  · exact uF_A (Or.inl rfl)
  · exact (uF_A (Or.inl rfl)).trans (uF_A (Or.inl rfl))
theorem uF_push (n k : Nat) (S : ZS) : uF S (g_m_pushes n k S).2 := by
  rw [g_m_pushes]
  split
  · exact (((uF_ap _ _ _ _ _).trans (uF_ap _ _ _ _ _)).trans (uF_A (Or.inl rfl))).trans ((uF_A (Or.inl rfl)).trans (uF_A (Or.inl rfl)))
  · exact uF.rfl' S
theorem uF_goes (n f t : Nat) (F O : Int32) : ∀ fu k S, uF S (g_m_goes fu n k f t F O S) := by
  intro fu
  induction fu with
  | zero => intro k S; exact uF.rfl' S
  | succ fu ih =>
    intro k S
    have hp : uF S (g_m_pushes n k (sI 22 (S.1 22 + 1) S)).2 := (uF_I (Or.inr (Or.inr rfl))).trans (uF_push _ _ _)
    rw [g_m_goes]
    repeat' split
    all_goals first
      | exact hp
      | exact hp.trans (ih _ _)
      | exact (hp.trans (ih _ _)).trans (ih _ _)
      | exact ((uF_I (Or.inr (Or.inr rfl))).trans (uF_ap _ _ _ _ _)).trans ((uF_A (Or.inr (Or.inr (by decide)))).trans (uF_I (Or.inr (Or.inl rfl))))
theorem mOK.uF_le {n : Nat} {S : ZS} (h : mGr n S) : mOK n S := h.ok
theorem upd_keep {n f t : Nat} {F O : Int32} {S : ZS} (h1 : 1 ≤ n) (h40 : n ≤ 40) (hO : mOK n S) : uF S (g_m_updates n f t F O S).2 ∧ mGr n (g_m_updates n f t F O S).2 := by
  have hg := mGr_of h1 h40 hO
  have hu := (uF_grows S h1 h40)
  rw [g_m_updates]
  refine ⟨?_, ?_⟩
  · exact (((hu.trans (uF_I (Or.inr (Or.inl rfl)))).trans (uF_I (Or.inr (Or.inr rfl)))).trans (uF_goes _ _ _ _ _ _ _ _)).trans ((uF_A (Or.inl rfl)).trans (uF_A (Or.inl rfl)))
  · exact ((goes_gr _ _ _ ((hg.sI (by decide)).sI (by decide))).sA (by decide) (by decide) (by decide) (fun _ => by decide)).sA (by decide) (by decide) (by decide) (fun _ => by decide)
theorem all_keepL {n : Nat} : ∀ fu c k S, mGr n S → uF S (g_m_allPushes_L n fu c k S).2 ∧ mGr n (g_m_allPushes_L n fu c k S).2 := by
  intro fu
  induction fu with
  | zero => intro c k S h; exact ⟨uF.rfl' S, h⟩
  | succ fu ih =>
    intro c k S h
    rw [g_m_allPushes_L]
    repeat' split
    all_goals first
      | exact ih _ _ _ h
      | exact ⟨(uF_push _ _ _).trans (ih _ _ _ (mGr_push h)).1, (ih _ _ _ (mGr_push h)).2⟩
theorem all_keep {n : Nat} {S : ZS} (h1 : 1 ≤ n) (h40 : n ≤ 40) (hO : mOK n S) : uF S (g_m_allPushes n S).2 ∧ mGr n (g_m_allPushes n S).2 := by
  rw [g_m_allPushes]
  have h2 := all_keepL (n := n) 127 0 1 _ (mGr_of h1 h40 hO)
  exact ⟨(uF_grows S h1 h40).trans h2.1, h2.2⟩
theorem clear_uF : ∀ fu k S, uF S (g_m_clearMarks_L fu k S) := by
  intro fu
  induction fu with
  | zero => intro k S; exact uF.rfl' S
  | succ fu ih =>
    intro k S
    rw [g_m_clearMarks_L]
    exact ((uF_A (Or.inl rfl)).trans (uF_A (Or.inl rfl))).trans (ih _ _)
theorem settles_uF2 {n : Nat} : ∀ fu i S, uF S (g_m_settles_L2 n fu i S) := by
  intro fu
  induction fu with
  | zero => intro i S; exact clear_uF _ _ _
  | succ fu ih =>
    intro i S
    rw [g_m_settles_L2]
    exact (uF_A (Or.inl rfl)).trans (ih _ _)
theorem settles_uF1 {n : Nat} : ∀ fu i S, uF S (g_m_settles_L1 n fu i S) := by
  intro fu
  induction fu with
  | zero => intro i S; exact settles_uF2 _ _ _
  | succ fu ih =>
    intro i S
    rw [g_m_settles_L1]
    exact (uF_A (Or.inr (Or.inr (by decide)))).trans (ih _ _)
theorem settles_keep {n : Nat} {S : ZS} (h1 : 1 ≤ n) (h40 : n ≤ 40) : uF S (g_m_settles n S) := by
  rw [g_m_settles]
  exact ((uF_grows S h1 h40).trans (uF_A (Or.inr (Or.inr (by decide))))).trans (settles_uF1 _ _ _)
/-- the count changes: the geometry is to be grown anew -/
theorem cnt_ok {n m : Nat} {S : ZS} {i : Nat} {v : Int32} (h : mGr n S) (hn : n ≤ 40) (hm : m ≤ 40) (hne : ¬ n = m) : mOK m (sA 0 0 (nI m) S) := by
  refine ⟨sA_same _ _ _ _, fun e => ?_⟩
  have e2 : S.1 19 = nI m := e
  rw [h.2.1, nI_eq (by omega) (by omega)] at e2
  exact absurd e2 hne
theorem app_keep {n : Nat} {v : Int32} {S : ZS} (h1 : 1 ≤ n) (h39 : n < 40) (hO : mOK n S) : uF S (g_m_appends n v S).2 ∧ mOK (n + 1) (g_m_appends n v S).2 := by
  rw [g_m_appends]
  refine ⟨(settles_keep h1 (by omega)).trans ((uF_A (Or.inl rfl)).trans (uF_A (Or.inl rfl))), ?_⟩
  exact cnt_ok (i := 0) (v := 0) ((mGr_settles h1 (by omega) hO).sA (by decide) (by decide) (by decide) (fun _ => by omega)) (by omega) (by omega) (by omega)
theorem rem_keep {n : Nat} {S : ZS} (h2 : 2 ≤ n) (h40 : n ≤ 40) (hO : mOK n S) : uF S (g_m_removes n S).2 ∧ mOK (n - 1) (g_m_removes n S).2 := by
  rw [g_m_removes]
  refine ⟨(settles_keep (by omega) h40).trans ((uF_A (Or.inl rfl)).trans (uF_A (Or.inl rfl))), ?_⟩
  exact (cnt_ok (i := 0) (v := 0) (mGr_settles (by omega) h40 hO) h40 (by omega) (by omega)).sA (by decide) (by decide) (by decide) (fun _ => by omega)
theorem uF.lx {tl : Nat} {S R : ZS} (h : uF S R) (g : mLx tl S) : mLx tl R ∧ me R = me S := by
  have e1 := h.1 10 (by decide) (by decide) (by decide)
  have e2 := h.1 24 (by decide) (by decide) (by decide)
  have e3 := h.1 25 (by decide) (by decide) (by decide)
  have e4 : me R = me S := by rw [me, e3, me]
  have e5 : mo R = mo S := by rw [mo, e2, mo]
  exact ⟨⟨⟨e1.trans g.1.1, g.1.2.1, by rw [e3, e4]; exact g.1.2.2.1, by rw [e4]; exact g.1.2.2.2⟩, by rw [e2, e5]; exact g.2.1, by rw [e4, e5]; exact g.2.2⟩, e4⟩
theorem uF.pF {S R : ZS} (h : uF S R) : pF S R := ⟨fun k a => h.1 k (by omega) (by omega) (by omega), fun j a b => h.2.1 j a (Or.inl b), h.2.2⟩
