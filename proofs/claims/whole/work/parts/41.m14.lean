variable {sc : SC}
/-! the commands, and what they leave -/
def mn (S : ZS) : Nat := (S.2 0 0).toNatClampNeg
/-- a parse may go on here -/
def mPar (tl : Nat) (S : ZS) : Prop := mLx tl S ∧ mOK (mn S) S ∧ 1 ≤ mn S ∧ mn S ≤ 40
theorem mn_of {n : Nat} {S : ZS} (h : S.2 0 0 = nI n) (h40 : n ≤ 40) : mn S = n := by rw [mn, h, nI_clamp (by omega)]
theorem mPar.of {tl n : Nat} {S : ZS} (hL : mLx tl S) (hO : mOK n S) (h1 : 1 ≤ n) (h40 : n ≤ 40) : mPar tl S := by
  have e := mn_of hO.1 h40
  exact ⟨hL, by rw [e]; exact hO, by rw [e]; exact h1, by rw [e]; exact h40⟩
theorem mPar.tk {tl : Nat} {S : ZS} (h : mPar tl S) : mTk tl S := h.1.1
theorem par_next {tl : Nat} {S : ZS} (h : mPar tl S) : mPar tl (g_m_next tl S) := .of (lx_next h.tk) ((kp_next h.tk).ok h.2.1) h.2.2.1 h.2.2.2
theorem me_next {tl : Nat} {S : ZS} (h : mTk tl S) : me S ≤ me (g_m_next tl S) := by
  have h1 := lxO_le (S.2 6) h.2.2.2
  have h6 := h.2.1
  rw [next_eq h, lxS]
  split
  next c =>
    have e : me (sI 23 0 (sI 25 (nI tl) (sI 24 (nI tl) S))) = tl := me_nI rfl h6
    rw [e]; exact h.2.2.2
  next c =>
    have h2 := lxE_le (S.2 6) (o := lxO (S.2 6) tl (me S)) (by omega : _ < tl)
    generalize lxV (S.2 6) (lxO (S.2 6) tl (me S)) (lxE (S.2 6) tl (lxO (S.2 6) tl (me S))) = v
    generalize lxK (S.2 6) (lxO (S.2 6) tl (me S)) (lxE (S.2 6) tl (lxO (S.2 6) tl (me S))) = kd
    generalize lxE (S.2 6) tl (lxO (S.2 6) tl (me S)) = e at *
    have e1 : me (sI 26 v (sI 23 kd (sI 25 (nI e) (sI 24 (nI (lxO (S.2 6) tl (me S))) S)))) = e := me_nI rfl (by omega)
    rw [e1]; omega
/-- a token that isn't the end takes room -/
theorem me_next_lt {tl : Nat} {S : ZS} (h : mTk tl S) (hk : ¬ (g_m_next tl S).1 23 = 0) : me S < me (g_m_next tl S) := by
  have h1 := lxO_le (S.2 6) h.2.2.2
  have h6 := h.2.1
  rw [next_eq h, lxS] at hk ⊢
  split
  next c => rw [if_pos c] at hk; exact absurd rfl hk
  next c =>
    have h2 := lxE_le (S.2 6) (o := lxO (S.2 6) tl (me S)) (by omega : _ < tl)
    generalize lxV (S.2 6) (lxO (S.2 6) tl (me S)) (lxE (S.2 6) tl (lxO (S.2 6) tl (me S))) = v
    generalize lxK (S.2 6) (lxO (S.2 6) tl (me S)) (lxE (S.2 6) tl (lxO (S.2 6) tl (me S))) = kd
    generalize lxE (S.2 6) tl (lxO (S.2 6) tl (me S)) = e at *
    have e1 : me (sI 26 v (sI 23 kd (sI 25 (nI e) (sI 24 (nI (lxO (S.2 6) tl (me S))) S)))) = e := me_nI rfl (by omega)
    rw [e1]; omega
/-- what a command must do: leave the texts and what else isn't its own; where it succeeds, a parse may go on, further on -/
def gF (S R : ZS) : Prop := (R.1 19 = S.1 19 ∧ R.2 8 = S.2 8 ∧ R.2 9 = S.2 9 ∧ R.2 10 = S.2 10) ∨ (∃ n, 1 ≤ n ∧ n ≤ 40 ∧ R.1 19 = nI n ∧ mFr n R)
theorem gF.rfl' (S : ZS) : gF S S := Or.inl ⟨rfl, rfl, rfl, rfl⟩
theorem gF.trans {S R Q : ZS} (h : gF S R) (g : gF R Q) : gF S Q := by
  rcases g with ⟨a, b, c, d⟩ | g
  · rcases h with ⟨a2, b2, c2, d2⟩ | ⟨n, h1, h2, h3, h4⟩
    · exact Or.inl ⟨a.trans a2, b.trans b2, c.trans c2, d.trans d2⟩
    · exact Or.inr ⟨n, h1, h2, a.trans h3, fun k hk => by rw [b, c]; exact h4.1 k hk, fun i hi => by rw [d]; exact h4.2 i hi⟩
  · exact Or.inr g
def pF (S R : ZS) : Prop := (∀ k, k = 5 ∨ k = 6 ∨ k = 9 ∨ k = 10 ∨ k = 14 ∨ k = 15 → R.1 k = S.1 k) ∧ (∀ j, 1 ≤ j → j ≤ 7 → R.2 j = S.2 j) ∧ gF S R
theorem pF.rfl' (S : ZS) : pF S S := ⟨fun _ _ => rfl, fun _ _ _ => rfl, gF.rfl' S⟩
theorem pF.trans {S R Q : ZS} (h : pF S R) (g : pF R Q) : pF S Q := ⟨fun k a => (g.1 k a).trans (h.1 k a), fun j a b => (g.2.1 j a b).trans (h.2.1 j a b), h.2.2.trans g.2.2⟩
theorem kp.gF {S R : ZS} (h : kp S R) : gF S R := Or.inl ⟨h.1 19 (by decide) (by decide) (by decide) (by decide) (by decide) (by decide), h.2 8 (by decide), h.2 9 (by decide), h.2 10 (by decide)⟩
theorem kp.pF {S R : ZS} (h : kp S R) : pF S R := ⟨fun k a => h.1 k (by omega) (by omega) (by omega) (by omega) (by omega) (by omega), fun j a b => h.2 j (by omega), h.gF⟩
def CCok (tl : Nat) (CC : ZS → Bool × ZS) : Prop := ∀ S, mPar tl S → pF S (CC S).2 ∧ ((CC S).1 = true → mPar tl (CC S).2 ∧ me S < me (CC S).2)
theorem par_set {tl b : Nat} {S : ZS} (h : mPar tl S) (hb : b ≤ tl) : mTk tl (sI 25 (nI b) S) ∧ me (sI 25 (nI b) S) = b := by
  have h6 := h.1.1.2.1
  have e : me (sI 25 (nI b) S) = b := me_nI rfl (by omega)
  exact ⟨⟨h.1.1.1, h6, by rw [e]; rfl, by rw [e]; exact hb⟩, e⟩
theorem par_setnext {tl b : Nat} {S : ZS} (h : mPar tl S) (hb : b ≤ tl) : mPar tl (g_m_next tl (sI 25 (nI b) S)) := by
  have h2 := (par_set h hb).1
  exact .of (lx_next h2) ((kp_next h2).ok (h.2.1.sI (by decide))) h.2.2.1 h.2.2.2
theorem num_20 {tl : Nat} {S : ZS} (hL : mLx tl S) (h : (g_m_number tl 0 1 20 S).1 = true) : (g_m_number tl 0 1 20 S).2.2 12 0 = nI (mN (g_m_number tl 0 1 20 S).2 0) ∧ mN (g_m_number tl 0 1 20 S).2 0 ≤ 20 := by
  have h1 := number_t hL h
  have h2 := zI_in (x := S.1 26) (b := 20) (Int32.le_trans (by decide) h1.2.1) h1.2.2.1 (by decide)
  have e : (g_m_number tl 0 1 20 S).2.2 12 0 = S.1 26 := by rw [h1.2.2.2.2, sA_same]
  have e2 : mN (g_m_number tl 0 1 20 S).2 0 = (S.1 26).toNatClampNeg := by rw [mN, e]
  rw [e, e2]
  exact h2
noncomputable def g_m_readsRepeat_L2 (dd : Nat) (tl : Nat) (CC : ZS → Bool × ZS) (dp : Int32) : Nat → Nat → Nat → Nat → ZS → Bool × ZS
  | 0, _, _, _, S => (false, S)
  | fu + 1, ts, b, k, S => (if S.1 23 = 6 then (true, S) else (if ((CC S).1) = true then g_m_readsRepeat_L2 dd tl CC dp fu ts b k (g_m_next tl ((CC S).2)) else (false, (CC S).2)))
theorem l_g_m_readsRepeat_L2 (dd : Nat) (tl : Nat) (CC : ZS → Bool × ZS) (dp : Int32) : ∀ (fu : Nat) (ts : Nat) (b : Nat) (k : Nat) (S : ZS) (r : zR) (h' : List zO), (mPar tl S) → (∀ S, mPar tl S → zM sc yX7_readsCommand cX7_readsCommand 3 (some .boolean) dd 0 0 [.ref 0, .int (dp + 1)] (mh S) (.inl (some (.int (zb (CC S).1)))) (mh (CC S).2)) → (CCok tl CC) → (12 ≤ dd) → (tl + 1 ≤ me S + fu) → ((g_m_readsRepeat_L2 dd tl CC dp fu ts b k S).1 = true → Z sc yX7_readsRepeat cX7_readsRepeat 5 (some .boolean) (dd + 1) 0 0 79 [some (.ref 0), some (.int (dp)), some (.int (nI (ts))), some (.int (nI (b))), some (.int (nI (k)))] [] (mh (g_m_readsRepeat_L2 dd tl CC dp fu ts b k S).2) r h') → (¬ (g_m_readsRepeat_L2 dd tl CC dp fu ts b k S).1 = true → Sum.inl (some (.int 0)) = r ∧ mh (g_m_readsRepeat_L2 dd tl CC dp fu ts b k S).2 = h') → Z sc yX7_readsRepeat cX7_readsRepeat 5 (some .boolean) (dd + 1) 0 0 51 [some (.ref 0), some (.int (dp)), some (.int (nI (ts))), some (.int (nI (b))), some (.int (nI (k)))] [] (mh S) r h' := by
  intro fu
  induction fu with
  | zero =>
    intro ts b k S r h' hP hCC hQ hd hm kx kf
    exact absurd hP.1.1.2.2.2 (by omega)
  | succ fu ih =>
    intro ts b k S r h' hP hCC hQ hd hm kx kf
    refine z_aload_0 dX7_readsRepeat_51 ?_
    refine z_get (k := 23) (v := .int (S.1 23)) dX7_readsRepeat_52 rfl rfl rfl (by decide) zf_X7_165 zw_in7 ?_
    refine z_bipush (v := 6) dX7_readsRepeat_55 rfl ?_
    refine z_icmp_eq (tgt := 79) dX7_readsRepeat_57 (by decide) (fun c57 => ?_) (fun c57 => ?_)
    · have e9 : g_m_readsRepeat_L2 dd tl CC dp (fu + 1) ts b k S = (true, S) := by rw [g_m_readsRepeat_L2, if_pos c57]
      rw [e9] at kx
      exact kx rfl
    · refine z_aload_0 dX7_readsRepeat_60 ?_
      refine z_iload_1 dX7_readsRepeat_61 ?_
      refine z_iconst (v := 1) dX7_readsRepeat_62 rfl ?_
      refine z_iadd dX7_readsRepeat_63 ?_
      refine Z.call0s (zRun.V (ρ := fun i => i) (hCC S hP) dX7_readsRepeat_64 zy_X7_readsCommand zm_X7_222 rfl rfl rfl rfl (Nat.le_of_ble_eq_true rfl) (by omega) (by decide)) (zlen2 14 rfl rfl) ?_
      refine z_ifB_ne (tgt := 72) dX7_readsRepeat_67 (by decide) (fun c67 => ?_) (fun c67 => ?_)
      · refine z_aload_0 dX7_readsRepeat_72 ?_
        refine Z.call0n (zRun.V (ρ := fun i => i) (k_m_next tl ((CC S).2) ((hQ S hP).2 c67).1.tk) dX7_readsRepeat_73 zy_X7_next zm_X7_182 rfl rfl rfl rfl (Nat.le_of_ble_eq_true rfl) (by omega) (by decide)) (zlen2 14 rfl rfl) ?_
        refine z_goto (tgt := 51) dX7_readsRepeat_76 (by decide) ?_
        have e9 : g_m_readsRepeat_L2 dd tl CC dp (fu + 1) ts b k S = g_m_readsRepeat_L2 dd tl CC dp fu ts b k (g_m_next tl ((CC S).2)) := by rw [g_m_readsRepeat_L2, if_neg c57, if_pos c67]
        rw [e9] at kx kf
        exact ih ts b k (g_m_next tl ((CC S).2)) _ _ (par_next ((hQ S hP).2 c67).1) hCC hQ (by first | omega | assumption) (by have := ((hQ S hP).2 c67).2; have := me_next ((hQ S hP).2 c67).1.tk; omega) kx kf
      · refine z_iconst (v := 0) dX7_readsRepeat_70 rfl ?_
        have e9 : g_m_readsRepeat_L2 dd tl CC dp (fu + 1) ts b k S = (false, (CC S).2) := by rw [g_m_readsRepeat_L2, if_neg c57, if_neg c67]
        rw [e9] at kf
        obtain ⟨e1, e2⟩ := kf Bool.false_ne_true
        exact z_iret dX7_readsRepeat_71 rfl rfl e1 e2
theorem W_ok {tl dd : Nat} {CC : ZS → Bool × ZS} {dp : Int32} (hQ : CCok tl CC) : ∀ fu ts b k S, mPar tl S → pF S (g_m_readsRepeat_L2 dd tl CC dp fu ts b k S).2 ∧ ((g_m_readsRepeat_L2 dd tl CC dp fu ts b k S).1 = true → mPar tl (g_m_readsRepeat_L2 dd tl CC dp fu ts b k S).2 ∧ me S ≤ me (g_m_readsRepeat_L2 dd tl CC dp fu ts b k S).2) := by
  intro fu
  induction fu with
  | zero => intro ts b k S h; exact ⟨pF.rfl' S, fun e => absurd e Bool.false_ne_true⟩
  | succ fu ih =>
    intro ts b k S h
    rw [g_m_readsRepeat_L2]
    have hc := hQ S h
    by_cases c6 : S.1 23 = 6
    · rw [if_pos c6]
      exact ⟨pF.rfl' S, fun _ => ⟨h, Nat.le_refl _⟩⟩
    · rw [if_neg c6]
      by_cases cT : (CC S).1 = true
      · rw [if_pos cT]
        have h2 := hc.2 cT
        have h3 := ih ts b k _ (par_next h2.1)
        have h4 := me_next h2.1.tk
        exact ⟨(hc.1.trans (kp_next h2.1.tk).pF).trans h3.1, fun e => ⟨(h3.2 e).1, by have := (h3.2 e).2; omega⟩⟩
      · rw [if_neg cT]
        exact ⟨hc.1, fun e => absurd e Bool.false_ne_true⟩
noncomputable def g_m_readsRepeat_L1 (dd : Nat) (tl : Nat) (CC : ZS → Bool × ZS) (dp : Int32) : Nat → Nat → Nat → Nat → ZS → Bool × ZS
  | 0, _, _, _, S => ((g_m_is (1) (g_m_next tl S)).1, (g_m_is (1) (g_m_next tl S)).2)
  | fu + 1, ts, b, k, S => (if (g_m_readsRepeat_L2 dd tl CC dp 601 ts b k (g_m_next tl (sI 25 (nI (b)) S))).1 = true then g_m_readsRepeat_L1 dd tl CC dp fu ts b (k + 1) ((g_m_readsRepeat_L2 dd tl CC dp 601 ts b k (g_m_next tl (sI 25 (nI (b)) S))).2) else (false, (g_m_readsRepeat_L2 dd tl CC dp 601 ts b k (g_m_next tl (sI 25 (nI (b)) S))).2))
theorem l_g_m_readsRepeat_L1 (dd : Nat) (tl : Nat) (CC : ZS → Bool × ZS) (dp : Int32) : ∀ (fu : Nat) (ts : Nat) (b : Nat) (k : Nat) (S : ZS) , (mPar tl S) → (∀ S, mPar tl S → zM sc yX7_readsCommand cX7_readsCommand 3 (some .boolean) dd 0 0 [.ref 0, .int (dp + 1)] (mh S) (.inl (some (.int (zb (CC S).1)))) (mh (CC S).2)) → (CCok tl CC) → (12 ≤ dd) → (k + fu = ts) → (ts ≤ 20) → (b ≤ tl) → Z sc yX7_readsRepeat cX7_readsRepeat 5 (some .boolean) (dd + 1) 0 0 36 [some (.ref 0), some (.int (dp)), some (.int (nI (ts))), some (.int (nI (b))), some (.int (nI (k)))] [] (mh S) (.inl (some (.int (zb (g_m_readsRepeat_L1 dd tl CC dp fu ts b k S).1)))) (mh (g_m_readsRepeat_L1 dd tl CC dp fu ts b k S).2) := by
  intro fu
  induction fu with
  | zero =>
    intro ts b k S hP hCC hQ hd hk hts hb
    refine z_iload_4 dX7_readsRepeat_36 ?_
    refine z_iload_2 dX7_readsRepeat_38 ?_
    refine z_icmpN_ge_t (tgt := 85) dX7_readsRepeat_39 (by decide) (x := k) (z := ts) (by first | omega | assumption) (by first | omega | assumption) (by omega) ?_
    refine z_aload_0 dX7_readsRepeat_85 ?_
    refine Z.call0n (zRun.V (ρ := fun i => i) (k_m_next tl S hP.tk) dX7_readsRepeat_86 zy_X7_next zm_X7_182 rfl rfl rfl rfl (Nat.le_of_ble_eq_true rfl) (by omega) (by decide)) (zlen2 14 rfl rfl) ?_
    refine z_aload_0 dX7_readsRepeat_89 ?_
    refine z_iconst (v := 1) dX7_readsRepeat_90 rfl ?_
    refine Z.call0s (zRun.V (ρ := fun i => i) (k_m_is (1) (g_m_next tl S) ) dX7_readsRepeat_91 zy_X7_is zm_X7_179 rfl rfl rfl rfl (Nat.le_of_ble_eq_true rfl) (by omega) (by decide)) (zlen2 14 rfl rfl) ?_
    rw [g_m_readsRepeat_L1]
    exact z_iret dX7_readsRepeat_94 rfl (zb_nar _) rfl rfl
  | succ fu ih =>
    intro ts b k S hP hCC hQ hd hk hts hb
    refine z_iload_4 dX7_readsRepeat_36 ?_
    refine z_iload_2 dX7_readsRepeat_38 ?_
    refine z_icmpN_ge_f (tgt := 85) dX7_readsRepeat_39 (by decide) (x := k) (z := ts) (by first | omega | assumption) (by first | omega | assumption) (by omega) ?_
    refine z_aload_0 dX7_readsRepeat_42 ?_
    refine z_iload_3 dX7_readsRepeat_43 ?_
    refine z_put (k := 25) (ty := tyX7) dX7_readsRepeat_44 rfl rfl (by decide) zf_X7_159 zw_in7 tyX7_ok nmX7 rfl (fun _ => ⟨rfl, rfl⟩) (Nat.le_of_ble_eq_true rfl) ?_
    refine Z.heap (h2 := mh (sI 25 (nI (b)) S)) rfl ?_
    refine z_aload_0 dX7_readsRepeat_47 ?_
    refine Z.call0n (zRun.V (ρ := fun i => i) (k_m_next tl (sI 25 (nI (b)) S) (par_set hP hb).1) dX7_readsRepeat_48 zy_X7_next zm_X7_182 rfl rfl rfl rfl (Nat.le_of_ble_eq_true rfl) (by omega) (by decide)) (zlen2 14 rfl rfl) ?_
    refine l_g_m_readsRepeat_L2 dd tl CC dp 601 ts b k (g_m_next tl (sI 25 (nI (b)) S)) _ _ (par_setnext hP hb) hCC hQ (by first | omega | assumption) (by have := hP.1.1.2.1; omega) (fun cB => ?_) (fun cB => ?_)
    · refine z_iinc_4 (v := nI (k + 1)) dX7_readsRepeat_79 (nI_add _ 1) rfl (by decide) ?_
      refine z_goto (tgt := 36) dX7_readsRepeat_82 (by decide) ?_
      rw [g_m_readsRepeat_L1, if_pos cB]
      exact ih ts b (k + 1) ((g_m_readsRepeat_L2 dd tl CC dp 601 ts b k (g_m_next tl (sI 25 (nI (b)) S))).2) ((W_ok hQ _ _ _ _ _ (par_setnext hP hb)).2 cB).1 hCC hQ (by first | omega | assumption) (by first | omega | assumption) (by first | omega | assumption) hb
    · rw [g_m_readsRepeat_L1, if_neg cB]
      exact ⟨rfl, rfl⟩
noncomputable def g_m_readsRepeat (dd : Nat) (tl : Nat) (CC : ZS → Bool × ZS) (dp : Int32) (S : ZS) : Bool × ZS := (if ((g_m_number tl 0 (1) (20) S).1) = true then (if ((g_m_is (5) ((g_m_number tl 0 (1) (20) S).2)).1) = true then g_m_readsRepeat_L1 dd tl CC dp ((mN (g_m_number tl 0 1 20 S).2 0) - 0) (mN (g_m_number tl 0 1 20 S).2 0) (me (g_m_number tl 0 1 20 S).2) 0 ((g_m_number tl 0 1 20 S).2) else (false, (g_m_is (5) ((g_m_number tl 0 (1) (20) S).2)).2)) else (false, (g_m_number tl 0 (1) (20) S).2))
theorem k_m_readsRepeat (dd : Nat) (tl : Nat) (CC : ZS → Bool × ZS) (dp : Int32) (S : ZS) (hP : mPar tl S) (hCC : ∀ S, mPar tl S → zM sc yX7_readsCommand cX7_readsCommand 3 (some .boolean) dd 0 0 [.ref 0, .int (dp + 1)] (mh S) (.inl (some (.int (zb (CC S).1)))) (mh (CC S).2)) (hQ : CCok tl CC) (hd : 12 ≤ dd) : zM sc yX7_readsRepeat cX7_readsRepeat 5 (some .boolean) (dd + 1) 0 0 [.ref 0, .int (dp)] (mh S) (.inl (some (.int (zb (g_m_readsRepeat dd tl CC dp S).1)))) (mh (g_m_readsRepeat dd tl CC dp S).2) := by
  refine zM.at (ls := [some (.ref 0), some (.int (dp)), none, none, none]) zy_X7_readsRepeat.2.2.2.2.2 (Nat.le_of_ble_eq_true rfl) rfl ?_
  refine z_aload_0 dX7_readsRepeat_0 ?_
  refine z_iconst (v := 0) dX7_readsRepeat_1 rfl ?_
  refine z_iconst (v := 1) dX7_readsRepeat_2 rfl ?_
  refine z_bipush (v := 20) dX7_readsRepeat_3 rfl ?_
  refine Z.call0s (zRun.V (ρ := fun i => i) (k_m_number tl 0 (1) (20) S hP.1 (by decide)) dX7_readsRepeat_5 zy_X7_number zm_X7_188 rfl rfl rfl rfl (Nat.le_of_ble_eq_true rfl) (by omega) (by decide)) (zlen2 14 rfl rfl) ?_
  refine z_ifB_eq (tgt := 19) dX7_readsRepeat_8 (by decide) (fun c8 => ?_) (fun c8 => ?_)
  · refine z_iconst (v := 0) dX7_readsRepeat_19 rfl ?_
    rw [g_m_readsRepeat, if_neg c8]
    exact z_iret dX7_readsRepeat_20 rfl rfl rfl rfl
  · have hL2 := lx_number (j := 0) (a := 1) (b := 20) hP.1
    have hnum := num_20 hP.1 c8
    have hO2 := (kp_number (j := 0) (a := 1) (b := 20) hP.1).ok hP.2.1
    refine z_aload_0 dX7_readsRepeat_11 ?_
    refine z_iconst (v := 5) dX7_readsRepeat_12 rfl ?_
    refine Z.call0s (zRun.V (ρ := fun i => i) (k_m_is (5) ((g_m_number tl 0 (1) (20) S).2) ) dX7_readsRepeat_13 zy_X7_is zm_X7_179 rfl rfl rfl rfl (Nat.le_of_ble_eq_true rfl) (by omega) (by decide)) (zlen2 14 rfl rfl) ?_
    refine z_ifB_ne (tgt := 21) dX7_readsRepeat_16 (by decide) (fun c16 => ?_) (fun c16 => ?_)
    · refine Z.heap (h2 := mh (g_m_number tl 0 1 20 S).2) (by rw [is_t2 c16]) ?_
      refine z_aload_0 dX7_readsRepeat_21 ?_
      refine z_get (k := 28) (v := .ref 13) dX7_readsRepeat_22 rfl rfl rfl (by decide) zf_X7_51 zw_in7 ?_
      refine z_iconst (v := 0) dX7_readsRepeat_25 rfl ?_
      refine z_ialdN (k := 0) dX7_readsRepeat_26 rfl (by first | omega | assumption) (by decide) ?_
      refine z_topi (w := ((g_m_number tl 0 1 20 S).2).2 12 (0)) rfl ?_
      refine z_topi (w := nI (mN (g_m_number tl 0 1 20 S).2 0)) hnum.1 ?_
      refine z_istore_2 dX7_readsRepeat_27 rfl (by decide) ?_
      refine z_aload_0 dX7_readsRepeat_28 ?_
      refine z_get (k := 25) (v := .int (((g_m_number tl 0 1 20 S).2).1 25)) dX7_readsRepeat_29 rfl rfl rfl (by decide) zf_X7_159 zw_in7 ?_
      refine z_topi (w := nI (me (g_m_number tl 0 1 20 S).2)) hL2.1.2.2.1 ?_
      refine z_istore_3 dX7_readsRepeat_32 rfl (by decide) ?_
      refine z_iconst (v := 0) dX7_readsRepeat_33 rfl ?_
      refine z_istore_4 dX7_readsRepeat_34 rfl (by decide) ?_
      rw [g_m_readsRepeat, if_pos c8, if_pos c16]
      exact l_g_m_readsRepeat_L1 dd tl CC dp ((mN (g_m_number tl 0 1 20 S).2 0) - 0) (mN (g_m_number tl 0 1 20 S).2 0) (me (g_m_number tl 0 1 20 S).2) 0 ((g_m_number tl 0 1 20 S).2) (.of hL2 hO2 hP.2.2.1 hP.2.2.2) hCC hQ (by first | omega | assumption) (by first | omega | assumption) hnum.2 hL2.1.2.2.2
    · refine z_iconst (v := 0) dX7_readsRepeat_19 rfl ?_
      rw [g_m_readsRepeat, if_pos c8, if_neg c16]
      exact z_iret dX7_readsRepeat_20 rfl rfl rfl rfl
