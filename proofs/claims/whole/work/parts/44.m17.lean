variable {sc : SC}
/-! readers of commands: what they leave -/
theorem me_fail (x : Int32) (S : ZS) : me (g_m_fail x S).2 = me S := by
  rw [g_m_fail]
  split <;> rfl
theorem me_is (x : Int32) (S : ZS) : me (g_m_is x S).2 = me S := by
  rw [g_m_is]
  split
  · rfl
  · exact me_fail _ _
theorem me_stops (c : Bool) (S : ZS) : me (g_m_stops c S).2 = me S := by
  rw [g_m_stops]
  repeat' split
  · rfl
  · exact me_fail _ _
  · exact me_is _ _
theorem me_signed {tl j : Nat} {S : ZS} (h : mLx tl S) : me S ≤ me (g_m_signed tl j S).2 := by
  have e : ∀ (i : Nat) (v : Int32) (Q : ZS), me (sA 12 i v Q) = me Q := fun _ _ _ => rfl
  have h2 := me_next h.tk
  rw [g_m_signed]
  repeat' split
  all_goals (try rw [e]); rw [me_is]; omega
theorem me_valueAt {tl j : Nat} {S : ZS} (h : mLx tl S) : me S ≤ me (g_m_valueAt tl j S).2 := by
  have h2 := me_signed (j := j) h
  rw [g_m_valueAt]
  split
  · exact Nat.le_trans h2 (me_next (lx_signed h).tk)
  · exact h2
theorem me_number {tl j : Nat} {a b : Int32} {S : ZS} (h : mLx tl S) : me S ≤ me (g_m_number tl j a b S).2 := by
  rw [g_m_number]
  repeat' split
  · exact me_next (S := sA 12 j (S.1 26) S) (mLx.sA h).tk
  · exact Nat.le_of_eq (me_fail _ _).symm
  · exact Nat.le_of_eq (me_is _ _).symm
theorem me_range {tl : Nat} {S : ZS} (h : mLx tl S) : me S ≤ me (g_m_range tl S).2 := by
  rw [g_m_range]
  repeat' split
  · exact Nat.le_trans (me_number h) (me_number (lx_number h))
  · exact Nat.le_trans (me_number h) (me_number (lx_number h))
  · exact me_number h
theorem range_k {tl : Nat} {S : ZS} (hL : mLx tl S) (h : (g_m_range tl S).1 = true) : S.1 23 = 3 := by
  rw [g_m_range] at h
  split at h
  next q => exact (number_t hL q).1
  next q => exact absurd h Bool.false_ne_true
theorem signed_k {tl j : Nat} {S : ZS} (h : (g_m_signed tl j S).1 = true) : S.1 23 = 4 ∨ S.1 23 = 3 := by
  rw [g_m_signed] at h
  split at h
  next q => exact Or.inl q
  next q =>
    split at h
    next q2 => exact Or.inr (is_t q2).1
    next q2 => exact absurd h Bool.false_ne_true
theorem valueAt_k {tl j : Nat} {S : ZS} (h : (g_m_valueAt tl j S).1 = true) : S.1 23 = 4 ∨ S.1 23 = 3 := by
  rw [g_m_valueAt] at h
  split at h
  next q => exact signed_k q
  next q => exact absurd h Bool.false_ne_true
def rdOK (tl : Nat) (S : ZS) (r : Bool × ZS) : Prop := pF S r.2 ∧ (r.1 = true → mPar tl r.2 ∧ me S ≤ me r.2 ∧ ¬ S.1 23 = 0)
theorem rdF {tl : Nat} {S R : ZS} (h : pF S R) : rdOK tl S (false, R) := ⟨h, fun e => absurd e Bool.false_ne_true⟩
theorem rdT {tl m : Nat} {S V R : ZS} (hS : kp S V) (hL : mLx tl V) (hm : me S ≤ me V) (hU : uF V R) (hO : mOK m R) (h1 : 1 ≤ m) (h40 : m ≤ 40) (hk : ¬ S.1 23 = 0) : rdOK tl S (true, R) :=
  ⟨hS.pF.trans hU.pF, fun _ => ⟨.of (hU.lx hL).1 hO h1 h40, by rw [(hU.lx hL).2]; exact hm, hk⟩⟩
theorem k3 {S : ZS} (h : S.1 23 = 3) : ¬ S.1 23 = 0 := by rw [h]; decide
theorem k1 {S : ZS} (h : S.1 23 = 1) : ¬ S.1 23 = 0 := by rw [h]; decide
theorem k43 {S : ZS} (h : S.1 23 = 4 ∨ S.1 23 = 3) : ¬ S.1 23 = 0 := by
  rcases h with h | h <;> rw [h] <;> decide
theorem rd_readsAssign {tl n : Nat} {S : ZS} (hL : mLx tl S) (h1 : 1 ≤ n) (h40 : n ≤ 40) (hO : mOK n S) : rdOK tl S (g_m_readsAssign tl n S) := by
  have hr := kp_range hL
  have hl := lx_range hL
  have hv := kp_valueAt (j := 2) hl
  have hlv := lx_valueAt (j := 2) hl
  rw [g_m_readsAssign]
  split
  next q =>
    split
    next q2 =>
      split
      next q3 =>
        have hu := upd_keep (f := mN (g_m_range tl S).2 0) (t := mN (g_m_range tl S).2 1) (F := 0) (O := (g_m_valueAt tl 2 (g_m_range tl S).2).2.2 12 2) h1 h40 (hv.ok (hr.ok hO))
        exact rdT (hr.trans hv) hlv (Nat.le_trans (me_range hL) (me_valueAt hl)) hu.1 hu.2.ok h1 h40 (k3 (range_k hL q))
      next q3 => exact rdF ((hr.trans hv).trans (kp_stops _ _)).pF
    next q2 => exact rdF (hr.trans hv).pF
  next q => exact rdF hr.pF
theorem rd_readsAdd {tl n : Nat} {S : ZS} (hL : mLx tl S) (h1 : 1 ≤ n) (h40 : n ≤ 40) (hO : mOK n S) : rdOK tl S (g_m_readsAdd tl n S) := by
  have hr := kp_range hL
  have hl := lx_range hL
  have hv := kp_valueAt (j := 2) hl
  have hlv := lx_valueAt (j := 2) hl
  have hg := uF_grows (n := n) (g_m_valueAt tl 2 (g_m_range tl S).2).2 h1 h40
  have hG := mGr_of h1 h40 (hv.ok (hr.ok hO))
  rw [g_m_readsAdd]
  split
  next q =>
    split
    next q2 =>
      split
      next q3 =>
        split
        next q4 =>
          have hu := upd_keep (f := mN (g_m_range tl S).2 0) (t := mN (g_m_range tl S).2 1) (F := 1) (O := (g_m_grows n (g_m_valueAt tl 2 (g_m_range tl S).2).2).2 12 2) h1 h40 hG.ok
          exact rdT (hr.trans hv) hlv (Nat.le_trans (me_range hL) (me_valueAt hl)) (hg.trans hu.1) hu.2.ok h1 h40 (k3 (range_k hL q))
        next q4 => exact rdF (((hr.trans hv).pF.trans hg.pF).trans (kp_stops _ _).pF)
      next q3 => exact rdF ((hr.trans hv).trans (kp_is _ _)).pF
    next q2 => exact rdF (hr.trans hv).pF
  next q => exact rdF hr.pF
theorem rd_readsNegate {tl n : Nat} {S : ZS} (hL : mLx tl S) (h1 : 1 ≤ n) (h40 : n ≤ 40) (hO : mOK n S) : rdOK tl S (g_m_readsNegate tl n S) := by
  have hr := kp_range hL
  have hl := lx_range hL
  rw [g_m_readsNegate]
  split
  next q =>
    split
    next q3 =>
      have hu := upd_keep (f := mN (g_m_range tl S).2 0) (t := mN (g_m_range tl S).2 1) (F := -1) (O := 0) h1 h40 (hr.ok hO)
      exact rdT hr hl (me_range hL) hu.1 hu.2.ok h1 h40 (k3 (range_k hL q))
    next q3 => exact rdF (hr.trans (kp_stops _ _)).pF
  next q => exact rdF hr.pF
theorem rd_readsSettle {tl n : Nat} {S : ZS} (hL : mLx tl S) (h1 : 1 ≤ n) (h40 : n ≤ 40) (hO : mOK n S) : rdOK tl S (g_m_readsSettle tl n S) := by
  rw [g_m_readsSettle]
  split
  next q =>
    have hu := all_keep h1 h40 hO
    exact rdT (kp.rfl' S) hL (Nat.le_refl _) hu.1 hu.2.ok h1 h40 (k1 (stops_t2 q).2.2)
  next q => exact rdF (kp_stops _ _).pF
theorem rd_readsAppend {tl n : Nat} {S : ZS} (hL : mLx tl S) (h1 : 1 ≤ n) (h40 : n ≤ 40) (hO : mOK n S) : rdOK tl S (g_m_readsAppend tl n S) := by
  have hv := kp_valueAt (j := 0) hL
  have hlv := lx_valueAt (j := 0) hL
  have hm := me_valueAt (j := 0) hL
  rw [g_m_readsAppend]
  split
  next q =>
    split
    next c =>
      split
      next q3 => exact absurd (stops_t2 q3).2.1 Bool.false_ne_true
      next q3 => exact rdF (hv.trans (kp_stops _ _)).pF
    next c =>
      split
      next q3 =>
        have hu := app_keep (v := (g_m_valueAt tl 0 S).2.2 12 0) h1 (by omega) (hv.ok hO)
        exact rdT hv hlv hm hu.1 hu.2 (by omega) (by omega) (k43 (valueAt_k q))
      next q3 => exact rdF (hv.trans (kp_stops _ _)).pF
  next q => exact rdF hv.pF
theorem rd_readsRemove {tl n : Nat} {S : ZS} (hL : mLx tl S) (h1 : 1 ≤ n) (h40 : n ≤ 40) (hO : mOK n S) : rdOK tl S (g_m_readsRemove tl n S) := by
  rw [g_m_readsRemove]
  split
  next c =>
    split
    next q3 => exact absurd (stops_t2 q3).2.1 Bool.false_ne_true
    next q3 => exact rdF (kp_stops _ _).pF
  next c =>
    split
    next q3 =>
      have hu := rem_keep (by omega) h40 hO
      exact rdT (kp.rfl' S) hL (Nat.le_refl _) hu.1 hu.2 (by omega) (by omega) (k1 (stops_t2 q3).2.2)
    next q3 => exact rdF (kp_stops _ _).pF
theorem rd_rp {tl n : Nat} {S : ZS} (hL : mLx tl S) (h1 : 1 ≤ n) (h40 : n ≤ 40) (hO : mOK n S) : rdOK tl S (g_m_rp tl n S) := by
  have hg := uF_grows (n := n) S h1 h40
  have hG := mGr_of h1 h40 hO
  have hLg := mLx_gr hL h1 h40
  have hn := kp_next hLg.tk
  have hmg : me (g_m_grows n S) = me S := (hg.lx hL).2
  rw [g_m_rp]
  split
  next q =>
    have hkp := hG
    rw [g_m_readsPush]
    split
    next q1 =>
      split
      next q2 =>
        have hT : (g_m_stops true (g_m_next tl (g_m_grows n S))).1 = true → rdOK tl S (true, (g_m_pushes n (S.1 26).toNatClampNeg (g_m_next tl (g_m_grows n S))).2) := fun q3 => by
          have hu := uF_push n (S.1 26).toNatClampNeg (g_m_next tl (g_m_grows n S))
          have hl := hu.lx (lx_next hLg.tk)
          refine ⟨(hg.pF.trans hn.pF).trans hu.pF, fun _ => ⟨.of hl.1 (mGr_push (hn.gr hG)).ok h1 h40, ?_, k3 (is_t q1).1⟩⟩
          rw [hl.2, ← hmg]
          exact me_next hLg.tk
        split
        next q3 =>
          split
          next q4 => exact absurd (stops_t2 q4).2.1 Bool.false_ne_true
          next q4 => exact rdF ((hg.pF.trans hn.pF).trans (kp_stops _ _).pF)
        next q3 =>
          split
          next q4 => exact hT q4
          next q4 => exact rdF ((hg.pF.trans hn.pF).trans (kp_stops _ _).pF)
      next q2 => exact rdF (hg.pF.trans (kp_fail _ _).pF)
    next q1 => exact rdF (kp_is _ _).pF
  next q =>
    rw [g_m_readsPushX]
    split
    next q1 =>
      rw [g_m_isNodeX]
      exact rdF (hg.pF.trans (kp_fail _ _).pF)
    next q1 => exact rdF (kp_is _ _).pF
def RRok (tl : Nat) (RR : ZS → Bool × ZS) : Prop := ∀ S, mPar tl S → rdOK tl S (RR S)
theorem says_2 {tl i : Nat} {S : ZS} (h : g_m_says tl i S = true) : S.1 23 = 2 := by
  rw [g_m_says] at h
  split at h
  next q => exact q
  next q => exact absurd h Bool.false_ne_true
theorem word_k {tl : Nat} {S : ZS} (h : ¬ g_m_wordAhead tl S = -1) : S.1 23 = 2 := by
  rw [g_m_wordAhead] at h
  repeat (split at h; · exact says_2 (by assumption))
  exact absurd rfl h
/-- behind the word -/
theorem cmd_step {tl : Nat} {S Q : ZS} {r : Bool × ZS} (hQ : mTk tl Q) (hme : me Q = me S) (hpF : pF S Q) (hr : rdOK tl (g_m_next tl Q) r) : pF S r.2 ∧ (r.1 = true → mPar tl r.2 ∧ me S < me r.2) := by
  refine ⟨(hpF.trans (kp_next hQ).pF).trans hr.1, fun e => ?_⟩
  have h1 := hr.2 e
  have h2 := me_next_lt hQ h1.2.2
  exact ⟨h1.1, by omega⟩
theorem cmd0_ok (tl : Nat) (dp : Int32) : CCok tl (fun S => g_m_cmd0 tl (mn S) dp S) := by
  intro S hP
  obtain ⟨hL, hO, h1, h40⟩ := hP
  have hL2 : mLx tl (sI 27 (S.1 27 + 1) S) := hL.sI (by decide) (by decide) (by decide)
  have hO2 : mOK (mn S) (sI 27 (S.1 27 + 1) S) := hO.sI (by decide)
  have hl := lx_next hL2.tk
  have ho := (kp_next hL2.tk).ok hO2
  have hp : pF S (sI 27 (S.1 27 + 1) S) := ⟨fun k a => sI_o (by omega), fun _ _ _ => rfl, Or.inl ⟨sI_o (by decide), rfl, rfl, rfl⟩⟩
  have hF : ∀ x : Int32, pF S (g_m_fail x S).2 ∧ (false = true → mPar tl (g_m_fail x S).2 ∧ me S < me (g_m_fail x S).2) := fun x => ⟨(kp_fail _ _).pF, fun e => absurd e Bool.false_ne_true⟩
  show pF S (g_m_cmd0 tl (mn S) dp S).2 ∧ ((g_m_cmd0 tl (mn S) dp S).1 = true → mPar tl (g_m_cmd0 tl (mn S) dp S).2 ∧ me S < me (g_m_cmd0 tl (mn S) dp S).2)
  rw [g_m_cmd0]
  split
  · exact hF 1
  · split
    · exact hF 5
    · split
      · exact hF 6
      · split
        · exact cmd_step hL2.tk rfl hp (rd_readsAssign hl h1 h40 ho)
        · split
          · exact cmd_step hL2.tk rfl hp (rd_readsAdd hl h1 h40 ho)
          · split
            · exact cmd_step hL2.tk rfl hp (rd_readsNegate hl h1 h40 ho)
            · split
              · exact cmd_step hL2.tk rfl hp (rd_rp hl h1 h40 ho)
              · split
                · exact cmd_step hL2.tk rfl hp (rd_readsSettle hl h1 h40 ho)
                · split
                  · exact cmd_step hL2.tk rfl hp (rd_readsAppend hl h1 h40 ho)
                  · exact cmd_step hL2.tk rfl hp (rd_readsRemove hl h1 h40 ho)
theorem cmdS_ok (dd tl : Nat) (RR : ZS → Bool × ZS) (hRR : RRok tl RR) (dp : Int32) : CCok tl (fun S => g_m_cmdS dd tl (mn S) RR dp S) := by
  intro S hP
  have hP0 := hP
  obtain ⟨hL, hO, h1, h40⟩ := hP
  have hL2 : mLx tl (sI 27 (S.1 27 + 1) S) := hL.sI (by decide) (by decide) (by decide)
  have hO2 : mOK (mn S) (sI 27 (S.1 27 + 1) S) := hO.sI (by decide)
  have hl := lx_next hL2.tk
  have ho := (kp_next hL2.tk).ok hO2
  have hp : pF S (sI 27 (S.1 27 + 1) S) := ⟨fun k a => sI_o (by omega), fun _ _ _ => rfl, Or.inl ⟨sI_o (by decide), rfl, rfl, rfl⟩⟩
  have hF : ∀ x : Int32, pF S (g_m_fail x S).2 ∧ (false = true → mPar tl (g_m_fail x S).2 ∧ me S < me (g_m_fail x S).2) := fun x => ⟨(kp_fail _ _).pF, fun e => absurd e Bool.false_ne_true⟩
  show pF S (g_m_cmdS dd tl (mn S) RR dp S).2 ∧ ((g_m_cmdS dd tl (mn S) RR dp S).1 = true → mPar tl (g_m_cmdS dd tl (mn S) RR dp S).2 ∧ me S < me (g_m_cmdS dd tl (mn S) RR dp S).2)
  rw [g_m_cmdS]
  split
  · exact hF 1
  · split
    · exact cmd_step hL.tk rfl (pF.rfl' S) (hRR _ (par_next hP0))
    · split
      · exact hF 6
      · split
        · exact cmd_step hL2.tk rfl hp (rd_readsAssign hl h1 h40 ho)
        · split
          · exact cmd_step hL2.tk rfl hp (rd_readsAdd hl h1 h40 ho)
          · split
            · exact cmd_step hL2.tk rfl hp (rd_readsNegate hl h1 h40 ho)
            · split
              · exact cmd_step hL2.tk rfl hp (rd_rp hl h1 h40 ho)
              · split
                · exact cmd_step hL2.tk rfl hp (rd_readsSettle hl h1 h40 ho)
                · split
                  · exact cmd_step hL2.tk rfl hp (rd_readsAppend hl h1 h40 ho)
                  · exact cmd_step hL2.tk rfl hp (rd_readsRemove hl h1 h40 ho)
theorem rep_ok1 {dd tl : Nat} {CC : ZS → Bool × ZS} {dp : Int32} (hQ : CCok tl CC) : ∀ fu ts b k S, mPar tl S → b ≤ tl → b ≤ me S → pF S (g_m_readsRepeat_L1 dd tl CC dp fu ts b k S).2 ∧ ((g_m_readsRepeat_L1 dd tl CC dp fu ts b k S).1 = true → mPar tl (g_m_readsRepeat_L1 dd tl CC dp fu ts b k S).2 ∧ b ≤ me (g_m_readsRepeat_L1 dd tl CC dp fu ts b k S).2) := by
  intro fu
  induction fu with
  | zero =>
    intro ts b k S h hb hm
    rw [g_m_readsRepeat_L1]
    refine ⟨((kp_next h.tk).trans (kp_is _ _)).pF, fun e => ?_⟩
    rw [is_t2 e]
    exact ⟨par_next h, Nat.le_trans hm (me_next h.tk)⟩
  | succ fu ih =>
    intro ts b k S h hb hm
    have hs := par_set h hb
    have hn := par_setnext h hb
    have hw := W_ok (dd := dd) (dp := dp) hQ 601 ts b k _ hn
    have hp0 : pF S (sI 25 (nI b) S) := ⟨fun k a => sI_o (by omega), fun _ _ _ => rfl, Or.inl ⟨sI_o (by decide), rfl, rfl, rfl⟩⟩
    have hp1 : pF S (g_m_next tl (sI 25 (nI b) S)) := hp0.trans (kp_next hs.1).pF
    rw [g_m_readsRepeat_L1]
    split
    next q =>
      have h2 := hw.2 q
      have hme := me_next hs.1
      rw [hs.2] at hme
      have h3 := ih ts b (k + 1) _ h2.1 hb (Nat.le_trans hme h2.2)
      exact ⟨(hp1.trans hw.1).trans h3.1, h3.2⟩
    next q => exact ⟨hp1.trans hw.1, fun e => absurd e Bool.false_ne_true⟩
theorem rep_ok (dd tl : Nat) (CC : ZS → Bool × ZS) (dp : Int32) (hQ : CCok tl CC) : RRok tl (g_m_readsRepeat dd tl CC dp) := by
  intro S hP
  obtain ⟨hL, hO, h1, h40⟩ := hP
  have hL2 := lx_number (j := 0) (a := 1) (b := 20) hL
  have hk2 := kp_number (j := 0) (a := 1) (b := 20) hL
  rw [g_m_readsRepeat]
  split
  next q =>
    split
    next q2 =>
      have h9 := rep_ok1 (dd := dd) (dp := dp) hQ (mN (g_m_number tl 0 1 20 S).2 0 - 0) (mN (g_m_number tl 0 1 20 S).2 0) (me (g_m_number tl 0 1 20 S).2) 0 _ (.of hL2 (hk2.ok hO) h1 h40) hL2.1.2.2.2 (Nat.le_refl _)
      refine ⟨hk2.pF.trans h9.1, fun e => ⟨(h9.2 e).1, ?_, k3 (number_t hL q).1⟩⟩
      exact Nat.le_trans (me_number hL) (h9.2 e).2
    next q2 => exact rdF (hk2.trans (kp_is _ _)).pF
  next q => exact rdF hk2.pF
/-- a command in a number h of places to nest yet -/
noncomputable def g_cmd (tl : Nat) : Nat → ZS → Bool × ZS
  | 0, S => g_m_cmd0 tl (mn S) 3 S
  | h + 1, S => g_m_cmdS (14 + 2 * h) tl (mn S) (g_m_readsRepeat (13 + 2 * h) tl (g_cmd tl h) (nI (2 - h))) (nI (2 - h)) S
theorem g_cmd_ok (tl : Nat) : ∀ h, CCok tl (g_cmd tl h) := by
  intro h
  induction h with
  | zero => exact cmd0_ok tl 3
  | succ h ih => exact cmdS_ok _ tl _ (rep_ok _ tl _ _ ih) _
theorem k_cmd (tl : Nat) : ∀ h, h ≤ 3 → ∀ S, mPar tl S → zM sc yX7_readsCommand cX7_readsCommand 3 (some .boolean) (13 + 2 * h) 0 0 [.ref 0, .int (nI (3 - h))] (mh S) (.inl (some (.int (zb (g_cmd tl h S).1)))) (mh (g_cmd tl h S).2) := by
  intro h
  induction h with
  | zero => intro _ S hP; exact k_m_cmd0 tl (mn S) 3 S hP.1 hP.2.2.1 hP.2.2.2 hP.2.1 rfl
  | succ h ih =>
    intro h3 S hP
    have hdp : ¬ nI (2 - h) = 3 := by
      rw [show (3 : Int32) = nI 3 from rfl, nI_eq (by omega) (by decide)]
      omega
    have e1 : nI (2 - h) + 1 = nI (3 - h) := by
      rw [nI_1]; congr 1; omega
    have e2 : 3 - (h + 1) = 2 - h := by omega
    have e3 : 13 + 2 * (h + 1) = 14 + 2 * h + 1 := by omega
    have e4 : 13 + 2 * h + 1 = 14 + 2 * h := by omega
    rw [e2, e3]
    exact k_m_cmdS (14 + 2 * h) tl (mn S) (g_m_readsRepeat (13 + 2 * h) tl (g_cmd tl h) (nI (2 - h))) (nI (2 - h)) S hP.1 hP.2.2.1 hP.2.2.2 hP.2.1 hdp
      (fun Q hQ => e4 ▸ k_m_readsRepeat (13 + 2 * h) tl (g_cmd tl h) (nI (2 - h)) Q hQ (fun V hV => by rw [e1]; exact ih (by omega) V hV) (g_cmd_ok tl h) (by omega)) (by omega)
