theorem zup_keep {σ α : Type} (f : σ → α) {g : Nat → σ → σ} (h : ∀ k s, f (g k s) = f s) : ∀ n k s, f (zup g n k s) = f s := by
  intro n
  induction n with
  | zero => intro k s; rfl
  | succ n ih => intro k s; rw [zup, ih, h]
theorem zdn_keep {σ α : Type} (f : σ → α) {g : Nat → σ → σ} (h : ∀ k s, f (g k s) = f s) : ∀ n s, f (zdn g n s) = f s := by
  intro n
  induction n with
  | zero => intro s; rfl
  | succ n ih => intro s; rw [zdn, ih, h]
theorem tn_mark (T : TS) (k : Nat) (f g : Int32) : tn (tMark T k f g) = tn T := rfl
theorem tn_gather (T : TS) (k : Nat) : tn (tGather T k) = tn T := rfl
theorem tn_gat (T : TS) (k : Nat) : tn (tGat T k) = tn T := by
  rw [tGat]
  split <;> rfl
theorem tn_plant (T : TS) (k : Nat) : tn (tPlant T k) = tn T := by
  rw [tPlant]
  split <;> rfl
theorem tn_push (T : TS) (k : Nat) : tn (tPush T k) = tn T := rfl
theorem tn_pushIf (T : TS) (k : Nat) : tn (tPushIf T k) = tn T := by
  rw [tPushIf]
  split <;> rfl
theorem tn_reads (T : TS) : tn (tReads T) = tn T := zup_keep tn (fun k T => by rw [tRead]; split <;> rfl) 127 1 T
theorem tn_pushEach (T : TS) : tn (tPushEach T).1 = tn T := zup_keep (fun s : TS × Nat => tn s.1) (fun k s => by
  show tn (tPE k s).1 = tn s.1
  rw [tPE]
  split <;> rfl) 127 1 (T, 0)
theorem tn_update (T : TS) (f t F G : Int32) : tn (tUpdate T f t F G).1 = tn T := by
  rw [tUpdate, tUpdE]
  show tn (tReads (tCnt _ _)) = _
  rw [tn_reads]
  show tn (zdn (tUpd2 f t F G) 127 (zup (tUpd1 f t) 127 1 T, 0)).1 = tn T
  rw [zdn_keep (fun s : TS × Nat => tn s.1) (fun k s => by
    show tn (tUpd2 f t F G k s).1 = tn s.1
    rw [tUpd2]
    split
    · rfl
    · split
      · exact tn_gat _ _
      · rfl) 127]
  show tn (zup (tUpd1 f t) 127 1 T) = tn T
  exact zup_keep tn (fun k T => by
    rw [tUpd1]
    split
    · exact tn_pushIf _ _
    · rfl) 127 1 T
theorem tn_build (T : TS) : tn (tBuild T) = tn T := by
  rw [tBuild, zdn_keep tn (fun k T => by
    rw [tBld]
    split
    · rfl
    · exact tn_plant _ _) 127]
  show tn (tLayOut T) = tn T
  rw [tLayOut, zup_keep tn (fun k T => by rw [tLay1]; split <;> rfl) 63]
  rfl
/-- what reading leaves -/
def kf (S R : ZS) : Prop := R.1 4 = S.1 4 ∧ R.1 6 = S.1 6 ∧ R.1 9 = S.1 9 ∧ R.2 = S.2
theorem kf.tr {S R Q : ZS} (h : kf S R) (g : kf R Q) : kf S Q := ⟨g.1.trans h.1, g.2.1.trans h.2.1, g.2.2.1.trans h.2.2.1, g.2.2.2.trans h.2.2.2⟩
theorem kf_num {c : Nat} {x z : Int32} {S : ZS} {TU : TS} : kf S (g_c_2_readNumber c x z S TU).2 := num_f
theorem kf_val {c : Nat} {b : Bool} {S : ZS} {TU : TS} : kf S (g_c_2_readValue c b S TU).2 := val_f
theorem kf_ends {c : Nat} {b : Bool} {S : ZS} {TU : TS} : kf S (g_c_2_ends c b S TU).2 := ends_f
theorem kf_exp {c : Nat} {x : Int32} {S : ZS} {TU : TS} : kf S (g_c_2_expect c x S TU) := exp_f
theorem kf_fail {x : Int32} {S : ZS} {TU : TS} : kf S (g_c_2_fail x S TU) := ⟨fail_f.1, fail_f.2.2.1, fail_f.2.2.2.1, fail_f.2.2.2.2⟩
theorem upd_all {c n : Nat} {x : Int32} {S : ZS} {TU : TS} (h : scO c S) : scO c (g_c_2_readUpdate c n x S TU).1 ∧ kf S (g_c_2_readUpdate c n x S TU).1 ∧ tn (g_c_2_readUpdate c n x S TU).2 = tn TU := by
  rw [g_c_2_readUpdate]
  repeat' split
  all_goals
    refine ⟨?_, ?_, ?_⟩
    · first | exact num_sc (num_sc h) | exact ends_sc (num_sc (num_sc h)) | exact val_sc (num_sc (num_sc h)) | exact ends_sc (val_sc (num_sc (num_sc h)))
    · first | exact kf_num.tr kf_num | exact (kf_num.tr kf_num).tr kf_ends | exact (kf_num.tr kf_num).tr kf_val | exact ((kf_num.tr kf_num).tr kf_val).tr kf_ends
    · first | rfl | exact tn_update _ _ _ _ _
theorem push_all {c : Nat} {S : ZS} {TU : TS} (h : scO c S) : scO c (g_c_2_readPush c S TU).1 ∧ kf S (g_c_2_readPush c S TU).1 ∧ tn (g_c_2_readPush c S TU).2 = tn TU := by
  rw [g_c_2_readPush]
  repeat' split
  all_goals
    refine ⟨?_, ?_, ?_⟩
    · first | exact ends_sc (exp_sc h (by decide)) | exact ends_sc (exp_sc (fail_sc h) (by decide))
    · first | exact kf_exp.tr kf_ends | exact (kf_fail.tr kf_exp).tr kf_ends
    · first | rfl | exact tn_push _ _
theorem app_all {c n : Nat} {S : ZS} {TU : TS} (h : scO c S) (hn : tn TU = nI n) (h1 : 1 ≤ n) (h40 : n ≤ 40) : scO c (g_c_2_readAppend c n S TU).1 ∧ kf S (g_c_2_readAppend c n S TU).1 ∧ tOK (g_c_2_readAppend c n S TU).2 := by
  have hT : tOK TU := tOK.of hn h1 h40
  rw [g_c_2_readAppend]
  repeat' split
  all_goals
    refine ⟨?_, ?_, ?_⟩
    · exact ends_sc (val_sc h)
    · exact kf_val.tr kf_ends
    · first | exact hT | exact absurd (ends_ok (by assumption)).1 Bool.false_ne_true | exact tOK.of (n := n + 1) (tn_build _) (by omega) (by omega)
