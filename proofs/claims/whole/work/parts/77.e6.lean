variable {sc : SC}

theorem zup_keep {σ α : Type} (f : σ → α) {g : Nat → σ → σ} (h : ∀ k s, f (g k s) = f s) : ∀ n k s, f (zup g n k s) = f s := by
  intro n
  induction n with
  | zero => intro k s; rfl
  | succ n ih => intro k s; rw [zup, ih, h]
theorem zdn_keep {σ α : Type} (f : σ → α) {g : Nat → σ → σ} (h : ∀ k s, f (g k s) = f s) : ∀ n s, f (zdn g n s) = f s := by
  intro n
  induction n with
  | zero => intro s; rfl
  | succ n ih => intro s; rw [zdn, ih, h]
theorem tn_mark (T : TS) (k : Nat) (f g : Int32) : tn (tMark T k f g) = tn T := rfl
theorem tn_gather (T : TS) (k : Nat) : tn (tGather T k) = tn T := rfl
theorem tn_gat (T : TS) (k : Nat) : tn (tGat T k) = tn T := by
  rw [tGat]
  split <;> rfl
theorem tn_plant (T : TS) (k : Nat) : tn (tPlant T k) = tn T := by
  rw [tPlant]
  split <;> rfl
theorem tn_push (T : TS) (k : Nat) : tn (tPush T k) = tn T := rfl
theorem tn_pushIf (T : TS) (k : Nat) : tn (tPushIf T k) = tn T := by
  rw [tPushIf]
  split <;> rfl
theorem tn_reads (T : TS) : tn (tReads T) = tn T := by
  rw [tReads, zup_keep tn (fun k T => by rw [tRead]; split <;> rfl)]
theorem tn_pE (n k : Nat) (s : TS × Nat) : tn (zup tPE n k s).1 = tn s.1 := zup_keep (fun s : TS × Nat => tn s.1) (fun k s => tn_pushIf s.1 k) n k s
theorem tn_pushEach (T : TS) : tn (tPushEach T).1 = tn T := by
  rw [tPushEach, tn_pE]
theorem tn_cnt (T : TS) (k : Nat) : tn (tCnt T k) = tn T := rfl
theorem tn_upd2 (f t F G : Int32) (n : Nat) (s : TS × Nat) : tn (zdn (tUpd2 f t F G) n s).1 = tn s.1 := zdn_keep (fun s : TS × Nat => tn s.1) (fun k s => by
    show tn (tUpd2 f t F G k s).1 = tn s.1
    rw [tUpd2]
    split
    · rfl
    · split
      · exact tn_gat _ _
      · rfl) n s
theorem tn_upd1 (f t : Int32) (n k : Nat) (T : TS) : tn (zup (tUpd1 f t) n k T) = tn T := zup_keep tn (fun k T => by
    rw [tUpd1]
    split
    · exact tn_pushIf _ _
    · rfl) n k T
theorem tn_updE (s : TS × Nat) : tn (tUpdE s).1 = tn s.1 := by
  rw [tUpdE]
  dsimp only
  rw [tn_reads, tn_cnt]
theorem tn_update (T : TS) (f t F G : Int32) : tn (tUpdate T f t F G).1 = tn T := by
  rw [tUpdate, tn_updE, tn_upd2]
  dsimp only
  rw [tn_upd1]
theorem tn_fills (T : TS) : tn (tFills T) = tn T := rfl
theorem tn_lay0 (T : TS) : tn (tLay0 T) = tn T := rfl
theorem tn_lay (T : TS) : tn (tLayOut T) = tn T := by
  rw [tLayOut, zup_keep tn (fun k T => by rw [tLay1]; split <;> rfl), tn_lay0]
theorem tn_build (T : TS) : tn (tBuild T) = tn T := by
  rw [tBuild, zdn_keep tn (fun k T => by
    rw [tBld]
    split
    · rfl
    · exact tn_plant _ _), tn_fills, tn_lay]
/-- what reading leaves -/
def kf (S R : ZS) : Prop := R.1 4 = S.1 4 ∧ R.1 6 = S.1 6 ∧ R.1 9 = S.1 9 ∧ R.2 = S.2
theorem kf.tr {S R Q : ZS} (h : kf S R) (g : kf R Q) : kf S Q := ⟨g.1.trans h.1, g.2.1.trans h.2.1, g.2.2.1.trans h.2.2.1, g.2.2.2.trans h.2.2.2⟩
theorem kf_num {c : Nat} {x z : Int32} {S : ZS} {TU : TS} : kf S (g_c_2_readNumber c x z S TU).2 := num_f
theorem kf_val {c : Nat} {b : Bool} {S : ZS} {TU : TS} : kf S (g_c_2_readValue c b S TU).2 := val_f
theorem kf_ends {c : Nat} {b : Bool} {S : ZS} {TU : TS} : kf S (g_c_2_ends c b S TU).2 := ends_f
theorem kf_exp {c : Nat} {x : Int32} {S : ZS} {TU : TS} : kf S (g_c_2_expect c x S TU) := exp_f
theorem kf_fail {x : Int32} {S : ZS} {TU : TS} : kf S (g_c_2_fail x S TU) := ⟨fail_f.1, fail_f.2.2.1, fail_f.2.2.2.1, fail_f.2.2.2.2⟩
theorem upd_all {c n : Nat} {x : Int32} {S : ZS} {TU : TS} (h : scO c S) : scO c (g_c_2_readUpdate c n x S TU).1 ∧ kf S (g_c_2_readUpdate c n x S TU).1 ∧ tn (g_c_2_readUpdate c n x S TU).2 = tn TU := by
  rw [g_c_2_readUpdate]
  have a1 : scO c (g_c_2_readNumber c 0 (nI (n - 1)) S TU).2 := num_sc h
  have a2 : kf S (g_c_2_readNumber c 0 (nI (n - 1)) S TU).2 := kf_num
  generalize g_c_2_readNumber c 0 (nI (n - 1)) S TU = A at a1 a2 ⊢
  have b1 : scO c (g_c_2_readNumber c A.1 (nI (n - 1)) A.2 TU).2 := num_sc a1
  have b2 : kf S (g_c_2_readNumber c A.1 (nI (n - 1)) A.2 TU).2 := a2.tr kf_num
  generalize g_c_2_readNumber c A.1 (nI (n - 1)) A.2 TU = B at b1 b2 ⊢
  have v1 : scO c (g_c_2_readValue c true B.2 TU).2 := val_sc b1
  have v2 : kf S (g_c_2_readValue c true B.2 TU).2 := b2.tr kf_val
  generalize g_c_2_readValue c true B.2 TU = V at v1 v2 ⊢
  have e1 : ∀ b, scO c (g_c_2_ends c b B.2 TU).2 ∧ kf S (g_c_2_ends c b B.2 TU).2 := fun b => ⟨ends_sc b1, b2.tr kf_ends⟩
  have e2 : ∀ b, scO c (g_c_2_ends c b V.2 TU).2 ∧ kf S (g_c_2_ends c b V.2 TU).2 := fun b => ⟨ends_sc v1, v2.tr kf_ends⟩
  have t1 : ∀ f t F G, tn (tUpdate TU f t F G).1 = tn TU := fun f t F G => tn_update TU f t F G
  generalize tUpdate TU = U at t1 ⊢
  generalize g_c_2_ends c = E at e1 e2 ⊢
  repeat' split
  all_goals
    first
      | exact ⟨b1, b2, rfl⟩
      | exact ⟨v1, v2, rfl⟩
      | exact ⟨(e1 _).1, (e1 _).2, rfl⟩
      | exact ⟨(e2 _).1, (e2 _).2, rfl⟩
      | exact ⟨(e1 _).1, (e1 _).2, t1 _ _ _ _⟩
      | exact ⟨(e2 _).1, (e2 _).2, t1 _ _ _ _⟩
theorem push_all {c : Nat} {S : ZS} {TU : TS} (h : scO c S) : scO c (g_c_2_readPush c S TU).1 ∧ kf S (g_c_2_readPush c S TU).1 ∧ tn (g_c_2_readPush c S TU).2 = tn TU := by
  rw [g_c_2_readPush]
  have a1 : scO c (g_c_2_expect c 2 S TU) := exp_sc h (by decide)
  have a2 : kf S (g_c_2_expect c 2 S TU) := kf_exp
  have b1 : scO c (g_c_2_expect c 2 (g_c_2_fail 2 S TU) TU) := exp_sc (fail_sc h) (by decide)
  have b2 : kf S (g_c_2_expect c 2 (g_c_2_fail 2 S TU) TU) := kf_fail.tr kf_exp
  generalize g_c_2_expect c 2 (g_c_2_fail 2 S TU) TU = B at b1 b2 ⊢
  generalize g_c_2_expect c 2 S TU = A at a1 a2 ⊢
  have e1 : ∀ b, scO c (g_c_2_ends c b A TU).2 ∧ kf S (g_c_2_ends c b A TU).2 := fun b => ⟨ends_sc a1, a2.tr kf_ends⟩
  have e2 : ∀ b, scO c (g_c_2_ends c b B TU).2 ∧ kf S (g_c_2_ends c b B TU).2 := fun b => ⟨ends_sc b1, b2.tr kf_ends⟩
  have t1 : tn (if tDo TU (nm c (sp S) S) then tPush TU (nm c (sp S) S) else TU) = tn TU := by
    split
    · exact tn_push _ _
    · rfl
  generalize (if tDo TU (nm c (sp S) S) then tPush TU (nm c (sp S) S) else TU) = U at t1 ⊢
  generalize g_c_2_ends c = E at e1 e2 ⊢
  repeat' split
  all_goals
    first
      | exact ⟨(e1 _).1, (e1 _).2, rfl⟩
      | exact ⟨(e2 _).1, (e2 _).2, rfl⟩
      | exact ⟨(e1 _).1, (e1 _).2, t1⟩
      | exact ⟨(e2 _).1, (e2 _).2, t1⟩
theorem app_all {c n : Nat} {S : ZS} {TU : TS} (h : scO c S) (hn : tn TU = nI n) (h1 : 1 ≤ n) (h40 : n ≤ 40) : scO c (g_c_2_readAppend c n S TU).1 ∧ kf S (g_c_2_readAppend c n S TU).1 ∧ tOK (g_c_2_readAppend c n S TU).2 := by
  have hT : tOK TU := tOK.of hn h1 h40
  rw [g_c_2_readAppend]
  have a1 : scO c (g_c_2_readValue c true S TU).2 := val_sc h
  have a2 : kf S (g_c_2_readValue c true S TU).2 := kf_val
  generalize g_c_2_readValue c true S TU = A at a1 a2 ⊢
  have e1 : ∀ b, scO c (g_c_2_ends c b A.2 TU).2 ∧ kf S (g_c_2_ends c b A.2 TU).2 := fun b => ⟨ends_sc a1, a2.tr kf_ends⟩
  split
  next q =>
    split
    next q2 => exact absurd (ends_ok q2).1 Bool.false_ne_true
    next q2 => exact ⟨(e1 _).1, (e1 _).2, hT⟩
  next q =>
    split
    next q2 => exact ⟨(e1 _).1, (e1 _).2, tOK.of (n := n + 1) (by rw [tn_build]; rfl) (by omega) (by omega)⟩
    next q2 => exact ⟨(e1 _).1, (e1 _).2, hT⟩
