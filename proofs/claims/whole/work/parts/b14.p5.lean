variable {sc : SC}
/-! ===== what can be undone, and the snapshot ===== -/
theorem beg_L : ∀ (fu k : Nat) (S : ZS), k + fu = 300 → (g_m_begins_L fu k S).1 = S.1 ∧ (∀ j, ¬ j = 1 → (g_m_begins_L fu k S).2 j = S.2 j) ∧ ∀ q, (g_m_begins_L fu k S).2 1 q = if k ≤ q ∧ q < 300 then S.2 0 q else S.2 1 q := by
  intro fu
  induction fu with
  | zero => intro k S h; exact ⟨rfl, fun _ _ => rfl, fun q => by rw [if_neg (by omega)]; rfl⟩
  | succ fu ih =>
    intro k S h
    obtain ⟨r1, r2, r3⟩ := ih (k + 1) (sA 1 (k) (S.2 0 (k)) S) (by omega)
    refine ⟨r1, fun j hj => (r2 j hj).trans (sA_x hj), fun q => ?_⟩
    rw [g_m_begins_L, r3 q]
    show (if k + 1 ≤ q ∧ q < 300 then S.2 0 q else if q = k then S.2 0 k else S.2 1 q) = _
    by_cases c : q = k
    · rw [if_neg (by omega), if_pos c, if_pos (by omega), c]
    · by_cases d : k + 1 ≤ q ∧ q < 300
      · rw [if_pos d, if_pos (by omega)]
      · rw [if_neg d, if_neg c, if_neg (by omega)]
theorem beg (S : ZS) : (g_m_begins S).1 = S.1 ∧ (∀ j, ¬ j = 1 → (g_m_begins S).2 j = S.2 j) ∧ ∀ q, q < 300 → (g_m_begins S).2 1 q = S.2 0 q := by
  obtain ⟨r1, r2, r3⟩ := beg_L (zopq 300) 0 S (by rw [zopq_eq])
  exact ⟨r1, r2, fun q hq => (r3 q).trans (if_pos ⟨Nat.zero_le _, hq⟩)⟩
theorem rem_L2 {p : Nat} {x : Int32} : ∀ (fu k r : Nat) (S : ZS), k + fu = 300 → (g_m_remember_L2 p x fu k r S).1 = x ∧ (g_m_remember_L2 p x fu k r S).2.1 = upd S.1 5 (nI (r + 1)) ∧ (∀ j, ¬ j = 3 → (g_m_remember_L2 p x fu k r S).2.2 j = S.2 j) ∧ ∀ q, (g_m_remember_L2 p x fu k r S).2.2 3 q = if 300 * r + k ≤ q ∧ q < 300 * r + 300 then S.2 1 (q - 300 * r) else S.2 3 q := by
  intro fu
  induction fu with
  | zero => intro k r S h; exact ⟨rfl, rfl, fun _ _ => rfl, fun q => by rw [if_neg (by omega)]; rfl⟩
  | succ fu ih =>
    intro k r S h
    obtain ⟨r1, r2, r3, r4⟩ := ih (k + 1) r (sA 3 (300 * r + k) (S.2 1 (k)) S) (by omega)
    refine ⟨r1, r2, fun j hj => (r3 j hj).trans (sA_x hj), fun q => ?_⟩
    rw [g_m_remember_L2, r4 q]
    show (if 300 * r + (k + 1) ≤ q ∧ q < 300 * r + 300 then S.2 1 (q - 300 * r) else if q = 300 * r + k then S.2 1 k else S.2 3 q) = _
    by_cases c : q = 300 * r + k
    · rw [if_neg (by omega), if_pos c, if_pos (by omega), c, Nat.add_sub_cancel_left]
    · by_cases d : 300 * r + (k + 1) ≤ q ∧ q < 300 * r + 300
      · rw [if_pos d, if_pos (by omega)]
      · rw [if_neg d, if_neg c, if_neg (by omega)]
theorem sA_3 (i : Nat) (v : Int32) (S : ZS) (q : Nat) : (sA 3 i v S).2 3 q = if q = i then v else S.2 3 q := rfl
theorem rem_L1 {p : Nat} {x : Int32} : ∀ (fu k r : Nat) (S : ZS), k + fu = 2400 → 300 ≤ k → ∃ S2, g_m_remember_L1 p x fu k r S = g_m_remember_L2 p x 300 0 (r - 1) (sI 5 (nI (r - 1)) S2) ∧ S2.1 = S.1 ∧ (∀ j, ¬ j = 3 → S2.2 j = S.2 j) ∧ ∀ y, S2.2 3 y = if k - 300 ≤ y ∧ y < 2100 then S.2 3 (y + 300) else S.2 3 y := by
  intro fu
  induction fu with
  | zero => intro k r S h h3; exact ⟨S, rfl, rfl, fun _ _ => rfl, fun y => by rw [if_neg (by omega)]⟩
  | succ fu ih =>
    intro k r S h h3
    obtain ⟨S2, r0, r1, r2, r3⟩ := ih (k + 1) r (sA 3 (k - 300) (S.2 3 (k)) S) (by omega) (by omega)
    refine ⟨S2, r0, r1, fun j hj => (r2 j hj).trans (sA_x hj), fun y => ?_⟩
    rw [r3 y]
    rw [sA_3, sA_3]
    by_cases c : y = k - 300
    · rw [if_neg (by omega), if_pos c, if_pos (by omega), c, show k - 300 + 300 = k by omega]
    · by_cases d : k + 1 - 300 ≤ y ∧ y < 2100
      · have d2 : k - 300 ≤ y ∧ y < 2100 := ⟨by omega, d.2⟩
        have d3 : ¬ y + 300 = k - 300 := by omega
        rw [if_pos d, if_neg d3, if_pos d2]
      · have d2 : ¬ (k - 300 ≤ y ∧ y < 2100) := fun z => d ⟨by omega, z.2⟩
        rw [if_neg d, if_neg c, if_neg d2]
/-- the rows of the past stand to the trees that are kept -/
def HistI (c r : Nat) (G : Nat → TS) (a3 : Nat → Int32) : Prop := ∀ p, p < c → ∃ m, Rel m (G ((p + r) % 8)) (fun k => a3 (300 * p + k))
theorem remember_ok {c r : Nat} {x : Int32} {G : Nat → TS} {T : TS} {S : ZS} {n : Nat} {w : Nat → Int32} (h5 : S.1 5 = nI c) (h8 : c ≤ 8) (hw : Rel n T w) (hb : ∀ k, k < 300 → S.2 1 k = w k) (hH : HistI c r G (S.2 3)) :
    (g_m_remember c x S).1 = x ∧ (g_m_remember c x S).2.1 = upd S.1 5 (nI (if c < 8 then c + 1 else 8)) ∧ (∀ j, ¬ j = 3 → (g_m_remember c x S).2.2 j = S.2 j) ∧ HistI (if c < 8 then c + 1 else 8) (remR c r) (remG c r G T) ((g_m_remember c x S).2.2 3) := by
  by_cases q : c < 8
  · have e : g_m_remember c x S = g_m_remember_L2 c x 300 0 c S := if_neg (by omega)
    obtain ⟨r1, r2, r3, r4⟩ := rem_L2 (p := c) (x := x) 300 0 c S (by omega)
    rw [e, if_pos q]
    have eR : remR c r = r := if_pos q
    have eG : remG c r G T = setG G ((c + r) % 8) (tCopy T (G ((c + r) % 8))) := if_pos q
    rw [eR, eG]
    refine ⟨r1, r2, r3, fun p hp => ?_⟩
    by_cases z : p = c
    · refine ⟨n, ?_⟩
      have e1 : setG G ((c + r) % 8) (tCopy T (G ((c + r) % 8))) ((p + r) % 8) = tCopy T (G ((c + r) % 8)) := by rw [z]; exact if_pos rfl
      rw [e1]
      refine (hw.copy).cong (fun k hk => ?_)
      rw [r4, if_pos (by omega), show 300 * p + k - 300 * c = k by omega]
      exact hb k hk
    · obtain ⟨m, hm⟩ := hH p (by omega)
      refine ⟨m, ?_⟩
      have e1 : setG G ((c + r) % 8) (tCopy T (G ((c + r) % 8))) ((p + r) % 8) = G ((p + r) % 8) := if_neg (by omega)
      rw [e1]
      refine hm.cong (fun k hk => ?_)
      rw [r4, if_neg (by omega)]
  · have c8 : c = 8 := by omega
    subst c8
    have e : g_m_remember 8 x S = g_m_remember_L1 8 x (2400 - 300) 300 8 S := if_pos rfl
    obtain ⟨S2, s0, s1, s2, s3⟩ := rem_L1 (p := 8) (x := x) 2100 300 8 S (by omega) (by omega)
    obtain ⟨r1, r2, r3, r4⟩ := rem_L2 (p := 8) (x := x) 300 0 7 (sI 5 (nI 7) S2) (by omega)
    have s0' : g_m_remember_L1 8 x (2400 - 300) 300 8 S = g_m_remember_L2 8 x 300 0 7 (sI 5 (nI 7) S2) := s0
    rw [e, s0', if_neg q]
    have eR : remR 8 r = r + 1 := if_neg q
    have eG : remG 8 r G T = setG G ((7 + (r + 1)) % 8) (tCopy T (G ((7 + (r + 1)) % 8))) := if_neg q
    rw [eR, eG]
    refine ⟨r1, ?_, fun j hj => (r3 j hj).trans (s2 j hj), fun p hp => ?_⟩
    · rw [r2]
      funext k
      show (if k = 5 then nI (7 + 1) else if k = 5 then nI 7 else S2.1 k) = if k = 5 then nI 8 else S.1 k
      rw [s1]
      by_cases z : k = 5
      · rw [if_pos z, if_pos z]
      · rw [if_neg z, if_neg z, if_neg z]
    · by_cases z : p = 7
      · refine ⟨n, ?_⟩
        have e1 : setG G ((7 + (r + 1)) % 8) (tCopy T (G ((7 + (r + 1)) % 8))) ((p + (r + 1)) % 8) = tCopy T (G ((7 + (r + 1)) % 8)) := by rw [z]; exact if_pos rfl
        rw [e1]
        refine (hw.copy).cong (fun k hk => ?_)
        rw [r4, if_pos (by omega), show 300 * p + k - 300 * 7 = k by omega]
        exact (congrFun (s2 1 (by decide)) k).trans (hb k hk)
      · obtain ⟨m, hm⟩ := hH (p + 1) (by omega)
        refine ⟨m, ?_⟩
        have e1 : setG G ((7 + (r + 1)) % 8) (tCopy T (G ((7 + (r + 1)) % 8))) ((p + (r + 1)) % 8) = G ((p + 1 + r) % 8) := by
          rw [setG, if_neg (by omega), show p + (r + 1) = p + 1 + r by omega]
        rw [e1]
        refine hm.cong (fun k hk => ?_)
        rw [r4, if_neg (by omega)]
        show S2.2 3 (300 * p + k) = _
        rw [s3, if_pos (by omega), show 300 * p + k + 300 = 300 * (p + 1) + k by omega]
theorem und_L {p : Nat} : ∀ (fu k r : Nat) (S : ZS), k + fu = 300 → (g_m_undo_L p fu k r S).1 = nI r ∧ (g_m_undo_L p fu k r S).2.1 = S.1 ∧ (∀ j, ¬ j = 0 → (g_m_undo_L p fu k r S).2.2 j = S.2 j) ∧ ∀ q, (g_m_undo_L p fu k r S).2.2 0 q = if k ≤ q ∧ q < 300 then S.2 3 (300 * r + q) else S.2 0 q := by
  intro fu
  induction fu with
  | zero => intro k r S h; exact ⟨rfl, rfl, fun _ _ => rfl, fun q => by rw [if_neg (by omega)]; rfl⟩
  | succ fu ih =>
    intro k r S h
    obtain ⟨r1, r2, r3, r4⟩ := ih (k + 1) r (sA 0 (k) (S.2 3 (300 * r + k)) S) (by omega)
    refine ⟨r1, r2, fun j hj => (r3 j hj).trans (sA_x hj), fun q => ?_⟩
    rw [g_m_undo_L, r4 q]
    show (if k + 1 ≤ q ∧ q < 300 then S.2 3 (300 * r + q) else if q = k then S.2 3 (300 * r + k) else S.2 0 q) = _
    by_cases c : q = k
    · rw [if_neg (by omega), if_pos c, if_pos (by omega), c]
    · by_cases d : k + 1 ≤ q ∧ q < 300
      · rw [if_pos d, if_pos (by omega)]
      · rw [if_neg d, if_neg c, if_neg (by omega)]
theorem sav_L : ∀ (fu k : Nat) (S : ZS), k + fu = 300 → (g_m_saveSnapshot_L fu k S).1 = S.2 0 0 ∧ (g_m_saveSnapshot_L fu k S).2.1 = S.1 ∧ (∀ j, ¬ j = 4 → (g_m_saveSnapshot_L fu k S).2.2 j = S.2 j) ∧ ∀ q, (g_m_saveSnapshot_L fu k S).2.2 4 q = if k ≤ q ∧ q < 300 then S.2 0 q else S.2 4 q := by
  intro fu
  induction fu with
  | zero => intro k S h; exact ⟨rfl, rfl, fun _ _ => rfl, fun q => by rw [if_neg (by omega)]; rfl⟩
  | succ fu ih =>
    intro k S h
    obtain ⟨r1, r2, r3, r4⟩ := ih (k + 1) (sA 4 (k) (S.2 0 (k)) S) (by omega)
    refine ⟨r1, r2, fun j hj => (r3 j hj).trans (sA_x hj), fun q => ?_⟩
    rw [g_m_saveSnapshot_L, r4 q]
    show (if k + 1 ≤ q ∧ q < 300 then S.2 0 q else if q = k then S.2 0 k else S.2 4 q) = _
    by_cases c : q = k
    · rw [if_neg (by omega), if_pos c, if_pos (by omega), c]
    · by_cases d : k + 1 ≤ q ∧ q < 300
      · rw [if_pos d, if_pos (by omega)]
      · rw [if_neg d, if_neg c, if_neg (by omega)]
theorem res_L : ∀ (fu k : Nat) (S : ZS), k + fu = 300 → ((0 < k ∨ 0 < fu) → (g_m_restoreSnapshot_L fu k S).1 = if k = 0 then S.2 4 0 else S.2 0 0) ∧ (g_m_restoreSnapshot_L fu k S).2.1 = upd S.1 5 0 ∧ (∀ j, ¬ j = 0 → (g_m_restoreSnapshot_L fu k S).2.2 j = S.2 j) ∧ ∀ q, (g_m_restoreSnapshot_L fu k S).2.2 0 q = if k ≤ q ∧ q < 300 then S.2 4 q else S.2 0 q := by
  intro fu
  induction fu with
  | zero => intro k S h; exact ⟨fun _ => by rw [if_neg (by omega)]; rfl, rfl, fun _ _ => rfl, fun q => by rw [if_neg (by omega)]; rfl⟩
  | succ fu ih =>
    intro k S h
    obtain ⟨r1, r2, r3, r4⟩ := ih (k + 1) (sA 0 (k) (S.2 4 (k)) S) (by omega)
    refine ⟨fun _ => ?_, r2, fun j hj => (r3 j hj).trans (sA_x hj), fun q => ?_⟩
    · rw [g_m_restoreSnapshot_L, r1 (Or.inl (by omega)), if_neg (by omega)]
      show (if 0 = k then S.2 4 k else S.2 0 0) = _
      by_cases c : k = 0
      · rw [if_pos c.symm, if_pos c, c]
      · rw [if_neg (fun z => c z.symm), if_neg c]
    · rw [g_m_restoreSnapshot_L, r4 q]
      show (if k + 1 ≤ q ∧ q < 300 then S.2 4 q else if q = k then S.2 4 k else S.2 0 q) = _
      by_cases c : q = k
      · rw [if_neg (by omega), if_pos c, if_pos (by omega), c]
      · by_cases d : k + 1 ≤ q ∧ q < 300
        · rw [if_pos d, if_pos (by omega)]
        · rw [if_neg d, if_neg c, if_neg (by omega)]
