variable {sc : SC}
/-! a token, in words of the text alone -/
theorem sI_self {k : Nat} {v : Int32} {S : ZS} (h : S.1 k = v) : sI k v S = S := by
  obtain ⟨a, b⟩ := S
  simp only [sI, Prod.mk.injEq, and_true]
  funext j
  simp only [upd]
  split
  next e => rw [e]; exact h.symm
  next => rfl
theorem sI_sI (k : Nat) (v u : Int32) (S : ZS) : sI k v (sI k u S) = sI k v S := by
  simp only [sI, Prod.mk.injEq, and_true]
  funext j
  simp only [upd]
  split <;> rfl
theorem sI_comm {k l : Nat} (h : ¬ k = l) (v u : Int32) (S : ZS) : sI k v (sI l u S) = sI l u (sI k v S) := by
  simp only [sI, Prod.mk.injEq, and_true]
  funext j
  simp only [upd]
  by_cases e : j = k
  · rw [if_pos e, if_neg (fun z => h (e.symm.trans z)), if_pos e]
  · rw [if_neg e, if_neg e]
theorem sI_o {k j : Nat} {v : Int32} {S : ZS} (h : ¬ j = k) : (sI k v S).1 j = S.1 j := by simp [sI, upd, h]
theorem sI_same (k : Nat) (v : Int32) (S : ZS) : (sI k v S).1 k = v := by simp [sI, upd]
def lx1 (x : Nat → Int32) : Nat → Nat → Nat
  | 0, p => p
  | fu + 1, p => if x p = 32 then lx1 x fu (p + 1) else if x p = 10 then lx1 x fu (p + 1) else p
noncomputable def lx2 (x : Nat → Int32) (c : Int32) : Nat → Nat → Nat
  | 0, q => q
  | fu + 1, q => if c = 2 ∨ c = 3 then (if g_m_sortOf (x q) = c then lx2 x c fu (q + 1) else q) else q
def lx3 (x : Nat → Int32) : Nat → Nat → Int32 → Int32
  | 0, _, v => v
  | fu + 1, k, v => lx3 x fu (k + 1) (10 * v + x k - 48)
/-- where the token begins, its end, its kind, its number -/
def lxO (x : Nat → Int32) (tl p : Nat) : Nat := lx1 x (tl - p) p
noncomputable def lxE (x : Nat → Int32) (tl o : Nat) : Nat := lx2 x (g_m_sortOf (x o)) (tl - (o + 1)) (o + 1)
noncomputable def lxK (x : Nat → Int32) (o e : Nat) : Int32 := if g_m_sortOf (x o) = 3 then (if e - o ≤ 4 then 3 else 7) else g_m_sortOf (x o)
noncomputable def lxV (x : Nat → Int32) (o e : Nat) : Int32 := if lxK x o e = 3 then lx3 x (e - o) o 0 else 0
noncomputable def lxS (tl : Nat) (S : ZS) : ZS :=
  if lxO (S.2 6) tl (me S) = tl then sI 23 0 (sI 25 (nI tl) (sI 24 (nI tl) S))
  else sI 26 (lxV (S.2 6) (lxO (S.2 6) tl (me S)) (lxE (S.2 6) tl (lxO (S.2 6) tl (me S)))) (sI 23 (lxK (S.2 6) (lxO (S.2 6) tl (me S)) (lxE (S.2 6) tl (lxO (S.2 6) tl (me S)))) (sI 25 (nI (lxE (S.2 6) tl (lxO (S.2 6) tl (me S)))) (sI 24 (nI (lxO (S.2 6) tl (me S))) S)))
theorem lx1_le (x : Nat → Int32) : ∀ fu p, p ≤ lx1 x fu p ∧ lx1 x fu p ≤ p + fu := by
  intro fu
  induction fu with
  | zero => intro p; exact ⟨Nat.le_refl _, Nat.le_refl _⟩
  | succ fu ih =>
    intro p
    have := ih (p + 1)
    rw [lx1]
    split
    · omega
    · split
      · omega
      · omega
theorem lx2_le (x : Nat → Int32) (c : Int32) : ∀ fu p, p ≤ lx2 x c fu p ∧ lx2 x c fu p ≤ p + fu := by
  intro fu
  induction fu with
  | zero => intro p; exact ⟨Nat.le_refl _, Nat.le_refl _⟩
  | succ fu ih =>
    intro p
    have := ih (p + 1)
    rw [lx2]
    split
    · split
      · omega
      · omega
    · omega
theorem lxO_le (x : Nat → Int32) {tl p : Nat} (h : p ≤ tl) : p ≤ lxO x tl p ∧ lxO x tl p ≤ tl := by
  have := lx1_le x (tl - p) p
  rw [lxO]; omega
theorem lxE_le (x : Nat → Int32) {tl o : Nat} (h : o < tl) : o + 1 ≤ lxE x tl o ∧ lxE x tl o ≤ tl := by
  have := lx2_le x (g_m_sortOf (x o)) (tl - (o + 1)) (o + 1)
  rw [lxE]; omega
theorem nx3 (tl : Nat) : ∀ fu k e S, S.1 23 = 3 → g_m_next_L3 tl fu k e S = sI 26 (lx3 (S.2 6) fu k (S.1 26)) S := by
  intro fu
  induction fu with
  | zero => intro k e S _; exact (sI_self rfl).symm
  | succ fu ih =>
    intro k e S h
    rw [g_m_next_L3, if_pos h, ih _ _ _ (show (sI 26 (10 * S.1 26 + S.2 6 k - 48) S).1 23 = 3 from h), sI_sI, sI_same]
    rfl
theorem nx3' (tl fu k e : Nat) (S : ZS) (h : ¬ S.1 23 = 3) : g_m_next_L3 tl fu k e S = S := by
  cases fu with
  | zero => rfl
  | succ fu => rw [g_m_next_L3, if_neg h]
/-- the end of the walk over a token -/
def nxF (x : Nat → Int32) (o e : Nat) (S : ZS) : ZS :=
  if S.1 23 = 3 then (if e - o ≤ 4 then sI 26 (lx3 x (e - o) o 0) S else sI 26 0 (sI 23 7 S)) else sI 26 0 S
theorem nx2 (tl : Nat) : ∀ fu q o S, S.1 25 = nI q → g_m_next_L2 tl fu q o S = nxF (S.2 6) o (lx2 (S.2 6) (S.1 23) fu q) (sI 25 (nI (lx2 (S.2 6) (S.1 23) fu q)) S) := by
  have hE : ∀ (q o : Nat) (S : ZS), S.1 25 = nI q → (if S.1 23 = 3 then (if q - o ≤ 4 then g_m_next_L3 tl (q - o) o q (sI 26 0 S) else g_m_next_L3 tl (q - o) o q (sI 26 0 (sI 23 7 S))) else g_m_next_L3 tl (q - o) o q (sI 26 0 S)) = nxF (S.2 6) o q (sI 25 (nI q) S) := by
    intro q o S h
    rw [sI_self h, nxF]
    by_cases c3 : S.1 23 = 3
    · rw [if_pos c3, if_pos c3]
      by_cases c4 : q - o ≤ 4
      · rw [if_pos c4, if_pos c4, nx3 _ _ _ _ _ (show (sI 26 0 S).1 23 = 3 from c3), sI_sI]
        rfl
      · rw [if_neg c4, if_neg c4, nx3' _ _ _ _ _ (show ¬ (sI 26 0 (sI 23 7 S)).1 23 = 3 from (by decide : ¬ (7 : Int32) = 3))]
    · rw [if_neg c3, if_neg c3, nx3' _ _ _ _ _ (show ¬ (sI 26 0 S).1 23 = 3 from c3)]
  intro fu
  induction fu with
  | zero =>
    intro q o S h
    show _ = nxF (S.2 6) o q (sI 25 (nI q) S)
    rw [← hE q o S h, g_m_next_L2]
    by_cases c2 : S.1 23 = 2
    · rw [if_pos c2]
    · rw [if_neg c2]
  | succ fu ih =>
    intro q o S h
    have hs : g_m_next_L2 tl fu (q + 1) o (sI 25 (nI (q + 1)) S) = nxF (S.2 6) o (lx2 (S.2 6) (S.1 23) fu (q + 1)) (sI 25 (nI (lx2 (S.2 6) (S.1 23) fu (q + 1))) S) := by
      rw [ih _ _ _ (sI_same _ _ _), sI_sI]
      rfl
    rw [g_m_next_L2, lx2]
    by_cases c2 : S.1 23 = 2
    · rw [if_pos c2, if_pos (Or.inl c2)]
      by_cases c : g_m_sortOf (S.2 6 q) = S.1 23
      · rw [if_pos c, if_pos c, hs]
      · rw [if_neg c, if_neg c]
        exact hE q o S h
    · rw [if_neg c2]
      by_cases c3 : S.1 23 = 3
      · rw [if_pos c3, if_pos (Or.inr c3)]
        by_cases c : g_m_sortOf (S.2 6 q) = S.1 23
        · rw [if_pos c, if_pos c, hs]
        · rw [if_neg c, if_neg c, ← hE q o S h, if_pos c3]
      · rw [if_neg c3, if_neg (fun z => z.elim c2 c3), ← hE q o S h, if_neg c3]
theorem nx1 (tl : Nat) : ∀ fu p S, p + fu = tl → S.1 24 = nI p → g_m_next_L1 tl fu p S = (if lx1 (S.2 6) fu p = tl then sI 23 0 (sI 25 (nI tl) (sI 24 (nI tl) S)) else nxF (S.2 6) (lx1 (S.2 6) fu p) (lxE (S.2 6) tl (lx1 (S.2 6) fu p)) (sI 25 (nI (lxE (S.2 6) tl (lx1 (S.2 6) fu p))) (sI 23 (g_m_sortOf (S.2 6 (lx1 (S.2 6) fu p))) (sI 24 (nI (lx1 (S.2 6) fu p)) S)))) := by
  intro fu
  induction fu with
  | zero =>
    intro p S hp h
    have e : p = tl := by omega
    subst e
    rw [g_m_next_L1, lx1, if_pos rfl, sI_self h]
  | succ fu ih =>
    intro p S hp h
    have hs : g_m_next_L1 tl fu (p + 1) (sI 24 (nI (p + 1)) S) = (if lx1 (S.2 6) fu (p + 1) = tl then sI 23 0 (sI 25 (nI tl) (sI 24 (nI tl) S)) else nxF (S.2 6) (lx1 (S.2 6) fu (p + 1)) (lxE (S.2 6) tl (lx1 (S.2 6) fu (p + 1))) (sI 25 (nI (lxE (S.2 6) tl (lx1 (S.2 6) fu (p + 1)))) (sI 23 (g_m_sortOf (S.2 6 (lx1 (S.2 6) fu (p + 1)))) (sI 24 (nI (lx1 (S.2 6) fu (p + 1))) S)))) := by
      rw [ih _ _ (by omega) (sI_same _ _ _), sI_sI, sI_sI]
      rfl
    rw [g_m_next_L1, lx1]
    by_cases c1 : S.2 6 p = 32
    · rw [if_pos c1, if_pos c1, hs]
    · rw [if_neg c1, if_neg c1]
      by_cases c2 : S.2 6 p = 10
      · rw [if_pos c2, if_pos c2, hs]
      · rw [if_neg c2, if_neg c2, if_neg (by omega), nx2 _ _ _ _ _ (sI_same _ _ _), sI_sI, sI_self h]
        have e1 : sI 23 (g_m_sortOf (S.2 6 p)) (sI 25 (nI p) S) = sI 25 (nI p) (sI 23 (g_m_sortOf (S.2 6 p)) S) := sI_comm (by decide) _ _ _
        rw [e1]
        simp only [sI_sI]
        rfl
theorem next_eq {tl : Nat} {S : ZS} (hT : mTk tl S) : g_m_next tl S = lxS tl S := by
  have h9 := hT.2.2.2
  rw [g_m_next, nx1 _ _ _ _ (by omega) (sI_same _ _ _), lxS]
  show (if lxO (S.2 6) tl (me S) = tl then _ else _) = _
  by_cases c : lxO (S.2 6) tl (me S) = tl
  · rw [if_pos c, if_pos c, sI_sI]
  · rw [if_neg c, if_neg c, sI_sI]
    show nxF (S.2 6) (lxO (S.2 6) tl (me S)) (lxE (S.2 6) tl (lxO (S.2 6) tl (me S))) (sI 25 (nI (lxE (S.2 6) tl (lxO (S.2 6) tl (me S)))) (sI 23 (g_m_sortOf (S.2 6 (lxO (S.2 6) tl (me S)))) (sI 24 (nI (lxO (S.2 6) tl (me S))) S))) = _
    generalize lxO (S.2 6) tl (me S) = o
    generalize lxE (S.2 6) tl o = e
    have e23 : (sI 25 (nI e) (sI 23 (g_m_sortOf (S.2 6 o)) (sI 24 (nI o) S))).1 23 = g_m_sortOf (S.2 6 o) := rfl
    rw [nxF, e23, lxV, lxK]
    have ec : sI 25 (nI e) (sI 23 (g_m_sortOf (S.2 6 o)) (sI 24 (nI o) S)) = sI 23 (g_m_sortOf (S.2 6 o)) (sI 25 (nI e) (sI 24 (nI o) S)) := sI_comm (by decide) _ _ _
    rw [ec]
    by_cases c3 : g_m_sortOf (S.2 6 o) = 3
    · simp only [if_pos c3]
      by_cases c4 : e - o ≤ 4
      · simp only [if_pos c4, if_pos, c3]
      · simp only [if_neg c4, sI_sI]
        rw [if_neg (by decide : ¬ (7 : Int32) = 3)]
    · simp only [if_neg c3]
theorem mLx.tk {tl : Nat} {S : ZS} (h : mLx tl S) : mTk tl S := h.1
theorem me_nI {S : ZS} {e : Nat} (h : S.1 25 = nI e) (he : e ≤ 600) : me S = e := by rw [me, h, nI_clamp (by omega)]
theorem mo_nI {S : ZS} {e : Nat} (h : S.1 24 = nI e) (he : e ≤ 600) : mo S = e := by rw [mo, h, nI_clamp (by omega)]
theorem lx_next {tl : Nat} {S : ZS} (hT : mTk tl S) : mLx tl (g_m_next tl S) := by
  rw [next_eq hT, lxS]
  have h1 := lxO_le (S.2 6) hT.2.2.2
  have h6 := hT.2.1
  split
  next c =>
    have e25 : (sI 23 0 (sI 25 (nI tl) (sI 24 (nI tl) S))).1 25 = nI tl := rfl
    have e24 : (sI 23 0 (sI 25 (nI tl) (sI 24 (nI tl) S))).1 24 = nI tl := rfl
    have e1 := me_nI e25 h6
    have e2 := mo_nI e24 h6
    exact ⟨⟨hT.1, h6, by rw [e1]; exact e25, by omega⟩, by rw [e2]; exact e24, by omega⟩
  next c =>
    have h2 := lxE_le (S.2 6) (o := lxO (S.2 6) tl (me S)) (by omega : _ < tl)
    generalize lxV (S.2 6) (lxO (S.2 6) tl (me S)) (lxE (S.2 6) tl (lxO (S.2 6) tl (me S))) = v
    generalize lxK (S.2 6) (lxO (S.2 6) tl (me S)) (lxE (S.2 6) tl (lxO (S.2 6) tl (me S))) = kd
    generalize lxE (S.2 6) tl (lxO (S.2 6) tl (me S)) = e at *
    generalize lxO (S.2 6) tl (me S) = o at *
    have e25 : (sI 26 v (sI 23 kd (sI 25 (nI e) (sI 24 (nI o) S)))).1 25 = nI e := rfl
    have e24 : (sI 26 v (sI 23 kd (sI 25 (nI e) (sI 24 (nI o) S)))).1 24 = nI o := rfl
    have e1 := me_nI e25 (by omega)
    have e2 := mo_nI e24 (by omega)
    exact ⟨⟨hT.1, h6, by rw [e1]; exact e25, by omega⟩, by rw [e2]; exact e24, by omega⟩
/-- what parsing leaves: all but the error, the token and the numbers -/
def kp (S R : ZS) : Prop := (∀ k, ¬ k = 11 → ¬ k = 12 → ¬ k = 23 → ¬ k = 24 → ¬ k = 25 → ¬ k = 26 → R.1 k = S.1 k) ∧ (∀ j, ¬ j = 12 → R.2 j = S.2 j)
theorem kp.rfl' (S : ZS) : kp S S := ⟨fun _ _ _ _ _ _ _ => rfl, fun _ _ => rfl⟩
theorem kp.trans {S R Q : ZS} (h : kp S R) (g : kp R Q) : kp S Q := ⟨fun k a b c d e f => (g.1 k a b c d e f).trans (h.1 k a b c d e f), fun j a => (g.2 j a).trans (h.2 j a)⟩
theorem next_2 {tl : Nat} {S : ZS} (hT : mTk tl S) : (g_m_next tl S).2 = S.2 := by
  rw [next_eq hT, lxS]
  split <;> rfl
theorem kp_next {tl : Nat} {S : ZS} (hT : mTk tl S) : kp S (g_m_next tl S) := by
  refine ⟨fun k a b c d e f => ?_, fun j _ => by rw [next_2 hT]⟩
  rw [next_eq hT, lxS]
  split
  · rw [sI_o c, sI_o e, sI_o d]
  · rw [sI_o f, sI_o c, sI_o e, sI_o d]
theorem next_err {tl : Nat} {S : ZS} (hT : mTk tl S) : (g_m_next tl S).1 11 = S.1 11 ∧ (g_m_next tl S).1 12 = S.1 12 := by
  rw [next_eq hT, lxS]
  split <;> exact ⟨rfl, rfl⟩
theorem fail_1 (x : Int32) (S : ZS) : (g_m_fail x S).1 = false := by
  rw [g_m_fail]
  split <;> rfl
theorem kp_fail (x : Int32) (S : ZS) : kp S (g_m_fail x S).2 := by
  rw [g_m_fail]
  split
  · exact ⟨fun k a b c d e f => by show (sI 12 _ (sI 11 _ _)).1 k = _; rw [sI_o b, sI_o a], fun _ _ => rfl⟩
  · exact kp.rfl' S
theorem mLx_fI {tl k : Nat} {v : Int32} {S : ZS} (h : mLx tl S) (h1 : ¬ k = 10) (h2 : ¬ k = 24) (h3 : ¬ k = 25) : mLx tl (sI k v S) := by
  have e1 : (sI k v S).1 10 = S.1 10 := sI_o (fun z => h1 z.symm)
  have e2 : (sI k v S).1 24 = S.1 24 := sI_o (fun z => h2 z.symm)
  have e3 : (sI k v S).1 25 = S.1 25 := sI_o (fun z => h3 z.symm)
  have e4 : me (sI k v S) = me S := by rw [me, e3, me]
  have e5 : mo (sI k v S) = mo S := by rw [mo, e2, mo]
  exact ⟨⟨e1.trans h.1.1, h.1.2.1, by rw [e3, e4]; exact h.1.2.2.1, by rw [e4]; exact h.1.2.2.2⟩, by rw [e2, e5]; exact h.2.1, by rw [e4, e5]; exact h.2.2⟩
theorem mLx.sI {tl k : Nat} {v : Int32} {S : ZS} (h : mLx tl S) (h1 : ¬ k = 10) (h2 : ¬ k = 24) (h3 : ¬ k = 25) : mLx tl (sI k v S) := mLx_fI h h1 h2 h3
theorem mLx.sA {tl j i : Nat} {v : Int32} {S : ZS} (h : mLx tl S) : mLx tl (sA j i v S) := h
theorem lx_fail {tl : Nat} {x : Int32} {S : ZS} (h : mLx tl S) : mLx tl (g_m_fail x S).2 := by
  rw [g_m_fail]
  split
  · exact (h.sI (by decide) (by decide) (by decide)).sI (by decide) (by decide) (by decide)
  · exact h
