variable {sc : SC}
theorem gch_par {n k i : Nat} (h40 : n ≤ 40) (h : 2 ≤ k) (h2 : k < 128) (ha : (gp n k).1 ≤ i) (hb : i < (gp n k).2) : gch n (k / 2) i = k := by
  have c := (gp_par h40 h h2 (by omega)).1
  obtain ⟨m, g1, g2, g3, g4, g5⟩ := gpc h40 (by omega : 1 ≤ k / 2) (by omega) c
  unfold gch
  rw [g3]
  rcases (by omega : k = 2 * (k / 2) ∨ k = 2 * (k / 2) + 1) with q | q
  · rw [← q] at g3
    rw [g3] at hb
    rw [if_pos hb]
    exact q.symm
  · rw [← q] at g4
    rw [g4] at ha
    have hn : ¬ i < m := by
      have : m ≤ i := ha
      omega
    rw [if_neg hn]
    exact q.symm
theorem el_up {n k i : Nat} (w : Nat → Int32) (h40 : n ≤ 40) (h : 2 ≤ k) (h2 : k < 128) (ha : (gp n k).1 ≤ i) (hb : i < (gp n k).2) : el n w (k / 2) i = w (44 + k / 2) * el n w k i + w (172 + k / 2) := by
  rw [el_in w i h40 (by omega : 1 ≤ k / 2) (by omega) (gp_par h40 h h2 (by omega)).1, gch_par h40 h h2 ha hb]
theorem tUp_el {n i : Nat} {T : TS} {w : Nat → Int32} (h40 : n ≤ 40) (hm : ∀ k, 1 ≤ k → k < 128 → (gp n k).1 < (gp n k).2 → tfa T k = w (44 + k) ∧ tog T k = w (172 + k)) : ∀ (fu k : Nat), 1 ≤ k → k < 128 → k / 2 < 2 ^ fu → (gp n k).1 ≤ i → i < (gp n k).2 → tUp T fu (k / 2) (el n w k i) = el n w 1 i := by
  intro fu
  induction fu with
  | zero =>
    intro k h1 h2 h3 ha hb
    have : k = 1 := by rw [Nat.pow_zero] at h3; omega
    subst this
    rfl
  | succ fu ih =>
    intro k h1 h2 h3 ha hb
    rw [tUp]
    by_cases c : k / 2 = 0
    · have : k = 1 := by omega
      subst this
      rw [if_pos c]
    · have hk2 : 2 ≤ k := by omega
      have gpp := gp_par h40 hk2 h2 (by omega)
      obtain ⟨e1, e2⟩ := hm (k / 2) (by omega) (by omega) (by omega)
      rw [if_neg c, e1, e2, ← el_up w h40 hk2 h2 ha hb]
      exact ih (k / 2) (by omega) (by omega) (by rw [Nat.pow_succ] at h3; omega) (by omega) (by omega)
def Rel (n : Nat) (T : TS) (w : Nat → Int32) : Prop :=
  ((1 ≤ n ∧ n ≤ 40) ∧ tn T = nI n ∧ w 0 = nI n) ∧ (tu T = w 1 ∧ tp T = w 2 ∧ ta T = w 3) ∧ Lay n (tF T) (tL T) ∧
  (∀ k, 1 ≤ k → k < 128 → (gp n k).1 < (gp n k).2 → Rn n (nd T) w k) ∧
  (∀ k, 1 ≤ k → k < 128 → ¬ (gp n k).1 < (gp n k).2 → tfa T k = 1 ∧ tog T k = 0) ∧ (∀ i, i < n → tva T i = el n w 1 i)
theorem elF_cong {n : Nat} {w w' : Nat → Int32} (h40 : n ≤ 40) (h : ∀ k, 4 ≤ k → k < 300 → w' k = w k) {k i : Nat} (h1 : 1 ≤ k) (h2 : k < 128) (hi : i < 40) : el n w' k i = el n w k i :=
  el_loc h40 i 7 k h1 h2 (fun x _ hx => ⟨h _ (by omega) (by omega), h _ (by omega) (by omega)⟩) (h _ (by omega) (by omega))
theorem Rn.congw {n k : Nat} {v : Nat → NR} {w w' : Nat → Int32} (hR : Rn n v w k) (h40 : n ≤ 40) (h : ∀ k, 4 ≤ k → k < 300 → w' k = w k) (h1 : 1 ≤ k) (h2 : k < 128) : Rn n v w' k :=
  hR.cong (fun i _ q => elF_cong h40 h h1 h2 (by have := gp_40 n k h40; omega)) rfl (h _ (by omega) (by omega)) (h _ (by omega) (by omega))
theorem Rel.cong {n : Nat} {T : TS} {w w' : Nat → Int32} (h : Rel n T w) (e : ∀ k, k < 300 → w' k = w k) : Rel n T w' := by
  obtain ⟨⟨a1, a2, a3⟩, ⟨b1, b2, b3⟩, c, d, f, g⟩ := h
  have e4 : ∀ k, 4 ≤ k → k < 300 → w' k = w k := fun k _ h => e k h
  exact ⟨⟨a1, a2, (e 0 (by decide)).trans a3⟩, ⟨b1.trans (e 1 (by decide)).symm, b2.trans (e 2 (by decide)).symm, b3.trans (e 3 (by decide)).symm⟩, c, fun k h1 h2 hx => (d k h1 h2 hx).congw a1.2 e4 h1 h2, f, fun i hi => (g i hi).trans (elF_cong a1.2 e4 (Nat.le_refl 1) (by decide) (by omega)).symm⟩
theorem Rel.congT {n : Nat} {T U : TS} {w : Nat → Int32} (h : Rel n T w) (e1 : tn U = tn T) (e2 : tu U = tu T ∧ tp U = tp T ∧ ta U = ta T) (e3 : ∀ k, k < 128 → tF U k = tF T k ∧ tL U k = tL T k ∧ nd U k = nd T k) (e4 : ∀ i, i < 40 → tva U i = tva T i) : Rel n U w := by
  obtain ⟨⟨a1, a2, a3⟩, ⟨b1, b2, b3⟩, c, d, f, g⟩ := h
  refine ⟨⟨a1, e1.trans a2, a3⟩, ⟨e2.1.trans b1, e2.2.1.trans b2, e2.2.2.trans b3⟩, fun k h1 h2 => ?_, fun k h1 h2 hx => ?_, fun k h1 h2 hx => ?_, fun i hi => (e4 i (by omega)).trans (g i hi)⟩
  · rw [(e3 k h2).1, (e3 k h2).2.1]; exact c k h1 h2
  · exact (d k h1 h2 hx).cong (fun _ _ _ => rfl) (e3 k h2).2.2 rfl rfl
  · have e9 := (e3 k h2).2.2
    have q1 : tfa U k = tfa T k := congrArg (fun r : NR => r.2.2.2.1) e9
    have q2 : tog U k = tog T k := congrArg (fun r : NR => r.2.2.2.2) e9
    rw [q1, q2]; exact f k h1 h2 hx
theorem cpy_at {α : Type} (f g : Nat → α) {m k : Nat} (h : k < m) (hm : m < 2 ^ 31) : va_cpy f g (0 : Int32).toNatClampNeg (0 : Int32).toNatClampNeg (nI m).toNatClampNeg k = f k := by
  have e0 : (0 : Int32).toNatClampNeg = 0 := by decide
  rw [e0, nI_clamp hm]
  show (if 0 ≤ k ∧ k < 0 + m then f (0 + (k - 0)) else g k) = f k
  rw [if_pos ⟨Nat.zero_le _, by omega⟩, Nat.sub_zero, Nat.zero_add]
theorem Rel.copy {n : Nat} {T U : TS} {w : Nat → Int32} (h : Rel n T w) : Rel n (tCopy T U) w := by
  have c : ∀ {α : Type} (f g : Nat → α) (k : Nat), k < 128 → va_cpy f g (0 : Int32).toNatClampNeg (0 : Int32).toNatClampNeg (128 : Int32).toNatClampNeg k = f k := fun f g k hk => cpy_at f g (m := 128) hk (by decide)
  refine h.congT rfl ⟨rfl, rfl, rfl⟩ (fun k hk => ⟨c _ _ k hk, c _ _ k hk, ?_⟩) (fun i hi => cpy_at _ _ (m := 40) hi (by decide))
  show (_, _, _, _, _) = (tS T k, tlo T k, thi T k, tfa T k, tog T k)
  refine Prod.ext (c _ _ k hk) (Prod.ext (c _ _ k hk) (Prod.ext (c _ _ k hk) (Prod.ext (c _ _ k hk) (c _ _ k hk))))
def rdI (n : Nat) (T : TS) (m : Nat) (U : TS) : Prop := (tn U = tn T ∧ tu U = tu T ∧ tp U = tp T ∧ ta U = ta T ∧ tF U = tF T ∧ tL U = tL T ∧ nd U = nd T) ∧ ∀ i, i < n → lf n i < m → tva U i = tUp T 7 (lf n i / 2) (tlo T (lf n i))
theorem tUp_cong {T U : TS} (h1 : tfa U = tfa T) (h2 : tog U = tog T) : ∀ (n a : Nat) (v : Int32), tUp U n a v = tUp T n a v := by
  intro n
  induction n with
  | zero => intro a v; rfl
  | succ n ih => intro a v; rw [tUp, tUp, h1, h2, ih]
theorem tReads_I {n : Nat} {T : TS} (h40 : n ≤ 40) (hL : Lay n (tF T) (tL T)) : ∀ (c k : Nat) (U : TS), 1 ≤ k → k + c = 128 → rdI n T k U → rdI n T 128 (zup tRead c k U) := by
  intro c
  induction c with
  | zero => intro k U _ h1 h; have : k = 128 := by omega
            rw [← this]; exact h
  | succ c ih =>
    intro k U h0 h1 h
    refine ih (k + 1) (tRead k U) (by omega) (by omega) ?_
    obtain ⟨⟨a1, a2, a3, a4, a5, a6, a7⟩, b⟩ := h
    have f1 : tfa U = tfa T := funext fun x => congrArg (fun g : Nat → NR => (g x).2.2.2.1) a7
    have f2 : tog U = tog T := funext fun x => congrArg (fun g : Nat → NR => (g x).2.2.2.2) a7
    have f3' : tlo U = tlo T := funext fun x => congrArg (fun g : Nat → NR => (g x).2.1) a7
    have hk : k < 128 := by omega
    have h9 := gp_40 n k h40
    by_cases q : (gp n k).2 = (gp n k).1 + 1
    · obtain ⟨l1, l2⟩ := (hL k h0 hk).1 (by omega)
      have e9 : (gp n k).2 - 1 = (gp n k).1 := by omega
      rw [e9] at l2
      have z1 : (0 : Int32) ≤ nI (gp n k).1 := (nI_leI (a := 0) (by decide) (by omega)).mpr (Nat.zero_le _)
      have z2 : nI (gp n k).1 < (40 : Int32) := (nI_ltI (b := 40) (by omega) (by decide)).mpr (by have := gp_n n k; omega)
      have e : tRead k U = (tn U, tu U, tp U, ta U, tF U, tL U, tS U, tlo U, thi U, tfa U, tog U, upd (tva U) (tF U k).toNatClampNeg (tUp U 7 (k / 2) (tlo U k))) := if_pos (by rw [a5, a6, l1, l2]; exact ⟨⟨z1, z2⟩, rfl⟩)
      rw [e]
      refine ⟨⟨a1, a2, a3, a4, a5, a6, a7⟩, fun i hi hl => ?_⟩
      show upd (tva U) (tF U k).toNatClampNeg (tUp U 7 (k / 2) (tlo U k)) i = _
      rw [a5, l1, nI_clamp (by omega), upd_at, tUp_cong f1 f2, f3']
      by_cases r : i = (gp n k).1
      · rw [if_pos r, r, lf_un h40 hk q]
      · rw [if_neg r]
        refine b i hi ?_
        rcases Nat.lt_or_ge (lf n i) k with s | s
        · exact s
        · have e2 : lf n i = k := by omega
          have e3 := (lf_gp h40 hi).1
          rw [e2] at e3
          rw [e3] at r
          exact absurd rfl r
    · have e : tRead k U = U := by
        refine if_neg (fun z => ?_)
        rw [a5, a6] at z
        by_cases x : (gp n k).1 < (gp n k).2
        · obtain ⟨l1, l2⟩ := (hL k h0 hk).1 x
          rw [l1, l2, nI_eq (by omega) (by omega)] at z
          omega
        · obtain ⟨l1, l2⟩ := (hL k h0 hk).2 x
          rw [l1] at z
          exact absurd z.1.1 (by decide)
      rw [e]
      refine ⟨⟨a1, a2, a3, a4, a5, a6, a7⟩, fun i hi hl => b i hi ?_⟩
      rcases Nat.lt_or_ge (lf n i) k with s | s
      · exact s
      · have e2 : lf n i = k := by omega
        have e3 := (lf_gp h40 hi).1
        rw [e2] at e3
        rw [e3] at q
        exact absurd rfl q
theorem inS_1 {x : Nat} (h : 1 ≤ x) : inS 1 x := by
  have : ∀ x, 1 ≤ x → ∃ e, x / 2 ^ e = 1 := by
    intro x
    induction x using Nat.strongRecOn with
    | _ x ih =>
      intro h
      by_cases c : x = 1
      · exact ⟨0, by rw [Nat.pow_zero, Nat.div_one]; exact c⟩
      · obtain ⟨e, he⟩ := ih (x / 2) (by omega) (by omega)
        exact ⟨1 + e, by rw [div_p]; exact he⟩
  exact this x h
theorem Rel_update {n f t : Nat} {A B : Int32} {T : TS} {S : ZS} (h : Rel n T (S.2 0)) (ht : t < n) (hft : f ≤ t) (hA : f3 A) (hP : ∀ i, f ≤ i → i ≤ t → bd (A * el n (S.2 0) 1 i + B)) :
    Rel n (tUpdate T (nI f) (nI t) A B).1 ((g_m_updates n f t A B S).2.2 0) ∧ nI (tUpdate T (nI f) (nI t) A B).2 = (g_m_updates n f t A B S).1 ∧ (g_m_updates n f t A B S).1 = nI (mc (g_m_updates n f t A B S).2) := by
  obtain ⟨⟨⟨n1, h40⟩, a2, a3⟩, ⟨b1, b2, b3⟩, hL, hR, hX, hV⟩ := h
  have hgr := mEq_grows (n := n) S n1 h40
  obtain ⟨S0, hS0⟩ : ∃ S0, S0 = sI 22 (0) (sI 21 (0) (g_m_grows n S)) := ⟨_, rfl⟩
  have e0 : S0.2 0 = S.2 0 := by rw [hS0]; exact hgr.2 0 (by decide) (by decide) (by decide)
  have m21 : S0.1 21 = 0 := by rw [hS0]; rfl
  have m0 : mc S0 = 0 := by
    unfold mc
    rw [m21]
    decide
  obtain ⟨T1, c, u1, u2, u3⟩ := sv_update T (nI f) (nI t) A B
  have hg := gp_1 n
  have key : Gs n 1 S0 (sv T 0) (g_m_goes 7 n 1 f t A B S0) (zdfs (lst (st1 (tF T) (tL T) (nI f) (nI t))) (lst (st2 (tF T) (tL T) (nI f) (nI t) A B)) 7 1 (sv T 0)) := by
    refine goes_sim hL h40 ht hft hA 7 1 S0 (sv T 0) (by decide) (by decide) (by decide) (by decide) (by rw [hg]; exact n1) (by rw [hg]; exact Nat.zero_le _) (by rw [hg]; simp only; omega) (fun z => absurd z.1 (by decide)) ⟨by rw [m0, m21]; rfl, by rw [m0]; exact Nat.zero_le _⟩ (fun x hx h2 hgx => by rw [e0]; exact hR x hx.le h2 hgx) (fun i hi => by rw [e0]; exact hP i hi.2.1 hi.2.2) (by rw [e0]; exact b2) m0.symm
  obtain ⟨S1, hS1⟩ : ∃ S1, S1 = g_m_goes 7 n 1 f t A B S0 := ⟨_, rfl⟩
  have met : mMet S1 n := by
    have := goes_met (F := A) (O := B) h40 hft ht 7 1 S0 (by decide) (by decide) (by rw [hg]; exact n1) (by decide) (by rw [hg]; exact Nat.zero_le _) (by rw [hg]; simp only; omega) ⟨by rw [m0, m21]; rfl, by rw [m0]; exact Nat.zero_le _⟩
    rw [← hS1, hg] at this
    exact this
  rw [← hS1, ← u3] at key
  obtain ⟨k1, k2, k3, ⟨k4, k5, k6⟩, k7, k8⟩ := key
  have eu : g_m_updates n f t A B S = (S1.1 21, sA 0 3 (S1.2 0 3 + S1.1 21) (sA 0 1 (S1.2 0 1 + 1) S1)) := by rw [hS1, hS0]; rfl
  rw [eu, u1]
  have ec : c = mc S1 := k8
  have e21 : S1.1 21 = nI c := by rw [ec]; exact met.1
  have ew : (sA 0 3 (S1.2 0 3 + S1.1 21) (sA 0 1 (S1.2 0 1 + 1) S1)).2 0 = upd (upd (S1.2 0) 1 (S1.2 0 1 + 1)) 3 (S1.2 0 3 + S1.1 21) := rfl
  refine ⟨?_, e21.symm, by show S1.1 21 = nI (mc S1); exact met.1⟩
  have hz : tReads (tCnt T1 c) = zup tRead 127 1 (tCnt T1 c) := rfl
  dsimp only
  rw [ew, hz]
  obtain ⟨t1, t2, t3, t4, t5, t6⟩ := u2
  have hL1 : Lay n (tF (tCnt T1 c)) (tL (tCnt T1 c)) := by
    show Lay n (tF T1) (tL T1)
    rw [t4, t5]; exact hL
  obtain ⟨⟨r1, r2, r3, r4, r5, r6, r7⟩, r8⟩ := tReads_I h40 hL1 127 1 (tCnt T1 c) (by decide) (by decide) ⟨⟨rfl, rfl, rfl, rfl, rfl, rfl, rfl⟩, fun i hi hl => by have := (lf_gp h40 hi).2.1; omega⟩
  generalize zup tRead 127 1 (tCnt T1 c) = Zq at r1 r2 r3 r4 r5 r6 r7 r8 ⊢
  have w4 : ∀ k, 4 ≤ k → k < 300 → upd (upd (S1.2 0) 1 (S1.2 0 1 + 1)) 3 (S1.2 0 3 + S1.1 21) k = S1.2 0 k := fun k hk _ => by
    rw [upd_at, upd_at, if_neg (by omega), if_neg (by omega)]
  have hR1 : ∀ k, 1 ≤ k → k < 128 → (gp n k).1 < (gp n k).2 → Rn n (nd T1) (S1.2 0) k := fun k q1 q2 q3 => k1 k (inS_1 q1) q2 q3
  refine ⟨⟨⟨n1, h40⟩, r1.trans (t1.trans a2), ?_⟩, ⟨?_, ?_, ?_⟩, ?_, fun k q1 q2 q3 => ?_, fun k q1 q2 q3 => ?_, fun i hi => ?_⟩
  · rw [upd_at, upd_at, if_neg (by decide), if_neg (by decide), k4, e0]; exact a3
  · rw [r2, upd_at, upd_at, if_neg (by decide), if_pos rfl, k5, e0]
    show tu T1 + 1 = _
    rw [t2, b1]
  · rw [r3, upd_at, upd_at, if_neg (by decide), if_neg (by decide)]
    exact k7
  · rw [r4, upd_at, if_pos rfl, k6, e0, e21]
    show ta T1 + nI c = _
    rw [t3, b3]
  · rw [r5, r6]; exact hL1
  · exact ((hR1 k q1 q2 q3).congw h40 w4 q1 q2).cong (fun _ _ _ => rfl) (by rw [r7]; rfl) rfl rfl
  · have e9 : nd Zq k = nd T k := by
      rw [r7]
      exact (k2 k (fun z => q3 z.2) q2).1
    have p1 : tfa Zq k = tfa T k := congrArg (fun r : NR => r.2.2.2.1) e9
    have p2 : tog Zq k = tog T k := congrArg (fun r : NR => r.2.2.2.2) e9
    exact ⟨p1.trans (hX k q1 q2 q3).1, p2.trans (hX k q1 q2 q3).2⟩
  · have hl := lf_gp h40 hi
    have gl : (gp n (lf n i)).1 ≤ i ∧ i < (gp n (lf n i)).2 := by rw [hl.1]; exact ⟨Nat.le_refl _, Nat.lt_succ_self _⟩
    have Rl := hR1 (lf n i) hl.2.1 hl.2.2 (by omega)
    obtain ⟨j, j1, j2, j3⟩ := Rl.2.2.2.1.1
    have ej : j = i := by
      rw [hl.1] at j1 j2
      simp only at j1 j2
      omega
    subst ej
    have e5 : tlo (tCnt T1 c) (lf n j) = el n (S1.2 0) (lf n j) j := j3
    rw [r8 j hi (by omega), e5, elF_cong h40 w4 (Nat.le_refl 1) (by decide) (by omega)]
    exact tUp_el (T := tCnt T1 c) (w := S1.2 0) h40 (fun k q1 q2 q3 => (hR1 k q1 q2 q3).1) 7 (lf n j) hl.2.1 hl.2.2 (by omega) gl.1 gl.2
