variable {sc : SC}
theorem Sc.uniq {n k : Nat} {w : Nat → Int32} {r r' : NR} (h : Sc n w k r) (g : Sc n w k r') : r.1 = r'.1 ∧ r.2.1 = r'.2.1 ∧ r.2.2.1 = r'.2.2.1 := by
  obtain ⟨⟨i1, a1, a2, a3⟩, b, ⟨i2, c1, c2, c3⟩, d, s⟩ := h
  obtain ⟨⟨j1, e1, e2, e3⟩, f, ⟨j2, g1, g2, g3⟩, l, s'⟩ := g
  refine ⟨s.trans s'.symm, ?_, ?_⟩
  · apply Int32.toInt_inj.mp
    have x1 := b j1 e1 e2
    have x2 := f i1 a1 a2
    rw [← e3] at x1
    rw [← a3] at x2
    omega
  · apply Int32.toInt_inj.mp
    have x1 := d j2 g1 g2
    have x2 := l i2 c1 c2
    rw [← g3] at x1
    rw [← c3] at x2
    omega
section QN
variable {n k : Nat} {T : TS} {S X R M : ZS}
theorem nb (h : Rel n T (M.2 0)) (h1 : 1 ≤ k) (h2 : k < 128) : g_t_isBroken k T = false := by
  have h40 := h.1.1.2
  have hL := h.2.2.1
  have m9 : ∀ x, 1 ≤ x → x < 128 → ¬ (gp n x).1 + 2 ≤ (gp n x).2 → tfa T x = 1 ∧ tog T x = 0 := fun x q1 q2 q3 => by
    by_cases c : (gp n x).1 < (gp n x).2
    · have hR := h.2.2.2.1 x q1 q2 c
      obtain ⟨z1, z2⟩ := hR.2.2.2.2 q3
      exact ⟨hR.1.1.trans z1, hR.1.2.trans z2⟩
    · exact h.2.2.2.2.1 x q1 q2 c
  by_cases c : (gp n k).1 + 2 ≤ (gp n k).2
  · obtain ⟨m, g1, g2, g3, g4, g5⟩ := gpc h40 h1 h2 c
    have x1 : (gp n (2 * k)).1 < (gp n (2 * k)).2 := by rw [g3]; exact g1
    have x2 : (gp n (2 * k + 1)).1 < (gp n (2 * k + 1)).2 := by rw [g4]; exact g2
    have Rk := h.2.2.2.1 k h1 h2 (by omega)
    have Rl := h.2.2.2.1 (2 * k) (by omega) (by omega) x1
    have Rr := h.2.2.2.1 (2 * k + 1) (by omega) (by omega) x2
    have hin : tIn T k := ⟨g5, (lay_in hL h40 h1 h2).mpr c⟩
    -- the row with the node's mark away
    obtain ⟨w0, hw0⟩ : ∃ w0, w0 = upd (upd (M.2 0) (44 + k) 1) (172 + k) 0 := ⟨_, rfl⟩
    have k0 : w0 (44 + k) = 1 ∧ w0 (172 + k) = 0 := by
      rw [hw0, upd_at, upd_at, upd_at, if_neg (by omega), if_pos rfl, if_pos rfl]
      exact ⟨rfl, rfl⟩
    have o0 : ∀ y, ¬ y = 44 + k → ¬ y = 172 + k → w0 y = M.2 0 y := fun y q1 q2 => by rw [hw0, upd_at, upd_at, if_neg q2, if_neg q1]
    have ch : ∀ x i, (x = 2 * k ∨ x = 2 * k + 1) → i < 40 → el n w0 x i = el n (M.2 0) x i := fun x i hx hi => by
      refine el_loc h40 i 7 x (by omega) (by omega) (fun y hy hy2 => ?_) (o0 _ (by omega) (by omega))
      have := hy.le
      exact ⟨o0 _ (by omega) (by omega), o0 _ (by omega) (by omega)⟩
    have h9 := gp_40 n k h40
    have ek0 : ∀ i, el n w0 k i = el n w0 (gch n k i) i := fun i => by
      rw [el_in _ i h40 h1 h2 c, k0.1, k0.2, Int32.one_mul, Int32.add_zero]
    have Sl : Sc n w0 (2 * k) (nd T (2 * k)) := Rl.2.2.2.1.cong (fun i _ q => ch _ i (Or.inl rfl) (by rw [g3] at q; simp only at q; omega))
    have Sr : Sc n w0 (2 * k + 1) (nd T (2 * k + 1)) := Rr.2.2.2.1.cong (fun i _ q => ch _ i (Or.inr rfl) (by rw [g4] at q; simp only at q; omega))
    have J : Sc n w0 k (jnN (nd T k) (nd T (2 * k)) (nd T (2 * k + 1))) := Sc_join g1 g2 g3 g4 Sl Sr (fun i p q => by
        rw [ek0, show gch n k i = 2 * k from if_pos (by rw [g3]; exact q)]) (fun i p q => by
        rw [ek0, show gch n k i = 2 * k + 1 from if_neg (by rw [g3]; simp only; omega)])
    have eM : ∀ i, (gp n k).1 ≤ i → i < (gp n k).2 → el n (M.2 0) k i = M.2 0 (44 + k) * el n w0 k i + M.2 0 (172 + k) := fun i p q => by
      rw [el_in _ i h40 h1 h2 c, ek0, ch _ i (gch_or n k i) (by omega)]
    have hb : ∀ i, (gp n k).1 ≤ i → i < (gp n k).2 → bd (el n w0 k i) := fun i p q => by
      have hg := gch_in h40 h1 h2 c p q
      rw [ek0, ch _ i (gch_or n k i) (by omega)]
      rcases gch_or n k i with z | z
      · rw [z] at hg ⊢; exact Rl.2.2.1 i hg.1 hg.2
      · rw [z] at hg ⊢; exact Rr.2.2.1 i hg.1 hg.2
    have hG : sml (M.2 0 (172 + k)) := g_bd Rk.2.1 (hb _ (Nat.le_refl _) (by omega)) (by rw [← eM _ (Nat.le_refl _) (by omega)]; exact Rk.2.2.1 _ (Nat.le_refl _) (by omega))
    have Q := J.mark (W := wdF (tF T) (tL T) k) (F := M.2 0 (44 + k)) (G := M.2 0 (172 + k)) (w' := M.2 0) h40 (by omega) Rk.2.1 (lay_wd hL h40 h1 h2 (by omega)) hb hG eM
    obtain ⟨u1, u2, u3⟩ := Rk.2.2.2.1.uniq Q
    have m1 : tfa T k = M.2 0 (44 + k) := Rk.1.1
    have m2 : tog T k = M.2 0 (172 + k) := Rk.1.2
    have v1 : tS T k = (tfa T k).toInt64 * (tS T (2 * k) + tS T (2 * k + 1)) + (tog T k).toInt64 * ((((tL T k) - (tF T k)) + 1).toInt64) := by rw [m1, m2]; exact u1
    have v2 : tlo T k = (tfa T k) * (if 0 ≤ tfa T k then zmin (tlo T (2 * k)) (tlo T (2 * k + 1)) else zmax (thi T (2 * k)) (thi T (2 * k + 1))) + (tog T k) := by rw [m1, m2]; exact u2
    have v3 : thi T k = (tfa T k) * (if 0 ≤ tfa T k then zmax (thi T (2 * k)) (thi T (2 * k + 1)) else zmin (tlo T (2 * k)) (tlo T (2 * k + 1))) + (tog T k) := by rw [m1, m2]; exact u3
    rw [g_t_isBroken, decide_eq_true hin, if_pos rfl, if_pos v1]
    by_cases s : 0 ≤ tfa T k
    · rw [if_pos s] at v2 v3
      rw [if_pos s, if_pos v2, if_pos v3]
    · rw [if_neg s] at v2 v3
      rw [if_neg s, if_pos v2, if_pos v3]
  · have hin : ¬ tIn T k := fun z => c ((lay_in hL h40 h1 h2).mp z.2)
    obtain ⟨z1, z2⟩ := m9 k h1 h2 c
    rw [g_t_isBroken, decide_eq_false hin, if_neg (by decide)]
    exact decide_eq_false (fun z => z.elim (fun z => z z1) (fun z => z z2))
theorem tEl_of {x : Int32} (h : bd x) : tEl x := by
  obtain ⟨h1, h2⟩ := h
  have n3 : (-1000000 : Int32).toInt = -1000000 := by decide
  have n4 : (1000000 : Int32).toInt = 1000000 := by decide
  exact ⟨by rw [Int32.le_iff_toInt_le, n3]; exact h1, by rw [Int32.le_iff_toInt_le, n4]; exact h2⟩
theorem q_vio2 (h : Rel n T (M.2 0)) : ∀ (fu i : Nat), i + fu ≤ n → g_c_6_violations_L2 n fu 0 i S X R T = 0 := by
  intro fu
  induction fu with
  | zero => intro i _; rfl
  | succ fu ih =>
    intro i hi
    have e : g_isElement (tva T i) = true := decide_eq_true (tEl_of (el_bd h (by omega)))
    rw [g_c_6_violations_L2, if_pos e]
    exact ih _ (by omega)
theorem q_vio1 (h : Rel n T (M.2 0)) : ∀ (fu k : Nat), 1 ≤ k → k + fu = 128 → g_c_6_violations_L1 n fu 0 k S X R T = 0 := by
  intro fu
  induction fu with
  | zero => intro k _ _; exact q_vio2 h n 0 (by omega)
  | succ fu ih =>
    intro k h1 h2
    rw [g_c_6_violations_L1, nb h h1 (by omega), if_neg (by decide)]
    exact ih _ (by omega) (by omega)
end QN
