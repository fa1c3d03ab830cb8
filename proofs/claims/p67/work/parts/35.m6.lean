variable {sc : SC}
def mc (S : ZS) : Nat := (S.1 21).toNatClampNeg
def mMet (S : ZS) (b : Nat) : Prop := S.1 21 = nI (mc S) ∧ mc S ≤ b
theorem mMet.of {S : ZS} {b c : Nat} (h : S.1 21 = nI c) (hc : c ≤ b) (hb : b ≤ 40) : mMet S b := by
  have e : mc S = c := by rw [mc, h, nI_clamp (by omega)]
  exact ⟨by rw [e]; exact h, by rw [e]; exact hc⟩
theorem ap_1 (n k : Nat) (f o : Int32) (S : ZS) : (g_m_applies n k f o S).1 = S.1 := by
  rw [g_m_applies]
  split <;> rfl
theorem push_1 (n k : Nat) (S : ZS) : (g_m_pushes n k S).2.1 = S.1 := by
  rw [g_m_pushes]
  split
  · simp only [sA_1, s_m_pushes_1, ap_1]
  · rfl
noncomputable def g_m_goes : Nat → Nat → Nat → Nat → Nat → Int32 → Int32 → ZS → ZS
  | 0, _, _, _, _, _, _, S => S
  | fu + 1, n, k, f, t, F, O, S => (if (gp n k).1 < f then (if (gp n (2 * k)).2 - 1 < f then (if t < (gp n (2 * k + 1)).1 then (g_m_pushes n k (sI 22 ((S.1 22) + 1) S)).2 else (g_m_goes fu n (2 * k + 1) f t (F) (O) ((g_m_pushes n k (sI 22 ((S.1 22) + 1) S)).2))) else (if t < (gp n (2 * k + 1)).1 then (g_m_goes fu n (2 * k) f t (F) (O) ((g_m_pushes n k (sI 22 ((S.1 22) + 1) S)).2)) else (g_m_goes fu n (2 * k + 1) f t (F) (O) (g_m_goes fu n (2 * k) f t (F) (O) ((g_m_pushes n k (sI 22 ((S.1 22) + 1) S)).2))))) else (if t < (gp n k).2 - 1 then (if (gp n (2 * k)).2 - 1 < f then (if t < (gp n (2 * k + 1)).1 then (g_m_pushes n k (sI 22 ((S.1 22) + 1) S)).2 else (g_m_goes fu n (2 * k + 1) f t (F) (O) ((g_m_pushes n k (sI 22 ((S.1 22) + 1) S)).2))) else (if t < (gp n (2 * k + 1)).1 then (g_m_goes fu n (2 * k) f t (F) (O) ((g_m_pushes n k (sI 22 ((S.1 22) + 1) S)).2)) else (g_m_goes fu n (2 * k + 1) f t (F) (O) (g_m_goes fu n (2 * k) f t (F) (O) ((g_m_pushes n k (sI 22 ((S.1 22) + 1) S)).2))))) else (sI 21 (nI (mc S + 1)) (sA 11 (mc S) (nI (k)) (g_m_applies n k (F) (O) (sI 22 ((S.1 22) + 1) S))))))
theorem goes_met {n f t : Nat} {F O : Int32} (h40 : n ≤ 40) (hft : f ≤ t) (ht : t < n) : ∀ (fu k : Nat) (S : ZS), 1 ≤ k → k < 128 → (gp n k).1 < (gp n k).2 → 128 ≤ k * 2 ^ fu → (gp n k).1 ≤ t → f < (gp n k).2 → mMet S (gp n k).1 → mMet (g_m_goes fu n k f t F O S) (gp n k).2 := by
  intro fu
  induction fu with
  | zero => intro k S k1 k2 hp hf; exact absurd hf (by omega)
  | succ fu ih =>
    intro k S k1 k2 hp hf ho1 ho2 hm
    have ha40 := gp_40 n k h40
    rw [Nat.pow_succ] at hf
    have hin : ¬ (gp n k).1 < f → ¬ t < (gp n k).2 - 1 → mMet (sI 21 (nI (mc S + 1)) (sA 11 (mc S) (nI k) (g_m_applies n k F O (sI 22 (S.1 22 + 1) S)))) (gp n k).2 := fun _ _ => mMet.of (c := mc S + 1) (by simp [sI, upd]) (by have := hm.2; omega) ha40.2
    have hout : (gp n k).1 + 2 ≤ (gp n k).2 → mMet (if (gp n (2 * k)).2 - 1 < f then (if t < (gp n (2 * k + 1)).1 then (g_m_pushes n k (sI 22 (S.1 22 + 1) S)).2 else g_m_goes fu n (2 * k + 1) f t F O (g_m_pushes n k (sI 22 (S.1 22 + 1) S)).2) else (if t < (gp n (2 * k + 1)).1 then (g_m_goes fu n (2 * k) f t F O (g_m_pushes n k (sI 22 (S.1 22 + 1) S)).2) else g_m_goes fu n (2 * k + 1) f t F O (g_m_goes fu n (2 * k) f t F O (g_m_pushes n k (sI 22 (S.1 22 + 1) S)).2))) (gp n k).2 := fun hw => by
      have h64 := gp_near n k h40 k2 hw
      have eL := gp_L n k k1 h64
      have eR := gp_R n k k1 h64
      rw [if_pos hw] at eL eR
      have hs : mMet (g_m_pushes n k (sI 22 (S.1 22 + 1) S)).2 (gp n k).1 := by
        have e : (g_m_pushes n k (sI 22 (S.1 22 + 1) S)).2.1 21 = S.1 21 := by rw [push_1]; rfl
        exact mMet.of (e.trans hm.1) hm.2 ha40.1
      have hL1 : (gp n (2 * k)).1 = (gp n k).1 := by rw [eL]
      have hL2 : (gp n (2 * k)).2 = ((gp n k).1 + (gp n k).2 - 1) / 2 + 1 := by rw [eL]
      have hR1 : (gp n (2 * k + 1)).1 = ((gp n k).1 + (gp n k).2 - 1) / 2 + 1 := by rw [eR]
      have hR2 : (gp n (2 * k + 1)).2 = (gp n k).2 := by rw [eR]
      have hs2 : mMet (g_m_pushes n k (sI 22 (S.1 22 + 1) S)).2 (gp n (2 * k)).1 := by rw [hL1]; exact hs
      have up : ∀ {Q : ZS} {a b : Nat}, mMet Q a → a ≤ b → mMet Q b := fun h1 h2 => ⟨h1.1, Nat.le_trans h1.2 h2⟩
      split
      · split
        · exact up hs (by omega)
        · rw [← hR2]
          exact ih (2 * k + 1) _ (by omega) (by omega) (by omega) (by rw [Nat.add_mul]; have := Nat.one_le_two_pow (n := fu); rw [Nat.mul_comm 2 k, Nat.mul_assoc, Nat.mul_comm 2]; omega) (by omega) (by omega) (up hs (by omega))
      · have h3 := ih (2 * k) _ (by omega) (by omega) (by omega) (by rw [Nat.mul_comm 2 k, Nat.mul_assoc, Nat.mul_comm 2]; omega) (by omega) (by omega) hs2
        split
        · exact up h3 (by omega)
        · rw [← hR2]
          exact ih (2 * k + 1) _ (by omega) (by omega) (by omega) (by rw [Nat.add_mul]; have := Nat.one_le_two_pow (n := fu); rw [Nat.mul_comm 2 k, Nat.mul_assoc, Nat.mul_comm 2]; omega) (by omega) (by omega) (up h3 (by omega))
    rw [g_m_goes]
    by_cases c1 : (gp n k).1 < f
    · rw [if_pos c1]
      exact hout (by omega)
    · rw [if_neg c1]
      by_cases c2 : t < (gp n k).2 - 1
      · rw [if_pos c2]
        exact hout (by omega)
      · rw [if_neg c2]
        exact hin c1 c2
