variable {sc : SC}

/-- how many nodes were met -/
def mc (S : ZS) : Nat := (S.1 21).toNatClampNeg
def mMet (S : ZS) (b : Nat) : Prop := S.1 21 = nI (mc S) ∧ mc S ≤ b
theorem mMet.of {S : ZS} {b c : Nat} (h : S.1 21 = nI c) (hc : c ≤ b) (hb : b ≤ 40) : mMet S b := by
  have e : mc S = c := by rw [mc, h, nI_clamp (by omega)]
  exact ⟨by rw [e]; exact h, by rw [e]; exact hc⟩
theorem ap_1 (n k : Nat) (f o : Int32) (S : ZS) : (g_m_applies n k f o S).1 = S.1 := by
  rw [g_m_applies]
  split <;> rfl
theorem push_1 (n k : Nat) (S : ZS) : (g_m_pushes n k S).2.1 = S.1 := by
  rw [g_m_pushes]
  split
  · simp only [sA_1, s_m_pushes_1, ap_1]
  · rfl
noncomputable def g_m_goes : Nat → Nat → Nat → Nat → Nat → Int32 → Int32 → ZS → ZS
  | 0, _, _, _, _, _, _, S => S
  | fu + 1, n, k, f, t, F, O, S => (if (gp n k).1 < f then (if (gp n (2 * k)).2 - 1 < f then (if t < (gp n (2 * k + 1)).1 then (g_m_pushes n k (sI 22 ((S.1 22) + 1) S)).2 else (g_m_goes fu n (2 * k + 1) f t (F) (O) ((g_m_pushes n k (sI 22 ((S.1 22) + 1) S)).2))) else (if t < (gp n (2 * k + 1)).1 then (g_m_goes fu n (2 * k) f t (F) (O) ((g_m_pushes n k (sI 22 ((S.1 22) + 1) S)).2)) else (g_m_goes fu n (2 * k + 1) f t (F) (O) (g_m_goes fu n (2 * k) f t (F) (O) ((g_m_pushes n k (sI 22 ((S.1 22) + 1) S)).2))))) else (if t < (gp n k).2 - 1 then (if (gp n (2 * k)).2 - 1 < f then (if t < (gp n (2 * k + 1)).1 then (g_m_pushes n k (sI 22 ((S.1 22) + 1) S)).2 else (g_m_goes fu n (2 * k + 1) f t (F) (O) ((g_m_pushes n k (sI 22 ((S.1 22) + 1) S)).2))) else (if t < (gp n (2 * k + 1)).1 then (g_m_goes fu n (2 * k) f t (F) (O) ((g_m_pushes n k (sI 22 ((S.1 22) + 1) S)).2)) else (g_m_goes fu n (2 * k + 1) f t (F) (O) (g_m_goes fu n (2 * k) f t (F) (O) ((g_m_pushes n k (sI 22 ((S.1 22) + 1) S)).2))))) else (sI 21 (nI (mc S + 1)) (sA 11 (mc S) (nI (k)) (g_m_applies n k (F) (O) (sI 22 ((S.1 22) + 1) S))))))
theorem goes_gr {n f t : Nat} {F O : Int32} : ∀ (fu k : Nat) (S : ZS), mGr n S → mGr n (g_m_goes fu n k f t F O S) := by
  intro fu
  induction fu with
  | zero => intro k S h; exact h
  | succ fu ih =>
    intro k S h
    rw [g_m_goes]
    repeat' split
    all_goals repeat (first | assumption | apply ih | apply mGr_push | apply mGr_ap | refine mGr.sI ?_ (by decide) | refine mGr.sA ?_ (by decide) (by decide) (by decide) (by decide))
theorem goes_met {n f t : Nat} {F O : Int32} (h40 : n ≤ 40) (hft : f ≤ t) (ht : t < n) : ∀ (fu k : Nat) (S : ZS), 1 ≤ k → k < 128 → (gp n k).1 < (gp n k).2 → 128 ≤ k * 2 ^ fu → (gp n k).1 ≤ t → f < (gp n k).2 → mMet S (gp n k).1 → mMet (g_m_goes fu n k f t F O S) (gp n k).2 := by
  intro fu
  induction fu with
  | zero => intro k S k1 k2 hp hf; exact absurd hf (by omega)
  | succ fu ih =>
    intro k S k1 k2 hp hf ho1 ho2 hm
    have ha40 := gp_40 n k h40
    rw [Nat.pow_succ] at hf
    have hin : ¬ (gp n k).1 < f → ¬ t < (gp n k).2 - 1 → mMet (sI 21 (nI (mc S + 1)) (sA 11 (mc S) (nI k) (g_m_applies n k F O (sI 22 (S.1 22 + 1) S)))) (gp n k).2 := fun _ _ => mMet.of (c := mc S + 1) (by simp [sI, upd]) (by have := hm.2; omega) ha40.2
    have hout : (gp n k).1 + 2 ≤ (gp n k).2 → mMet (if (gp n (2 * k)).2 - 1 < f then (if t < (gp n (2 * k + 1)).1 then (g_m_pushes n k (sI 22 (S.1 22 + 1) S)).2 else g_m_goes fu n (2 * k + 1) f t F O (g_m_pushes n k (sI 22 (S.1 22 + 1) S)).2) else (if t < (gp n (2 * k + 1)).1 then (g_m_goes fu n (2 * k) f t F O (g_m_pushes n k (sI 22 (S.1 22 + 1) S)).2) else g_m_goes fu n (2 * k + 1) f t F O (g_m_goes fu n (2 * k) f t F O (g_m_pushes n k (sI 22 (S.1 22 + 1) S)).2))) (gp n k).2 := fun hw => by
      have h64 := gp_near n k h40 k2 hw
      have eL := gp_L n k k1 h64
      have eR := gp_R n k k1 h64
      rw [if_pos hw] at eL eR
      have hs : mMet (g_m_pushes n k (sI 22 (S.1 22 + 1) S)).2 (gp n k).1 := by
        have e : (g_m_pushes n k (sI 22 (S.1 22 + 1) S)).2.1 21 = S.1 21 := by rw [push_1]; rfl
        exact mMet.of (e.trans hm.1) hm.2 ha40.1
      have hL1 : (gp n (2 * k)).1 = (gp n k).1 := by rw [eL]
      have hL2 : (gp n (2 * k)).2 = ((gp n k).1 + (gp n k).2 - 1) / 2 + 1 := by rw [eL]
      have hR1 : (gp n (2 * k + 1)).1 = ((gp n k).1 + (gp n k).2 - 1) / 2 + 1 := by rw [eR]
      have hR2 : (gp n (2 * k + 1)).2 = (gp n k).2 := by rw [eR]
      have hs2 : mMet (g_m_pushes n k (sI 22 (S.1 22 + 1) S)).2 (gp n (2 * k)).1 := by rw [hL1]; exact hs
      have up : ∀ {Q : ZS} {a b : Nat}, mMet Q a → a ≤ b → mMet Q b := fun h1 h2 => ⟨h1.1, Nat.le_trans h1.2 h2⟩
      split
      · split
        · exact up hs (by omega)
        · rw [← hR2]
          exact ih (2 * k + 1) _ (by omega) (by omega) (by omega) (by rw [Nat.add_mul]; have := Nat.one_le_two_pow (n := fu); rw [Nat.mul_comm 2 k, Nat.mul_assoc, Nat.mul_comm 2]; omega) (by omega) (by omega) (up hs (by omega))
      · have h3 := ih (2 * k) _ (by omega) (by omega) (by omega) (by rw [Nat.mul_comm 2 k, Nat.mul_assoc, Nat.mul_comm 2]; omega) (by omega) (by omega) hs2
        split
        · exact up h3 (by omega)
        · rw [← hR2]
          exact ih (2 * k + 1) _ (by omega) (by omega) (by omega) (by rw [Nat.add_mul]; have := Nat.one_le_two_pow (n := fu); rw [Nat.mul_comm 2 k, Nat.mul_assoc, Nat.mul_comm 2]; omega) (by omega) (by omega) (up h3 (by omega))
    rw [g_m_goes]
    by_cases c1 : (gp n k).1 < f
    · rw [if_pos c1]
      exact hout (by omega)
    · rw [if_neg c1]
      by_cases c2 : t < (gp n k).2 - 1
      · rw [if_pos c2]
        exact hout (by omega)
      · rw [if_neg c2]
        exact hin c1 c2
theorem k_m_goes : ∀ (fu : Nat) (n : Nat) (k : Nat) (f : Nat) (t : Nat) (F : Int32) (O : Int32) (S : ZS), (1 ≤ k) → (k < 128) → (n ≤ 40) → ((gp n k).1 < (gp n k).2) → (128 ≤ k * 2 ^ fu) → (f ≤ t) → (t < n) → ((gp n k).1 ≤ t) → (f < (gp n k).2) → (mGr n S) → (mMet S (gp n k).1) → zM sc yX7_goes cX7_goes 6 none (fu + 3) 0 0 [.ref 0, .int (nI (k)), .int (nI (f)), .int (nI (t)), .int (F), .int (O)] (mh S) (.inl none) (mh (g_m_goes fu n k f t F O S)) := by
  intro fu
  induction fu with
  | zero =>
    intro n k f t F O S k1 k2 h40 hp hf hft ht ho1 ho2 hG hm
    exact absurd hf (by omega)
  | succ fu ih =>
    intro n k f t F O S k1 k2 h40 hp hf hft ht ho1 ho2 hG hm
    refine zM.at (ls := [some (.ref 0), some (.int (nI (k))), some (.int (nI (f))), some (.int (nI (t))), some (.int (F)), some (.int (O))]) zy_X7_goes.2.2.2.2.2 (Nat.le_of_ble_eq_true rfl) rfl ?_
    have ha40 := gp_40 n k h40
    have hG1 : mGr n (sI 22 (S.1 22 + 1) S) := hG.sI (by decide)
    refine z_aload_0 dX7_goes_0 ?_
    refine z_dup dX7_goes_1 rfl ?_
    refine z_get (k := 22) (v := .int (S.1 22)) dX7_goes_2 rfl rfl rfl (by decide) zf_X7_103 zw_in7 ?_
    refine z_iconst (v := 1) dX7_goes_5 rfl ?_
    refine z_iadd dX7_goes_6 ?_
    refine z_put (k := 22) (ty := tyX7) dX7_goes_7 rfl rfl (by decide) zf_X7_103 zw_in7 tyX7_ok nmX7 rfl (fun _ => ⟨rfl, rfl⟩) (Nat.le_of_ble_eq_true rfl) ?_
    refine Z.heap (h2 := mh (sI 22 ((S.1 22) + 1) S)) rfl ?_
    refine z_aload_0 dX7_goes_10 ?_
    refine z_get (k := 16) (v := .ref 9) dX7_goes_11 rfl rfl rfl (by decide) zf_X7_39 zw_in7 ?_
    refine z_iload_1 dX7_goes_14 ?_
    refine z_ialdN (k := k) dX7_goes_15 rfl (by first | omega | assumption) (by decide) ?_
    refine z_topi (w := S.2 8 (k)) (by rw [sI_2]) ?_
    refine z_topi (w := nI ((gp n k).1)) (hG.lo (by first | omega | assumption)) ?_
    refine z_iload_2 dX7_goes_16 ?_
    refine z_icmpN_lt (tgt := 60) dX7_goes_17 (by decide) (x := (gp n k).1) (z := f) (by first | omega | assumption) (by first | omega | assumption) (fun c17 => ?_) (fun c17 => ?_)
    · have hw : (gp n k).1 + 2 ≤ (gp n k).2 := by omega
      have h64 := gp_near n k h40 k2 hw
      have eL := gp_L n k k1 h64
      have eR := gp_R n k k1 h64
      rw [if_pos hw] at eL eR
      have hL1 : (gp n (2 * k)).1 = (gp n k).1 := by rw [eL]
      have hL2 : (gp n (2 * k)).2 = ((gp n k).1 + (gp n k).2 - 1) / 2 + 1 := by rw [eL]
      have hR1 : (gp n (2 * k + 1)).1 = ((gp n k).1 + (gp n k).2 - 1) / 2 + 1 := by rw [eR]
      have hR2 : (gp n (2 * k + 1)).2 = (gp n k).2 := by rw [eR]
      have hpL : (gp n (2 * k)).1 < (gp n (2 * k)).2 := by omega
      have hG2 := mGr_push (k := k) hG1
      have hs : (g_m_pushes n k (sI 22 (S.1 22 + 1) S)).2.1 21 = S.1 21 := by rw [push_1]; rfl
      have hm2 : mMet (g_m_pushes n k (sI 22 (S.1 22 + 1) S)).2 (gp n (2 * k)).1 := mMet.of (hs.trans hm.1) (by have := hm.2; omega) (by omega)
      refine z_aload_0 dX7_goes_60 ?_
      refine z_iload_1 dX7_goes_61 ?_
      refine Z.call0s (zRun.V (ρ := fun i => i) (k_m_pushes n k (sI 22 ((S.1 22) + 1) S) k1 h64 h40 hG1) dX7_goes_62 zy_X7_pushes zm_X7_109 rfl rfl rfl rfl (Nat.le_of_ble_eq_true rfl) (by omega) (by decide)) (zlen2 14 rfl rfl) ?_
      refine z_pop dX7_goes_65 rfl ?_
      refine z_aload_0 dX7_goes_66 ?_
      refine z_get (k := 17) (v := .ref 10) dX7_goes_67 rfl rfl rfl (by decide) zf_X7_42 zw_in7 ?_
      refine z_iconst (v := 2) dX7_goes_70 rfl ?_
      refine z_iload_1 dX7_goes_71 ?_
      refine z_imul dX7_goes_72 ?_
      refine z_topi (w := nI (2 * k)) (pk_mul _ _) ?_
      refine z_ialdN (k := (2 * k)) dX7_goes_73 rfl (by first | omega | assumption) (by decide) ?_
      refine z_topi (w := ((g_m_pushes n k (sI 22 ((S.1 22) + 1) S)).2).2 9 (2 * k)) rfl ?_
      refine z_topi (w := nI ((gp n (2 * k)).2 - 1)) (hG2.hi1 (by first | omega | assumption) hpL) ?_
      refine z_iload_2 dX7_goes_74 ?_
      refine z_icmpN_lt (tgt := 91) dX7_goes_75 (by decide) (x := (gp n (2 * k)).2 - 1) (z := f) (by first | omega | assumption) (by first | omega | assumption) (fun c75 => ?_) (fun c75 => ?_)
      · refine z_aload_0 dX7_goes_91 ?_
        refine z_get (k := 16) (v := .ref 9) dX7_goes_92 rfl rfl rfl (by decide) zf_X7_39 zw_in7 ?_
        refine z_iconst (v := 2) dX7_goes_95 rfl ?_
        refine z_iload_1 dX7_goes_96 ?_
        refine z_imul dX7_goes_97 ?_
        refine z_topi (w := nI (2 * k)) (pk_mul _ _) ?_
        refine z_iconst (v := 1) dX7_goes_98 rfl ?_
        refine z_iadd dX7_goes_99 ?_
        refine z_topi (w := nI (2 * k + 1)) (nI_add _ _) ?_
        refine z_ialdN (k := (2 * k + 1)) dX7_goes_100 rfl (by first | omega | assumption) (by decide) ?_
        refine z_topi (w := ((g_m_pushes n k (sI 22 ((S.1 22) + 1) S)).2).2 8 (2 * k + 1)) rfl ?_
        refine z_topi (w := nI ((gp n (2 * k + 1)).1)) (hG2.lo (by first | omega | assumption)) ?_
        refine z_iload_3 dX7_goes_101 ?_
        refine z_icmpN_gt (tgt := 120) dX7_goes_102 (by decide) (x := (gp n (2 * k + 1)).1) (z := t) (by first | omega | assumption) (by first | omega | assumption) (fun c102 => ?_) (fun c102 => ?_)
        · rw [g_m_goes, if_pos c17, if_pos c75, if_pos c102]
          exact z_vret dX7_goes_120 rfl rfl rfl
        · refine z_aload_0 dX7_goes_105 ?_
          refine z_iconst (v := 2) dX7_goes_106 rfl ?_
          refine z_iload_1 dX7_goes_107 ?_
          refine z_imul dX7_goes_108 ?_
          refine z_topi (w := nI (2 * k)) (pk_mul _ _) ?_
          refine z_iconst (v := 1) dX7_goes_109 rfl ?_
          refine z_iadd dX7_goes_110 ?_
          refine z_topi (w := nI (2 * k + 1)) (nI_add _ _) ?_
          refine z_iload_2 dX7_goes_111 ?_
          refine z_iload_3 dX7_goes_112 ?_
          refine z_iload_4 dX7_goes_113 ?_
          refine z_iload_5 dX7_goes_115 ?_
          refine Z.call0n (zRun.V (ρ := fun i => i) (ih n (2 * k + 1) f t (F) (O) ((g_m_pushes n k (sI 22 ((S.1 22) + 1) S)).2) (by omega) (by omega) h40 (by omega) (by rw [Nat.add_mul, Nat.mul_comm 2 k, Nat.mul_assoc, Nat.mul_comm 2, ← Nat.pow_succ]; exact Nat.le_trans hf (Nat.le_add_right _ _)) hft ht (by omega) (by omega) (by first | exact hG2 | exact goes_gr fu (2 * k) _ hG2) (by first | exact mMet.of (hs.trans hm.1) (by have := hm.2; omega) (by omega) | exact ⟨hm3.1, by have := hm3.2; omega⟩)) dX7_goes_117 zy_X7_goes zm_X7_112 rfl rfl rfl rfl (Nat.le_of_ble_eq_true rfl) (by omega) (by decide)) (zlen2 14 rfl rfl) ?_
          rw [g_m_goes, if_pos c17, if_pos c75, if_neg c102]
          exact z_vret dX7_goes_120 rfl rfl rfl
      · refine z_aload_0 dX7_goes_78 ?_
        refine z_iconst (v := 2) dX7_goes_79 rfl ?_
        refine z_iload_1 dX7_goes_80 ?_
        refine z_imul dX7_goes_81 ?_
        refine z_topi (w := nI (2 * k)) (pk_mul _ _) ?_
        refine z_iload_2 dX7_goes_82 ?_
        refine z_iload_3 dX7_goes_83 ?_
        refine z_iload_4 dX7_goes_84 ?_
        refine z_iload_5 dX7_goes_86 ?_
        refine Z.call0n (zRun.V (ρ := fun i => i) (ih n (2 * k) f t (F) (O) ((g_m_pushes n k (sI 22 ((S.1 22) + 1) S)).2) (by omega) (by omega) h40 (by omega) (by rw [Nat.mul_comm 2 k, Nat.mul_assoc, Nat.mul_comm 2, ← Nat.pow_succ]; exact hf) hft ht (by omega) (by omega) hG2 hm2) dX7_goes_88 zy_X7_goes zm_X7_112 rfl rfl rfl rfl (Nat.le_of_ble_eq_true rfl) (by omega) (by decide)) (zlen2 14 rfl rfl) ?_
        have hm3 : mMet _ (gp n (2 * k)).2 := goes_met (F := F) (O := O) h40 hft ht fu (2 * k) _ (by omega) (by omega) (by omega) (by rw [Nat.mul_comm 2 k, Nat.mul_assoc, Nat.mul_comm 2, ← Nat.pow_succ]; exact hf) (by omega) (by omega) hm2
        refine z_aload_0 dX7_goes_91 ?_
        refine z_get (k := 16) (v := .ref 9) dX7_goes_92 rfl rfl rfl (by decide) zf_X7_39 zw_in7 ?_
        refine z_iconst (v := 2) dX7_goes_95 rfl ?_
        refine z_iload_1 dX7_goes_96 ?_
        refine z_imul dX7_goes_97 ?_
        refine z_topi (w := nI (2 * k)) (pk_mul _ _) ?_
        refine z_iconst (v := 1) dX7_goes_98 rfl ?_
        refine z_iadd dX7_goes_99 ?_
        refine z_topi (w := nI (2 * k + 1)) (nI_add _ _) ?_
        refine z_ialdN (k := (2 * k + 1)) dX7_goes_100 rfl (by first | omega | assumption) (by decide) ?_
        refine z_topi (w := ((g_m_goes fu n (2 * k) f t (F) (O) ((g_m_pushes n k (sI 22 ((S.1 22) + 1) S)).2))).2 8 (2 * k + 1)) rfl ?_
        refine z_topi (w := nI ((gp n (2 * k + 1)).1)) ((goes_gr fu (2 * k) _ hG2).lo (by first | omega | assumption)) ?_
        refine z_iload_3 dX7_goes_101 ?_
        refine z_icmpN_gt (tgt := 120) dX7_goes_102 (by decide) (x := (gp n (2 * k + 1)).1) (z := t) (by first | omega | assumption) (by first | omega | assumption) (fun c102 => ?_) (fun c102 => ?_)
        · rw [g_m_goes, if_pos c17, if_neg c75, if_pos c102]
          exact z_vret dX7_goes_120 rfl rfl rfl
        · refine z_aload_0 dX7_goes_105 ?_
          refine z_iconst (v := 2) dX7_goes_106 rfl ?_
          refine z_iload_1 dX7_goes_107 ?_
          refine z_imul dX7_goes_108 ?_
          refine z_topi (w := nI (2 * k)) (pk_mul _ _) ?_
          refine z_iconst (v := 1) dX7_goes_109 rfl ?_
          refine z_iadd dX7_goes_110 ?_
          refine z_topi (w := nI (2 * k + 1)) (nI_add _ _) ?_
          refine z_iload_2 dX7_goes_111 ?_
          refine z_iload_3 dX7_goes_112 ?_
          refine z_iload_4 dX7_goes_113 ?_
          refine z_iload_5 dX7_goes_115 ?_
          refine Z.call0n (zRun.V (ρ := fun i => i) (ih n (2 * k + 1) f t (F) (O) (g_m_goes fu n (2 * k) f t (F) (O) ((g_m_pushes n k (sI 22 ((S.1 22) + 1) S)).2)) (by omega) (by omega) h40 (by omega) (by rw [Nat.add_mul, Nat.mul_comm 2 k, Nat.mul_assoc, Nat.mul_comm 2, ← Nat.pow_succ]; exact Nat.le_trans hf (Nat.le_add_right _ _)) hft ht (by omega) (by omega) (by first | exact hG2 | exact goes_gr fu (2 * k) _ hG2) (by first | exact mMet.of (hs.trans hm.1) (by have := hm.2; omega) (by omega) | exact ⟨hm3.1, by have := hm3.2; omega⟩)) dX7_goes_117 zy_X7_goes zm_X7_112 rfl rfl rfl rfl (Nat.le_of_ble_eq_true rfl) (by omega) (by decide)) (zlen2 14 rfl rfl) ?_
          rw [g_m_goes, if_pos c17, if_neg c75, if_neg c102]
          exact z_vret dX7_goes_120 rfl rfl rfl
    · refine z_aload_0 dX7_goes_20 ?_
      refine z_get (k := 17) (v := .ref 10) dX7_goes_21 rfl rfl rfl (by decide) zf_X7_42 zw_in7 ?_
      refine z_iload_1 dX7_goes_24 ?_
      refine z_ialdN (k := k) dX7_goes_25 rfl (by first | omega | assumption) (by decide) ?_
      refine z_topi (w := S.2 9 (k)) (by rw [sI_2]) ?_
      refine z_topi (w := nI ((gp n k).2 - 1)) (hG.hi1 (by first | omega | assumption) hp) ?_
      refine z_iload_3 dX7_goes_26 ?_
      refine z_icmpN_gt (tgt := 60) dX7_goes_27 (by decide) (x := (gp n k).2 - 1) (z := t) (by first | omega | assumption) (by first | omega | assumption) (fun c27 => ?_) (fun c27 => ?_)
      · have hw : (gp n k).1 + 2 ≤ (gp n k).2 := by omega
        have h64 := gp_near n k h40 k2 hw
        have eL := gp_L n k k1 h64
        have eR := gp_R n k k1 h64
        rw [if_pos hw] at eL eR
        have hL1 : (gp n (2 * k)).1 = (gp n k).1 := by rw [eL]
        have hL2 : (gp n (2 * k)).2 = ((gp n k).1 + (gp n k).2 - 1) / 2 + 1 := by rw [eL]
        have hR1 : (gp n (2 * k + 1)).1 = ((gp n k).1 + (gp n k).2 - 1) / 2 + 1 := by rw [eR]
        have hR2 : (gp n (2 * k + 1)).2 = (gp n k).2 := by rw [eR]
        have hpL : (gp n (2 * k)).1 < (gp n (2 * k)).2 := by omega
        have hG2 := mGr_push (k := k) hG1
        have hs : (g_m_pushes n k (sI 22 (S.1 22 + 1) S)).2.1 21 = S.1 21 := by rw [push_1]; rfl
        have hm2 : mMet (g_m_pushes n k (sI 22 (S.1 22 + 1) S)).2 (gp n (2 * k)).1 := mMet.of (hs.trans hm.1) (by have := hm.2; omega) (by omega)
        refine z_aload_0 dX7_goes_60 ?_
        refine z_iload_1 dX7_goes_61 ?_
        refine Z.call0s (zRun.V (ρ := fun i => i) (k_m_pushes n k (sI 22 ((S.1 22) + 1) S) k1 h64 h40 hG1) dX7_goes_62 zy_X7_pushes zm_X7_109 rfl rfl rfl rfl (Nat.le_of_ble_eq_true rfl) (by omega) (by decide)) (zlen2 14 rfl rfl) ?_
        refine z_pop dX7_goes_65 rfl ?_
        refine z_aload_0 dX7_goes_66 ?_
        refine z_get (k := 17) (v := .ref 10) dX7_goes_67 rfl rfl rfl (by decide) zf_X7_42 zw_in7 ?_
        refine z_iconst (v := 2) dX7_goes_70 rfl ?_
        refine z_iload_1 dX7_goes_71 ?_
        refine z_imul dX7_goes_72 ?_
        refine z_topi (w := nI (2 * k)) (pk_mul _ _) ?_
        refine z_ialdN (k := (2 * k)) dX7_goes_73 rfl (by first | omega | assumption) (by decide) ?_
        refine z_topi (w := ((g_m_pushes n k (sI 22 ((S.1 22) + 1) S)).2).2 9 (2 * k)) rfl ?_
        refine z_topi (w := nI ((gp n (2 * k)).2 - 1)) (hG2.hi1 (by first | omega | assumption) hpL) ?_
        refine z_iload_2 dX7_goes_74 ?_
        refine z_icmpN_lt (tgt := 91) dX7_goes_75 (by decide) (x := (gp n (2 * k)).2 - 1) (z := f) (by first | omega | assumption) (by first | omega | assumption) (fun c75 => ?_) (fun c75 => ?_)
        · refine z_aload_0 dX7_goes_91 ?_
          refine z_get (k := 16) (v := .ref 9) dX7_goes_92 rfl rfl rfl (by decide) zf_X7_39 zw_in7 ?_
          refine z_iconst (v := 2) dX7_goes_95 rfl ?_
          refine z_iload_1 dX7_goes_96 ?_
          refine z_imul dX7_goes_97 ?_
          refine z_topi (w := nI (2 * k)) (pk_mul _ _) ?_
          refine z_iconst (v := 1) dX7_goes_98 rfl ?_
          refine z_iadd dX7_goes_99 ?_
          refine z_topi (w := nI (2 * k + 1)) (nI_add _ _) ?_
          refine z_ialdN (k := (2 * k + 1)) dX7_goes_100 rfl (by first | omega | assumption) (by decide) ?_
          refine z_topi (w := ((g_m_pushes n k (sI 22 ((S.1 22) + 1) S)).2).2 8 (2 * k + 1)) rfl ?_
          refine z_topi (w := nI ((gp n (2 * k + 1)).1)) (hG2.lo (by first | omega | assumption)) ?_
          refine z_iload_3 dX7_goes_101 ?_
          refine z_icmpN_gt (tgt := 120) dX7_goes_102 (by decide) (x := (gp n (2 * k + 1)).1) (z := t) (by first | omega | assumption) (by first | omega | assumption) (fun c102 => ?_) (fun c102 => ?_)
          · rw [g_m_goes, if_neg c17, if_pos c27, if_pos c75, if_pos c102]
            exact z_vret dX7_goes_120 rfl rfl rfl
          · refine z_aload_0 dX7_goes_105 ?_
            refine z_iconst (v := 2) dX7_goes_106 rfl ?_
            refine z_iload_1 dX7_goes_107 ?_
            refine z_imul dX7_goes_108 ?_
            refine z_topi (w := nI (2 * k)) (pk_mul _ _) ?_
            refine z_iconst (v := 1) dX7_goes_109 rfl ?_
            refine z_iadd dX7_goes_110 ?_
            refine z_topi (w := nI (2 * k + 1)) (nI_add _ _) ?_
            refine z_iload_2 dX7_goes_111 ?_
            refine z_iload_3 dX7_goes_112 ?_
            refine z_iload_4 dX7_goes_113 ?_
            refine z_iload_5 dX7_goes_115 ?_
            refine Z.call0n (zRun.V (ρ := fun i => i) (ih n (2 * k + 1) f t (F) (O) ((g_m_pushes n k (sI 22 ((S.1 22) + 1) S)).2) (by omega) (by omega) h40 (by omega) (by rw [Nat.add_mul, Nat.mul_comm 2 k, Nat.mul_assoc, Nat.mul_comm 2, ← Nat.pow_succ]; exact Nat.le_trans hf (Nat.le_add_right _ _)) hft ht (by omega) (by omega) (by first | exact hG2 | exact goes_gr fu (2 * k) _ hG2) (by first | exact mMet.of (hs.trans hm.1) (by have := hm.2; omega) (by omega) | exact ⟨hm3.1, by have := hm3.2; omega⟩)) dX7_goes_117 zy_X7_goes zm_X7_112 rfl rfl rfl rfl (Nat.le_of_ble_eq_true rfl) (by omega) (by decide)) (zlen2 14 rfl rfl) ?_
            rw [g_m_goes, if_neg c17, if_pos c27, if_pos c75, if_neg c102]
            exact z_vret dX7_goes_120 rfl rfl rfl
        · refine z_aload_0 dX7_goes_78 ?_
          refine z_iconst (v := 2) dX7_goes_79 rfl ?_
          refine z_iload_1 dX7_goes_80 ?_
          refine z_imul dX7_goes_81 ?_
          refine z_topi (w := nI (2 * k)) (pk_mul _ _) ?_
          refine z_iload_2 dX7_goes_82 ?_
          refine z_iload_3 dX7_goes_83 ?_
          refine z_iload_4 dX7_goes_84 ?_
          refine z_iload_5 dX7_goes_86 ?_
          refine Z.call0n (zRun.V (ρ := fun i => i) (ih n (2 * k) f t (F) (O) ((g_m_pushes n k (sI 22 ((S.1 22) + 1) S)).2) (by omega) (by omega) h40 (by omega) (by rw [Nat.mul_comm 2 k, Nat.mul_assoc, Nat.mul_comm 2, ← Nat.pow_succ]; exact hf) hft ht (by omega) (by omega) hG2 hm2) dX7_goes_88 zy_X7_goes zm_X7_112 rfl rfl rfl rfl (Nat.le_of_ble_eq_true rfl) (by omega) (by decide)) (zlen2 14 rfl rfl) ?_
          have hm3 : mMet _ (gp n (2 * k)).2 := goes_met (F := F) (O := O) h40 hft ht fu (2 * k) _ (by omega) (by omega) (by omega) (by rw [Nat.mul_comm 2 k, Nat.mul_assoc, Nat.mul_comm 2, ← Nat.pow_succ]; exact hf) (by omega) (by omega) hm2
          refine z_aload_0 dX7_goes_91 ?_
          refine z_get (k := 16) (v := .ref 9) dX7_goes_92 rfl rfl rfl (by decide) zf_X7_39 zw_in7 ?_
          refine z_iconst (v := 2) dX7_goes_95 rfl ?_
          refine z_iload_1 dX7_goes_96 ?_
          refine z_imul dX7_goes_97 ?_
          refine z_topi (w := nI (2 * k)) (pk_mul _ _) ?_
          refine z_iconst (v := 1) dX7_goes_98 rfl ?_
          refine z_iadd dX7_goes_99 ?_
          refine z_topi (w := nI (2 * k + 1)) (nI_add _ _) ?_
          refine z_ialdN (k := (2 * k + 1)) dX7_goes_100 rfl (by first | omega | assumption) (by decide) ?_
          refine z_topi (w := ((g_m_goes fu n (2 * k) f t (F) (O) ((g_m_pushes n k (sI 22 ((S.1 22) + 1) S)).2))).2 8 (2 * k + 1)) rfl ?_
          refine z_topi (w := nI ((gp n (2 * k + 1)).1)) ((goes_gr fu (2 * k) _ hG2).lo (by first | omega | assumption)) ?_
          refine z_iload_3 dX7_goes_101 ?_
          refine z_icmpN_gt (tgt := 120) dX7_goes_102 (by decide) (x := (gp n (2 * k + 1)).1) (z := t) (by first | omega | assumption) (by first | omega | assumption) (fun c102 => ?_) (fun c102 => ?_)
          · rw [g_m_goes, if_neg c17, if_pos c27, if_neg c75, if_pos c102]
            exact z_vret dX7_goes_120 rfl rfl rfl
          · refine z_aload_0 dX7_goes_105 ?_
            refine z_iconst (v := 2) dX7_goes_106 rfl ?_
            refine z_iload_1 dX7_goes_107 ?_
            refine z_imul dX7_goes_108 ?_
            refine z_topi (w := nI (2 * k)) (pk_mul _ _) ?_
            refine z_iconst (v := 1) dX7_goes_109 rfl ?_
            refine z_iadd dX7_goes_110 ?_
            refine z_topi (w := nI (2 * k + 1)) (nI_add _ _) ?_
            refine z_iload_2 dX7_goes_111 ?_
            refine z_iload_3 dX7_goes_112 ?_
            refine z_iload_4 dX7_goes_113 ?_
            refine z_iload_5 dX7_goes_115 ?_
            refine Z.call0n (zRun.V (ρ := fun i => i) (ih n (2 * k + 1) f t (F) (O) (g_m_goes fu n (2 * k) f t (F) (O) ((g_m_pushes n k (sI 22 ((S.1 22) + 1) S)).2)) (by omega) (by omega) h40 (by omega) (by rw [Nat.add_mul, Nat.mul_comm 2 k, Nat.mul_assoc, Nat.mul_comm 2, ← Nat.pow_succ]; exact Nat.le_trans hf (Nat.le_add_right _ _)) hft ht (by omega) (by omega) (by first | exact hG2 | exact goes_gr fu (2 * k) _ hG2) (by first | exact mMet.of (hs.trans hm.1) (by have := hm.2; omega) (by omega) | exact ⟨hm3.1, by have := hm3.2; omega⟩)) dX7_goes_117 zy_X7_goes zm_X7_112 rfl rfl rfl rfl (Nat.le_of_ble_eq_true rfl) (by omega) (by decide)) (zlen2 14 rfl rfl) ?_
            rw [g_m_goes, if_neg c17, if_pos c27, if_neg c75, if_neg c102]
            exact z_vret dX7_goes_120 rfl rfl rfl
      · refine z_aload_0 dX7_goes_30 ?_
        refine z_iload_1 dX7_goes_31 ?_
        refine z_iload_4 dX7_goes_32 ?_
        refine z_iload_5 dX7_goes_34 ?_
        refine Z.call0n (zRun.V (ρ := fun i => i) (k_m_applies n k (F) (O) (sI 22 ((S.1 22) + 1) S) k1 k2 h40 hG1) dX7_goes_36 zy_X7_applies zm_X7_99 rfl rfl rfl rfl (Nat.le_of_ble_eq_true rfl) (by omega) (by decide)) (zlen2 14 rfl rfl) ?_
        refine z_aload_0 dX7_goes_39 ?_
        refine z_get (k := 20) (v := .ref 12) dX7_goes_40 rfl rfl rfl (by decide) zf_X7_48 zw_in7 ?_
        refine z_aload_0 dX7_goes_43 ?_
        refine z_get (k := 21) (v := .int (((g_m_applies n k (F) (O) (sI 22 ((S.1 22) + 1) S))).1 21)) dX7_goes_44 rfl rfl rfl (by decide) zf_X7_106 zw_in7 ?_
        refine z_topi (w := nI (mc S)) ((congrFun (ap_1 n k F O (sI 22 (S.1 22 + 1) S)) 21).trans hm.1) ?_
        refine z_iload_1 dX7_goes_47 ?_
        refine z_iastN (k := (mc S)) dX7_goes_48 rfl (by have := hm.2; omega) (by decide) ?_
        refine Z.heap (h2 := mh (sA 11 (mc S) (nI (k)) (g_m_applies n k (F) (O) (sI 22 ((S.1 22) + 1) S)))) rfl ?_
        refine z_aload_0 dX7_goes_49 ?_
        refine z_dup dX7_goes_50 rfl ?_
        refine z_get (k := 21) (v := .int (((g_m_applies n k (F) (O) (sI 22 ((S.1 22) + 1) S))).1 21)) dX7_goes_51 rfl rfl rfl (by decide) zf_X7_106 zw_in7 ?_
        refine z_topi (w := nI (mc S)) ((congrFun (ap_1 n k F O (sI 22 (S.1 22 + 1) S)) 21).trans hm.1) ?_
        refine z_iconst (v := 1) dX7_goes_54 rfl ?_
        refine z_iadd dX7_goes_55 ?_
        refine z_topi (w := nI (mc S + 1)) (nI_add _ _) ?_
        refine z_put (k := 21) (ty := tyX7) dX7_goes_56 rfl rfl (by decide) zf_X7_106 zw_in7 tyX7_ok nmX7 rfl (fun _ => ⟨rfl, rfl⟩) (Nat.le_of_ble_eq_true rfl) ?_
        refine Z.heap (h2 := mh (sI 21 (nI (mc S + 1)) (sA 11 (mc S) (nI (k)) (g_m_applies n k (F) (O) (sI 22 ((S.1 22) + 1) S))))) rfl ?_
        rw [g_m_goes, if_neg c17, if_neg c27]
        exact z_vret dX7_goes_59 rfl rfl rfl
