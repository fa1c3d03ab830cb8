variable {sc : SC}
/-! ===== the input buffer ===== -/
theorem b255 {i : Nat} (h : 8 ≤ i) : (255 : Int32).toBitVec.getLsbD i = false := by
  show (255#32).getLsbD i = false
  rw [BitVec.getLsbD_ofNat]
  have : (255 : Nat).testBit i = false := Nat.testBit_lt_two_pow (Nat.lt_of_lt_of_le (show 255 < 2 ^ 8 by decide) (Nat.pow_le_pow_right (by decide) h))
  rw [this, Bool.and_false]
theorem and255 (y : Int32) : y.toInt8.toInt32 &&& 255 = y &&& 255 := by
  apply Int32.toBitVec_inj.mp
  rw [Int32.toBitVec_and, Int32.toBitVec_and]
  apply BitVec.eq_of_getLsbD_eq
  intro i hi
  rw [BitVec.getLsbD_and, BitVec.getLsbD_and]
  by_cases c : i < 8
  · congr 1
    have e1 : y.toInt8.toInt32.toBitVec = (y.toBitVec.signExtend 8).signExtend 32 := rfl
    rw [e1, BitVec.getLsbD_signExtend, BitVec.getLsbD_signExtend, if_pos c, if_pos (by omega)]
    simp [hi, c]
  · rw [b255 (by omega), Bool.and_false, Bool.and_false]
theorem nar_b (y : Int32) : vp_nar .byte (y.toInt8.toInt32) &&& 255 = y &&& 255 := by
  have e : vp_nar .byte (y.toInt8.toInt32) = y.toInt8.toInt32.toInt8.toInt32 := rfl
  rw [e, and255, and255]
def InpT (t : Nat) (X M : ZS) : Prop := X.1 2 = nI t ∧ M.1 9 = nI t ∧ ∀ i, i < t → X.2 0 i &&& 255 = M.2 5 i
theorem byte_in {u : Nat} {s v : Int32} {X M : ZS} (h : InpT u X M) : InpT (u + 1) (sI 2 (nI (u + 1)) (sA 0 (u) (vp_nar .byte ((zshr (v) (s)).toInt8.toInt32)) X)) (sI 9 (nI (u + 1)) (sA 5 (u) ((zshr (v) (s)) &&& 255) M)) := by
  refine ⟨rfl, rfl, fun i hi => ?_⟩
  show (if i = u then vp_nar .byte ((zshr (v) (s)).toInt8.toInt32) else X.2 0 i) &&& 255 = if i = u then (zshr (v) (s)) &&& 255 else M.2 5 i
  by_cases c : i = u
  · rw [if_pos c, if_pos c]; exact nar_b _
  · rw [if_neg c, if_neg c]; exact h.2.2 i (by omega)
/-- what typing leaves alone -/
def tF9 (M R : ZS) : Prop := (∀ k, ¬ k = 9 → R.1 k = M.1 k) ∧ ∀ j, ¬ j = 5 → R.2 j = M.2 j
theorem tF9.trans {M R Q : ZS} (h : tF9 M R) (g : tF9 R Q) : tF9 M Q := ⟨fun k a => (g.1 k a).trans (h.1 k a), fun j a => (g.2 j a).trans (h.2 j a)⟩
theorem tF9_1 (k i : Nat) (v : Int32) (M : ZS) : tF9 M (sI 9 (nI k) (sA 5 i v M)) := ⟨fun _ a => sI_o a, fun _ a => sA_x a⟩
theorem type_eq (t : Nat) (v : Int32) (M : ZS) : g_m_type t v M = sI 9 (nI (t + 4)) (sA 5 (t + 3) ((zshr (v) 0) &&& 255) (sI 9 (nI (t + 3)) (sA 5 (t + 2) ((zshr (v) 8) &&& 255) (sI 9 (nI (t + 2)) (sA 5 (t + 1) ((zshr (v) 16) &&& 255) (sI 9 (nI (t + 1)) (sA 5 (t) ((zshr (v) 24) &&& 255) M))))))) := by
  have e1 : (24 : Int32) + (-8) = 16 := by decide
  have e2 : (16 : Int32) + (-8) = 8 := by decide
  have e3 : (8 : Int32) + (-8) = 0 := by decide
  rw [g_m_type, g_m_type_L, g_m_type_L, g_m_type_L, g_m_type_L, g_m_type_L, e1, e2, e3]
theorem int_in {t : Nat} {v : Int32} {X M : ZS} (h : InpT t X M) : InpT (t + 4) (g_c_3_putInt t v X) (g_m_type t v M) ∧ tF9 M (g_m_type t v M) := by
  rw [type_eq]
  exact ⟨byte_in (byte_in (byte_in (byte_in h))), (((tF9_1 _ _ _ M).trans (tF9_1 _ _ _ _)).trans (tF9_1 _ _ _ _)).trans (tF9_1 _ _ _ _)⟩
theorem e_append {t : Nat} {a b c d e : Int32} {S X R M : ZS} {T : TS} (h : InpT t X M) (h6 : t ≤ 600) :
    (g_c_6_append t a b c d e S X R T).1 = (g_m_append t a b c d e M).1 ∧ (∃ t', t' ≤ 600 ∧ InpT t' (g_c_6_append t a b c d e S X R T).2 (g_m_append t a b c d e M).2) ∧ tF9 (sI 15 0 M) (g_m_append t a b c d e M).2 := by
  have h0 : InpT t X (sI 15 0 M) := ⟨h.1, h.2.1, h.2.2⟩
  by_cases q : t + 20 ≤ 600
  · obtain ⟨a1, a2⟩ := int_in (v := a) h0
    obtain ⟨b1, b2⟩ := int_in (v := b) a1
    obtain ⟨c1, c2⟩ := int_in (v := c) b1
    obtain ⟨d1, d2⟩ := int_in (v := d) c1
    obtain ⟨e1, e2⟩ := int_in (v := e) d1
    have g1 : g_c_6_append t a b c d e S X R T = (nI (t + 4 + 4 + 4 + 4 + 4), (g_c_3_putInt (t + 4 + 4 + 4 + 4) (e) (g_c_3_putInt (t + 4 + 4 + 4) (d) (g_c_3_putInt (t + 4 + 4) (c) (g_c_3_putInt (t + 4) (b) (g_c_3_putInt t (a) X)))))) := if_pos q
    have g2 : g_m_append t a b c d e M = (nI (t + 20), (g_m_type (t + 4 + 4 + 4 + 4) (e) (g_m_type (t + 4 + 4 + 4) (d) (g_m_type (t + 4 + 4) (c) (g_m_type (t + 4) (b) (g_m_type t (a) (sI 15 (0) M))))))) := if_pos q
    rw [g1, g2]
    exact ⟨rfl, ⟨t + 4 + 4 + 4 + 4 + 4, by omega, e1⟩, (((a2.trans b2).trans c2).trans d2).trans e2⟩
  · have g1 : g_c_6_append t a b c d e S X R T = ((-1), X) := if_neg q
    have g2 : g_m_append t a b c d e M = ((-1), (sI 15 (0) M)) := if_neg q
    rw [g1, g2]
    exact ⟨rfl, ⟨t, h6, h0⟩, ⟨fun _ _ => rfl, fun _ _ => rfl⟩⟩
