variable {sc : SC}
/-! ===== the script's tokens on both sides ===== -/
theorem s_v {v : Int32} {k : Int} (K : Int32) (hK : K.toInt = k) : v = K ↔ v.toInt = k := ⟨fun h => by rw [h]; exact hK, fun h => Int32.toInt_inj.mp (by rw [hK]; exact h)⟩
theorem sort_let (v : Int32) : g_c_4_isLetter v = true ↔ g_m_sortOf v = 2 := by
  have e97 : (97 : Int32).toInt = 97 := by decide
  have e122 : (122 : Int32).toInt = 122 := by decide
  have e59 := s_v (v := v) (k := 59) 59 (by decide)
  have l1 : v < 97 ↔ v.toInt < 97 := by rw [Int32.lt_iff_toInt_lt, e97]
  have l2 : (122 : Int32) < v ↔ 122 < v.toInt := by rw [Int32.lt_iff_toInt_lt, e122]
  unfold g_c_4_isLetter g_m_sortOf
  by_cases a : v < 97
  · rw [if_pos a, if_pos a]
    refine ⟨fun h => (by cases h), fun h => ?_⟩
    revert h
    repeat' split
    all_goals exact fun h => absurd h (by decide)
  · by_cases b : (122 : Int32) < v
    · rw [if_neg a, if_pos b, if_neg a, if_pos b]
      refine ⟨fun h => (by cases h), fun h => ?_⟩
      revert h
      repeat' split
      all_goals exact fun h => absurd h (by decide)
    · have a2 : ¬ v.toInt < 97 := fun z => a (l1.mpr z)
      have b2 : ¬ 122 < v.toInt := fun z => b (l2.mpr z)
      have c : ¬ v = 59 := fun h => by have := e59.mp h; omega
      rw [if_neg a, if_neg b, if_neg c, if_neg a, if_neg b]
      exact ⟨fun _ => rfl, fun _ => rfl⟩
theorem sort_dig (v : Int32) : g_c_4_isDigit v = true ↔ g_m_sortOf v = 3 := by
  have e48 : (48 : Int32).toInt = 48 := by decide
  have e57 : (57 : Int32).toInt = 57 := by decide
  have e97 : (97 : Int32).toInt = 97 := by decide
  have e59 := s_v (v := v) (k := 59) 59 (by decide)
  have l1 : v < 48 ↔ v.toInt < 48 := by rw [Int32.lt_iff_toInt_lt, e48]
  have l2 : (57 : Int32) < v ↔ 57 < v.toInt := by rw [Int32.lt_iff_toInt_lt, e57]
  have l3 : v < 97 ↔ v.toInt < 97 := by rw [Int32.lt_iff_toInt_lt, e97]
  unfold g_c_4_isDigit g_m_sortOf
  by_cases a : v < 48
  · have h97 : v < 97 := by rw [l3]; have := l1.mp a; omega
    rw [if_pos a]
    refine ⟨fun h => (by cases h), fun h => ?_⟩
    revert h
    rw [if_pos h97, if_pos a]
    repeat' split
    all_goals exact fun h => absurd h (by decide)
  · by_cases b : (57 : Int32) < v
    · rw [if_neg a, if_pos b]
      refine ⟨fun h => (by cases h), fun h => ?_⟩
      revert h
      rw [if_neg a, if_pos b]
      repeat' split
      all_goals exact fun h => absurd h (by decide)
    · have a2 : ¬ v.toInt < 48 := fun z => a (l1.mpr z)
      have b2 : ¬ 57 < v.toInt := fun z => b (l2.mpr z)
      have c : ¬ v = 59 := fun h => by have := e59.mp h; omega
      have h97 : v < 97 := by rw [l3]; omega
      rw [if_neg a, if_neg b, if_neg c, if_pos h97, if_neg a, if_neg b]
      exact ⟨fun _ => rfl, fun _ => rfl⟩
/-- the typed bytes are the text that is read -/
def txt (t : Nat) (X : ZS) (x : Nat → Int32) : Prop := ∀ i, i < t → X.2 0 i &&& 255 = x i
theorem txt_at {t k : Nat} {X : ZS} {x : Nat → Int32} (h : txt t X x) (hk : k < t) : g_c_3_byteAt t k X = x k := by
  rw [g_c_3_byteAt, if_neg (by omega)]
  exact h k hk
theorem eot_L {t a : Nat} {X : ZS} {x : Nat → Int32} (h : txt t X x) (b : Bool) (c : Int32) (hb : (b = true ∧ c = 2) ∨ (b = false ∧ c = 3)) : ∀ fu k, k + fu = t → g_c_4_endOfToken_L t a fu k b X = lx2 x c fu k := by
  intro fu
  induction fu with
  | zero => intro k hk; rw [g_c_4_endOfToken_L, lx2]; omega
  | succ fu ih =>
    intro k hk
    rw [g_c_4_endOfToken_L, lx2, txt_at h (by omega)]
    rcases hb with ⟨rfl, rfl⟩ | ⟨rfl, rfl⟩
    · rw [if_pos rfl, if_pos (Or.inl rfl)]
      by_cases q : g_m_sortOf (x k) = 2
      · rw [if_pos ((sort_let _).mpr q), if_pos q]; exact ih (k + 1) (by omega)
      · rw [if_neg (fun z => q ((sort_let _).mp z)), if_neg q]
    · rw [if_neg (by decide), if_pos (Or.inr rfl)]
      by_cases q : g_m_sortOf (x k) = 3
      · rw [if_pos ((sort_dig _).mpr q), if_pos q]; exact ih (k + 1) (by omega)
      · rw [if_neg (fun z => q ((sort_dig _).mp z)), if_neg q]
theorem eot_eq {t a : Nat} {X : ZS} {x : Nat → Int32} (h : txt t X x) (ha : a < t) : g_c_4_endOfToken t a X = lxE x t a := by
  rw [g_c_4_endOfToken, lxE, txt_at h ha]
  by_cases q : g_m_sortOf (x a) = 2
  · have e := (sort_let (x a)).mpr q
    rw [if_pos e, e, q]
    exact eot_L h true 2 (Or.inl ⟨rfl, rfl⟩) _ _ (by omega)
  · have e : ¬ g_c_4_isLetter (x a) = true := fun z => q ((sort_let _).mp z)
    rw [if_neg e]
    by_cases p : g_m_sortOf (x a) = 3
    · rw [if_pos ((sort_dig _).mpr p), p, Bool.eq_false_iff.mpr e]
      exact eot_L h false 3 (Or.inr ⟨rfl, rfl⟩) _ _ (by omega)
    · rw [if_neg (fun z => p ((sort_dig _).mp z))]
      cases hf : t - (a + 1) with
      | zero => rfl
      | succ m => rw [lx2, if_neg (fun z => z.elim q p)]
