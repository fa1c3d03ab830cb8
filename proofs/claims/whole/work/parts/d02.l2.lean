variable {sc : SC}
/-! ===== words ===== -/
noncomputable def splL (x : Nat → Int32) (a w : Nat) : Nat → Nat → Bool
  | 0, _ => true
  | fu + 1, k => (if x (a + k) = (zby w).getD k 0 then splL x a w fu (k + 1) else false)
noncomputable def spl (x : Nat → Int32) (a e w : Nat) : Bool := (if e - a = (zby w).length then splL x a w ((zby w).length) 0 else false)
theorem c_splL {t a e w : Nat} {X : ZS} {x : Nat → Int32} (h : txt t X x) (he : e ≤ t) : ∀ fu k, k + fu ≤ e - a → g_c_4_spells_L t a e w fu k X = splL x a w fu k := by
  intro fu
  induction fu with
  | zero => intro k _; rfl
  | succ fu ih =>
    intro k hk
    rw [g_c_4_spells_L, splL, txt_at h (by omega), ih (k + 1) (by omega)]
theorem c_spl {t a e w : Nat} {X : ZS} {x : Nat → Int32} (h : txt t X x) (he : e ≤ t) : g_c_4_spells t a e w X = spl x a e w := by
  rw [g_c_4_spells, spl]
  by_cases q : e - a = (zby w).length
  · rw [if_pos q, if_pos q]; exact c_splL h he _ 0 (by omega)
  · rw [if_neg q, if_neg q]
theorem m_splL {tl w : Nat} {S : ZS} : ∀ fu k o, g_m_says_L tl w fu k o S = splL (S.2 6) o w fu k := by
  intro fu
  induction fu with
  | zero => intro k o; rfl
  | succ fu ih => intro k o; rw [g_m_says_L, splL, ih (k + 1) o]
theorem m_spl {tl w : Nat} {S : ZS} (h : S.1 23 = 2) : g_m_says tl w S = spl (S.2 6) (mo S) (me S) w := by
  rw [g_m_says, if_pos h, spl]
  by_cases q : me S - mo S = (zby w).length
  · rw [if_pos q, if_pos q]; exact m_splL _ 0 _
  · rw [if_neg q, if_neg q]
theorem m_spl_no {tl w : Nat} {S : ZS} (h : ¬ S.1 23 = 2) : g_m_says tl w S = false := by
  rw [g_m_says, if_neg h]
theorem spl_eq (x : Nat → Int32) (a e : Nat) {w v : Nat} (h : zby w = zby v) : spl x a e w = spl x a e v := by
  have hL : ∀ fu k, splL x a w fu k = splL x a v fu k := by
    intro fu
    induction fu with
    | zero => intro k; rfl
    | succ fu ih => intro k; rw [splL, splL, h, ih]
  rw [spl, spl, h, hL]
/-- a word's code -/
noncomputable def wdC (x : Nat → Int32) (a e : Nat) : Int32 := (if spl x a e 0 = true then 7 else (if spl x a e 1 = true then 8 else (if spl x a e 2 = true then 9 else (if spl x a e 3 = true then 10 else (if spl x a e 4 = true then 11 else (if spl x a e 5 = true then 12 else (if spl x a e 6 = true then 13 else (if spl x a e 7 = true then 14 else (if spl x a e 8 = true then 15 else 1)))))))))
theorem c_word {t a e : Nat} {X : ZS} {x : Nat → Int32} (h : txt t X x) (he : e ≤ t) : g_c_4_codeOfWord t a e X = wdC x a e := by
  rw [g_c_4_codeOfWord, wdC, c_spl h he, c_spl h he, c_spl h he, c_spl h he, c_spl h he, c_spl h he, c_spl h he, c_spl h he, c_spl h he]
/-- numbers -/
theorem c_numL {t a e : Nat} {X : ZS} {x : Nat → Int32} (h : txt t X x) : ∀ fu k v, k + fu ≤ t → g_c_4_numberOf_L t a e fu k v X = lx3 x fu k v := by
  intro fu
  induction fu with
  | zero => intro k v _; rfl
  | succ fu ih =>
    intro k v hk
    rw [g_c_4_numberOf_L, lx3, txt_at h (by omega)]
    exact ih (k + 1) _ (by omega)
/-- the sort of a sign -/
def kC (k : Int32) : Int32 := if k = 3 then 2 else if k = 7 then 1 else if k = 1 then 6 else if k = 4 then 3 else if k = 5 then 4 else if k = 6 then 5 else 0
theorem c_sign {v : Int32} (h2 : ¬ g_m_sortOf v = 2) (h3 : ¬ g_m_sortOf v = 3) : g_c_4_codeOfSign v = kC (g_m_sortOf v) := by
  have e59 := s_v (v := v) (k := 59) 59 (by decide)
  have e45 := s_v (v := v) (k := 45) 45 (by decide)
  have e40 := s_v (v := v) (k := 40) 40 (by decide)
  have e41 := s_v (v := v) (k := 41) 41 (by decide)
  by_cases a : v = 59
  · rw [a]; decide
  · by_cases b : v = 45
    · rw [b]; decide
    · by_cases c : v = 40
      · rw [c]; decide
      · by_cases d : v = 41
        · rw [d]; decide
        · have e : g_m_sortOf v = 7 := by
            revert h2 h3
            unfold g_m_sortOf
            rw [if_neg a, if_neg b, if_neg c, if_neg d]
            repeat' split
            all_goals first | exact fun _ _ => rfl | exact fun h _ => absurd rfl h | exact fun _ h => absurd rfl h
          rw [e, g_c_4_codeOfSign, if_neg c, if_neg d, if_neg b, if_neg a]
          decide
