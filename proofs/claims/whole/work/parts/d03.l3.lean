variable {sc : SC}
/-! ===== the tokens, one behind the other ===== -/
noncomputable def tkP (x : Nat → Int32) (t : Nat) : Nat → Nat
  | 0 => 0
  | i + 1 => lxE x t (lxO x t (tkP x t i))
noncomputable def tkO (x : Nat → Int32) (t i : Nat) : Nat := lxO x t (tkP x t i)
noncomputable def tkK (x : Nat → Int32) (t i : Nat) : Int32 := lxK x (tkO x t i) (tkP x t (i + 1))
noncomputable def tkV (x : Nat → Int32) (t i : Nat) : Int32 := lxV x (tkO x t i) (tkP x t (i + 1))
noncomputable def tcd (x : Nat → Int32) (a e : Nat) : Int32 := if lxK x a e = 2 then wdC x a e else kC (lxK x a e)
noncomputable def tkC (x : Nat → Int32) (t i : Nat) : Int32 := tcd x (tkO x t i) (tkP x t (i + 1))
theorem c_take {t c a : Nat} {S X : ZS} {x : Nat → Int32} (h : txt t X x) (ha : a < t) : g_c_4_take t c a (g_c_4_endOfToken t a X) S X = g_c_4_put c (tcd x a (lxE x t a)) (nI a) (lxV x a (lxE x t a)) S := by
  have he := lxE_le x ha
  rw [eot_eq h ha, g_c_4_take, txt_at h ha]
  generalize lxE x t a = e at he ⊢
  by_cases q : g_m_sortOf (x a) = 2
  · have k : lxK x a e = 2 := by rw [lxK, q, if_neg (by decide)]
    rw [if_pos ((sort_let _).mpr q), tcd, if_pos k, lxV, k, if_neg (by decide), c_word h he.2]
  · rw [if_neg (fun z => q ((sort_let _).mp z))]
    by_cases p : g_m_sortOf (x a) = 3
    · rw [if_pos ((sort_dig _).mpr p)]
      by_cases l : e - a ≤ 4
      · have k : lxK x a e = 3 := by rw [lxK, if_pos p, if_pos l]
        rw [if_pos l, tcd, k, if_neg (by decide), lxV, k, if_pos rfl, g_c_4_numberOf, c_numL h (e - a) a 0 (by omega)]
        rfl
      · have k : lxK x a e = 7 := by rw [lxK, if_pos p, if_neg l]
        rw [if_neg l, tcd, k, if_neg (by decide), lxV, k, if_neg (by decide)]
        rfl
    · have k : lxK x a e = g_m_sortOf (x a) := by rw [lxK, if_neg p]
      rw [if_neg (fun z => p ((sort_dig _).mp z)), tcd, k, if_neg q, lxV, k, if_neg p, c_sign q p]
def TkR (x : Nat → Int32) (t c : Nat) (S : ZS) : Prop := ∀ i, i < c → tkO x t i < t ∧ S.2 2 i = tkC x t i ∧ S.2 3 i = nI (tkO x t i) ∧ S.2 4 i = tkV x t i
theorem put_at (c : Nat) (a b v : Int32) (S : ZS) (i : Nat) : (g_c_4_put c a b v S).2 2 i = (if i = c then a else S.2 2 i) ∧ (g_c_4_put c a b v S).2 3 i = (if i = c then b else S.2 3 i) ∧ (g_c_4_put c a b v S).2 4 i = (if i = c then v else S.2 4 i) := ⟨rfl, rfl, rfl⟩
theorem TkR.put {x : Nat → Int32} {t c : Nat} {S : ZS} (h : TkR x t c S) (ho : tkO x t c < t) : TkR x t (c + 1) (g_c_4_put c (tkC x t c) (nI (tkO x t c)) (tkV x t c) S) := by
  intro i hi
  obtain ⟨p1, p2, p3⟩ := put_at c (tkC x t c) (nI (tkO x t c)) (tkV x t c) S i
  rw [p1, p2, p3]
  by_cases q : i = c
  · rw [if_pos q, if_pos q, if_pos q, q]; exact ⟨ho, rfl, rfl, rfl⟩
  · rw [if_neg q, if_neg q, if_neg q]; exact h i (by omega)
theorem split_tk {t : Nat} {X : ZS} {x : Nat → Int32} (h : txt t X x) : ∀ (fu e k c : Nat) (S : ZS), k + fu = t → e ≤ t → e = tkP x t c → (k < e ∨ (e ≤ k ∧ lxO x t e = lx1 x (t - k) k)) → TkR x t c S →
    ∃ c', (g_c_4_split_L t fu e k c S X).1 4 = nI (c' + 1) ∧ TkR x t c' (g_c_4_split_L t fu e k c S X) ∧ tkO x t c' = t ∧ (g_c_4_split_L t fu e k c S X).2 2 c' = 0 ∧ (g_c_4_split_L t fu e k c S X).2 3 c' = nI t ∧ (g_c_4_split_L t fu e k c S X).2 4 c' = 0 := by
  intro fu
  induction fu with
  | zero =>
    intro e k c S hk he ep hq hT
    have ho : tkO x t c = t := by
      rcases hq with q | ⟨q1, q2⟩
      · omega
      · rw [tkO, ← ep, q2, show t - k = 0 by omega, lx1]; omega
    obtain ⟨p1, p2, p3⟩ := put_at c 0 (nI t) 0 S c
    refine ⟨c, rfl, fun i hi => ?_, ho, p1.trans (if_pos rfl), p2.trans (if_pos rfl), p3.trans (if_pos rfl)⟩
    obtain ⟨r1, r2, r3⟩ := put_at c 0 (nI t) 0 S i
    show tkO x t i < t ∧ (g_c_4_put c 0 (nI t) 0 S).2 2 i = _ ∧ (g_c_4_put c 0 (nI t) 0 S).2 3 i = _ ∧ (g_c_4_put c 0 (nI t) 0 S).2 4 i = _
    rw [r1, r2, r3, if_neg (by omega), if_neg (by omega), if_neg (by omega)]
    exact hT i hi
  | succ fu ih =>
    intro e k c S hk he ep hq hT
    rw [g_c_4_split_L]
    by_cases q : k < e
    · rw [if_pos q]
      refine ih e (k + 1) c S (by omega) he ep ?_ hT
      by_cases q2 : k + 1 < e
      · exact Or.inl q2
      · refine Or.inr ⟨by omega, ?_⟩
        rw [show k + 1 = e by omega]
        rfl
    · obtain ⟨q1, q2⟩ := hq.resolve_left q
      rw [if_neg q, txt_at h (by omega)]
      rw [show t - k = fu + 1 by omega, lx1] at q2
      have bl : g_c_4_isBlank (x k) = true ↔ (x k = 32 ∨ x k = 10) := by
        unfold g_c_4_isBlank
        by_cases b1 : x k = 32
        · rw [if_pos b1]; exact ⟨fun _ => Or.inl b1, fun _ => rfl⟩
        · rw [if_neg b1]
          by_cases b2 : x k = 10
          · rw [if_pos b2]; exact ⟨fun _ => Or.inr b2, fun _ => rfl⟩
          · rw [if_neg b2]; exact ⟨fun z => (by cases z), fun z => (z.elim b1 b2).elim⟩
      by_cases b : x k = 32 ∨ x k = 10
      · rw [if_pos (bl.mpr b)]
        refine ih e (k + 1) c S (by omega) he ep (Or.inr ⟨by omega, ?_⟩) hT
        rw [show t - (k + 1) = fu by omega]
        rcases b with b | b
        · rw [if_pos b] at q2; exact q2
        · by_cases b1 : x k = 32
          · rw [if_pos b1] at q2; exact q2
          · rw [if_neg b1, if_pos b] at q2; exact q2
      · rw [if_neg (fun z => b (bl.mp z)), c_take h (by omega), eot_eq h (by omega)]
        have b1 : ¬ x k = 32 := fun z => b (Or.inl z)
        have b2 : ¬ x k = 10 := fun z => b (Or.inr z)
        rw [if_neg b1, if_neg b2] at q2
        have ho : tkO x t c = k := by rw [tkO, ← ep]; exact q2
        have hP : tkP x t (c + 1) = lxE x t k := by
          show lxE x t (lxO x t (tkP x t c)) = _
          rw [← ep, q2]
        have hle := lxE_le x (show k < t by omega)
        have e1 : g_c_4_put c (tcd x k (lxE x t k)) (nI k) (lxV x k (lxE x t k)) S = g_c_4_put c (tkC x t c) (nI (tkO x t c)) (tkV x t c) S := by
          rw [tkC, tkV, ho, hP]
        rw [e1]
        refine ih (lxE x t k) (k + 1) (c + 1) _ (by omega) hle.2 hP.symm ?_ (hT.put (by omega))
        by_cases q3 : k + 1 < lxE x t k
        · exact Or.inl q3
        · refine Or.inr ⟨by omega, ?_⟩
          rw [show lxE x t k = k + 1 by omega]
          rfl
