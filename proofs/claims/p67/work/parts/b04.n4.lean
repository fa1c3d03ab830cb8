variable {sc : SC}
def sumF (g : Nat → Int64) (a : Nat) : Nat → Int64
  | 0 => 0
  | c + 1 => sumF g a c + g (a + c)
theorem sumF_cong {g h : Nat → Int64} {a : Nat} : ∀ c, (∀ i, a ≤ i → i < a + c → g i = h i) → sumF g a c = sumF h a c := by
  intro c
  induction c with
  | zero => intro _; rfl
  | succ c ih =>
    intro e
    show sumF g a c + g (a + c) = sumF h a c + h (a + c)
    rw [ih (fun i h1 h2 => e i h1 (by omega)), e (a + c) (by omega) (by omega)]
theorem sumF_app (g : Nat → Int64) (a c : Nat) : ∀ d, sumF g a (c + d) = sumF g a c + sumF g (a + c) d := by
  intro d
  induction d with
  | zero => exact (Int64.add_zero _).symm
  | succ d ih =>
    show sumF g a (c + d) + g (a + (c + d)) = sumF g a c + (sumF g (a + c) d + g (a + c + d))
    rw [ih, Int64.add_assoc, Nat.add_assoc]
theorem nI64 {c : Nat} (h : c < 1000) : (nI (c + 1)).toInt64 = (nI c).toInt64 + 1 := by
  apply Int64.toInt_inj.mp
  rw [Int64.toInt_add, Int32.toInt_toInt64, Int32.toInt_toInt64, nI_toInt (by omega), nI_toInt (by omega)]
  have e : (1 : Int64).toInt = 1 := by decide
  rw [e]
  exact (Int.bmod_eq_of_le (by omega) (by omega)).symm
theorem sumF_mark {F G : Int32} {e : Nat → Int32} {a : Nat} (hF : f3 F) (hG : sml G) : ∀ c, c < 1000 → (∀ i, a ≤ i → i < a + c → sml (e i)) → sumF (fun i => (F * e i + G).toInt64) a c = F.toInt64 * sumF (fun i => (e i).toInt64) a c + G.toInt64 * (nI c).toInt64 := by
  intro c
  induction c with
  | zero =>
    intro _ _
    show (0 : Int64) = F.toInt64 * 0 + G.toInt64 * (nI 0).toInt64
    have e0 : (nI 0).toInt64 = 0 := by decide
    rw [e0, Int64.mul_zero, Int64.mul_zero, Int64.add_zero]
  | succ c ih =>
    intro hc h
    show sumF (fun i => (F * e i + G).toInt64) a c + (F * e (a + c) + G).toInt64 = F.toInt64 * (sumF (fun i => (e i).toInt64) a c + (e (a + c)).toInt64) + G.toInt64 * (nI (c + 1)).toInt64
    rw [ih (by omega) (fun i h1 h2 => h i h1 (by omega)), lin64 hF (h (a + c) (by omega) (by omega)) hG, nI64 (by omega), Int64.mul_add, Int64.mul_add, Int64.mul_one]
    ac_rfl
def Sc (n : Nat) (w : Nat → Int32) (k : Nat) (r : NR) : Prop :=
  (∃ i, (gp n k).1 ≤ i ∧ i < (gp n k).2 ∧ r.2.1 = el n w k i) ∧ (∀ i, (gp n k).1 ≤ i → i < (gp n k).2 → r.2.1.toInt ≤ (el n w k i).toInt) ∧
  (∃ i, (gp n k).1 ≤ i ∧ i < (gp n k).2 ∧ r.2.2.1 = el n w k i) ∧ (∀ i, (gp n k).1 ≤ i → i < (gp n k).2 → (el n w k i).toInt ≤ r.2.2.1.toInt) ∧
  r.1 = sumF (fun i => (el n w k i).toInt64) (gp n k).1 ((gp n k).2 - (gp n k).1)
def Rn (n : Nat) (v : Nat → NR) (w : Nat → Int32) (k : Nat) : Prop :=
  ((v k).2.2.2.1 = w (44 + k) ∧ (v k).2.2.2.2 = w (172 + k)) ∧ f3 (w (44 + k)) ∧ (∀ i, (gp n k).1 ≤ i → i < (gp n k).2 → bd (el n w k i)) ∧ Sc n w k (v k) ∧ (¬ (gp n k).1 + 2 ≤ (gp n k).2 → w (44 + k) = 1 ∧ w (172 + k) = 0)
theorem Sc.cong {n k : Nat} {w w' : Nat → Int32} {r : NR} (h : Sc n w k r) (e : ∀ i, (gp n k).1 ≤ i → i < (gp n k).2 → el n w' k i = el n w k i) : Sc n w' k r := by
  obtain ⟨⟨i1, a1, a2, a3⟩, b, ⟨i2, c1, c2, c3⟩, d, s⟩ := h
  refine ⟨⟨i1, a1, a2, by rw [e i1 a1 a2]; exact a3⟩, fun i h1 h2 => by rw [e i h1 h2]; exact b i h1 h2, ⟨i2, c1, c2, by rw [e i2 c1 c2]; exact c3⟩, fun i h1 h2 => by rw [e i h1 h2]; exact d i h1 h2, ?_⟩
  rw [s]
  exact sumF_cong _ (fun i h1 h2 => by rw [e i h1 (by omega)])
theorem Rn.cong {n k : Nat} {v v' : Nat → NR} {w w' : Nat → Int32} (h : Rn n v w k) (e : ∀ i, (gp n k).1 ≤ i → i < (gp n k).2 → el n w' k i = el n w k i) (ev : v' k = v k) (e1 : w' (44 + k) = w (44 + k)) (e2 : w' (172 + k) = w (172 + k)) : Rn n v' w' k := by
  obtain ⟨a, b, c, d, f⟩ := h
  refine ⟨by rw [ev, e1, e2]; exact a, by rw [e1]; exact b, fun i h1 h2 => by rw [e i h1 h2]; exact c i h1 h2, by rw [ev]; exact d.cong e, by rw [e1, e2]; exact f⟩
def apW (n k : Nat) (F G : Int32) (w : Nat → Int32) : Nat → Int32 := if (gp n k).1 + 2 ≤ (gp n k).2 then upd (upd w (44 + k) (F * w (44 + k))) (172 + k) (F * w (172 + k) + G) else upd w (4 + (gp n k).1) (F * w (4 + (gp n k).1) + G)
theorem ap_w {n k : Nat} {F G : Int32} {S : ZS} (h40 : n ≤ 40) (hx : (gp n k).1 < (gp n k).2) : (g_m_applies n k F G S).2 0 = apW n k F G (S.2 0) := by
  have h9 := gp_40 n k h40
  have h8 := zgp_eq h9.1 h9.2
  by_cases c : (gp n k).1 + 2 ≤ (gp n k).2
  · have e : g_m_ends n k S = false := if_neg (fun z => by have := h8.mp z; omega)
    rw [g_m_applies, e, if_neg (by decide), apW, if_pos c]
    rfl
  · have e : g_m_ends n k S = true := if_pos (h8.mpr (by omega))
    rw [g_m_applies, e, if_pos rfl, apW, if_neg c]
    rfl
theorem apW_m {n k x : Nat} {F G : Int32} {w : Nat → Int32} (h40 : n ≤ 40) (hk : k < 128) (hx : x < 128) (hkx : (gp n k).1 < (gp n k).2) (h : ¬ x = k) : apW n k F G w (44 + x) = w (44 + x) ∧ apW n k F G w (172 + x) = w (172 + x) := by
  have h9 := gp_40 n k h40
  unfold apW
  by_cases c : (gp n k).1 + 2 ≤ (gp n k).2
  · rw [if_pos c, upd_at, upd_at, upd_at, upd_at, if_neg (by omega), if_neg (by omega), if_neg (by omega), if_neg (by omega)]
    exact ⟨rfl, rfl⟩
  · rw [if_neg c, upd_at, upd_at, if_neg (by omega), if_neg (by omega)]
    exact ⟨rfl, rfl⟩
theorem apW_e {n k i : Nat} {F G : Int32} {w : Nat → Int32} (hi : i < 40) (h : ¬ ((gp n k).1 ≤ i ∧ i < (gp n k).2)) (hkx : (gp n k).1 < (gp n k).2) : apW n k F G w (4 + i) = w (4 + i) := by
  unfold apW
  by_cases c : (gp n k).1 + 2 ≤ (gp n k).2
  · rw [if_pos c, upd_at, upd_at, if_neg (by omega), if_neg (by omega)]
  · rw [if_neg c, upd_at, if_neg (by omega)]
theorem apW_4 {n k i : Nat} {F G : Int32} {w : Nat → Int32} (hi : i < 4) : apW n k F G w i = w i := by
  unfold apW
  by_cases c : (gp n k).1 + 2 ≤ (gp n k).2
  · rw [if_pos c, upd_at, upd_at, if_neg (by omega), if_neg (by omega)]
  · rw [if_neg c, upd_at, if_neg (by omega)]
theorem apW_k {n k : Nat} {F G : Int32} {w : Nat → Int32} (hk : k < 128) (c : (gp n k).1 + 2 ≤ (gp n k).2) : apW n k F G w (44 + k) = F * w (44 + k) ∧ apW n k F G w (172 + k) = F * w (172 + k) + G := by
  unfold apW
  rw [if_pos c, upd_at, upd_at, upd_at, if_neg (by omega), if_pos rfl, if_pos rfl]
  exact ⟨rfl, rfl⟩
theorem apW_l {n k : Nat} {F G : Int32} {w : Nat → Int32} (h40 : n ≤ 40) (hkx : (gp n k).1 < (gp n k).2) (c : ¬ (gp n k).1 + 2 ≤ (gp n k).2) : apW n k F G w (4 + (gp n k).1) = F * w (4 + (gp n k).1) + G ∧ apW n k F G w (44 + k) = w (44 + k) ∧ apW n k F G w (172 + k) = w (172 + k) := by
  have h9 := gp_40 n k h40
  unfold apW
  rw [if_neg c, upd_at, upd_at, upd_at, if_pos rfl, if_neg (by omega), if_neg (by omega)]
  exact ⟨rfl, rfl, rfl⟩
theorem apW_el {n k : Nat} {F G : Int32} {w : Nat → Int32} (h40 : n ≤ 40) (h1 : 1 ≤ k) (h2 : k < 128) (hx : (gp n k).1 < (gp n k).2) {i : Nat} (ha : (gp n k).1 ≤ i) (hb : i < (gp n k).2) : el n (apW n k F G w) k i = F * el n w k i + G := by
  have h9 := gp_40 n k h40
  by_cases c : (gp n k).1 + 2 ≤ (gp n k).2
  · have h64 := gp_near n k h40 h2 c
    rw [el_in _ i h40 h1 h2 c, el_in w i h40 h1 h2 c, (apW_k h2 c).1, (apW_k h2 c).2, rg32]
    have e : el n (apW n k F G w) (gch n k i) i = el n w (gch n k i) i := by
      refine el_loc h40 i 7 (gch n k i) (by rcases gch_or n k i with q | q <;> omega) (by rcases gch_or n k i with q | q <;> omega) (fun x hs hx2 => ?_) ?_
      · have := hs.le
        exact apW_m h40 h2 hx2 hx (by rcases gch_or n k i with q | q <;> omega)
      · unfold apW
        rw [if_pos c, upd_at, upd_at, if_neg (by omega), if_neg (by omega)]
    rw [e]
  · have e : i = (gp n k).1 := by omega
    rw [el_lf _ i c, el_lf _ i c, e]
    exact (apW_l h40 hx c).1
def gW (n k : Nat) : Int32 := nI ((gp n k).2 - (gp n k).1)
theorem Sc.mark {n k : Nat} {F G W : Int32} {w w' : Nat → Int32} {r : NR} (h40 : n ≤ 40) (hx : (gp n k).1 < (gp n k).2) (hF : f3 F) (hW : W = gW n k) (h : Sc n w k r) (hb : ∀ i, (gp n k).1 ≤ i → i < (gp n k).2 → bd (el n w k i)) (hG : sml G) (e : ∀ i, (gp n k).1 ≤ i → i < (gp n k).2 → el n w' k i = F * el n w k i + G) : Sc n w' k (mkN W F G r) := by
  obtain ⟨⟨i1, a1, a2, a3⟩, b, ⟨i2, c1, c2, c3⟩, d, s⟩ := h
  have h9 := gp_40 n k h40
  have hl : ∀ i, (gp n k).1 ≤ i → i < (gp n k).2 → (el n w' k i).toInt = F.toInt * (el n w k i).toInt + G.toInt := fun i h1 h2 => by
    rw [e i h1 h2]; exact lin hF (hb i h1 h2).sml hG
  have l1 := hl i1 a1 a2
  have l2 := hl i2 c1 c2
  have f9 := f3_int hF
  have key : (∃ i, (gp n k).1 ≤ i ∧ i < (gp n k).2 ∧ (mkN W F G r).2.1 = el n w' k i ∧ (mkN W F G r).2.1.toInt = F.toInt * (if 0 ≤ F then r.2.1 else r.2.2.1).toInt + G.toInt) ∧ (∃ i, (gp n k).1 ≤ i ∧ i < (gp n k).2 ∧ (mkN W F G r).2.2.1 = el n w' k i ∧ (mkN W F G r).2.2.1.toInt = F.toInt * (if 0 ≤ F then r.2.2.1 else r.2.1).toInt + G.toInt) := by
    show (∃ i, (gp n k).1 ≤ i ∧ i < (gp n k).2 ∧ F * (if 0 ≤ F then r.2.1 else r.2.2.1) + G = el n w' k i ∧ (F * (if 0 ≤ F then r.2.1 else r.2.2.1) + G).toInt = F.toInt * (if 0 ≤ F then r.2.1 else r.2.2.1).toInt + G.toInt) ∧ (∃ i, (gp n k).1 ≤ i ∧ i < (gp n k).2 ∧ F * (if 0 ≤ F then r.2.2.1 else r.2.1) + G = el n w' k i ∧ (F * (if 0 ≤ F then r.2.2.1 else r.2.1) + G).toInt = F.toInt * (if 0 ≤ F then r.2.2.1 else r.2.1).toInt + G.toInt)
    by_cases c : 0 ≤ F
    · rw [if_pos c, if_pos c]
      refine ⟨⟨i1, a1, a2, ?_, ?_⟩, ⟨i2, c1, c2, ?_, ?_⟩⟩
      · rw [e i1 a1 a2, a3]
      · rw [a3]; exact lin hF (hb i1 a1 a2).sml hG
      · rw [e i2 c1 c2, c3]
      · rw [c3]; exact lin hF (hb i2 c1 c2).sml hG
    · rw [if_neg c, if_neg c]
      refine ⟨⟨i2, c1, c2, ?_, ?_⟩, ⟨i1, a1, a2, ?_, ?_⟩⟩
      · rw [e i2 c1 c2, c3]
      · rw [c3]; exact lin hF (hb i2 c1 c2).sml hG
      · rw [e i1 a1 a2, a3]
      · rw [a3]; exact lin hF (hb i1 a1 a2).sml hG
  obtain ⟨⟨j1, p1, p2, p3, p4⟩, ⟨j2, q1, q2, q3, q4⟩⟩ := key
  refine ⟨⟨j1, p1, p2, p3⟩, fun i h1 h2 => ?_, ⟨j2, q1, q2, q3⟩, fun i h1 h2 => ?_, ?_⟩
  · rw [p4, hl i h1 h2]
    have b1 := b i h1 h2
    have d1 := d i h1 h2
    by_cases c : 0 ≤ F
    · rw [if_pos c]
      have c2 : 0 ≤ F.toInt := Int32.le_iff_toInt_le.mp c
      rcases f9 with q | q | q <;> rw [q] <;> rw [q] at c2 <;> omega
    · rw [if_neg c]
      have c2 : ¬ 0 ≤ F.toInt := fun z => c (Int32.le_iff_toInt_le.mpr z)
      rcases f9 with q | q | q <;> rw [q] <;> rw [q] at c2 <;> omega
  · rw [q4, hl i h1 h2]
    have b1 := b i h1 h2
    have d1 := d i h1 h2
    by_cases c : 0 ≤ F
    · rw [if_pos c]
      have c2 : 0 ≤ F.toInt := Int32.le_iff_toInt_le.mp c
      rcases f9 with q | q | q <;> rw [q] <;> rw [q] at c2 <;> omega
    · rw [if_neg c]
      have c2 : ¬ 0 ≤ F.toInt := fun z => c (Int32.le_iff_toInt_le.mpr z)
      rcases f9 with q | q | q <;> rw [q] <;> rw [q] at c2 <;> omega
  · show F.toInt64 * r.1 + G.toInt64 * W.toInt64 = _
    rw [s, hW, gW, ← sumF_mark hF hG _ (by omega) (fun i h1 h2 => (hb i h1 (by omega)).sml)]
    exact sumF_cong _ (fun i h1 h2 => by rw [e i h1 (by omega)])
theorem R_mark {n k : Nat} {F G W : Int32} {v v' : Nat → NR} {w : Nat → Int32} (h40 : n ≤ 40) (h1 : 1 ≤ k) (h2 : k < 128) (hx : (gp n k).1 < (gp n k).2) (hF : f3 F) (hW : W = gW n k) (hR : Rn n v w k) (hb : ∀ i, (gp n k).1 ≤ i → i < (gp n k).2 → bd (F * el n w k i + G)) (ev : v' k = mkN W F G (v k)) : Rn n v' (apW n k F G w) k := by
  obtain ⟨⟨a1, a2⟩, b, c, d, f⟩ := hR
  have h9 := gp_40 n k h40
  have hG : sml G := g_bd hF (c _ (Nat.le_refl _) hx) (hb _ (Nat.le_refl _) hx)
  have e : ∀ i, (gp n k).1 ≤ i → i < (gp n k).2 → el n (apW n k F G w) k i = F * el n w k i + G := fun i p q => apW_el h40 h1 h2 hx p q
  have hS : Sc n (apW n k F G w) k (v' k) := by rw [ev]; exact d.mark h40 hx hF hW c hG e
  by_cases g : (gp n k).1 + 2 ≤ (gp n k).2
  · have w1 : ¬ W ≤ 1 := by
      rw [hW, gW]
      exact fun z => by
        have := (nI_leI (a := (gp n k).2 - (gp n k).1) (b := 1) (by omega) (by decide)).mp z
        omega
    refine ⟨⟨?_, ?_⟩, ?_, fun i p q => by rw [e i p q]; exact hb i p q, hS, fun z => absurd g z⟩
    · rw [ev, (apW_k h2 g).1, ← a1]
      show (if W ≤ 1 then _ else _) = _
      rw [if_neg w1]
    · rw [ev, (apW_k h2 g).2, ← a2]
      show (if W ≤ 1 then _ else _) = _
      rw [if_neg w1]
    · rw [(apW_k h2 g).1]
      exact f3_mul hF b
  · obtain ⟨l1, l2, l3⟩ := apW_l (F := F) (G := G) (w := w) h40 hx g
    have w1 : W ≤ 1 := by
      rw [hW, gW, show (gp n k).2 - (gp n k).1 = 1 by omega]
      decide
    refine ⟨⟨?_, ?_⟩, by rw [l2]; exact b, fun i p q => by rw [e i p q]; exact hb i p q, hS, fun z => by rw [l2, l3]; exact f z⟩
    · rw [ev, l2, ← a1]
      show (if W ≤ 1 then _ else _) = _
      rw [if_pos w1]
    · rw [ev, l3, ← a2]
      show (if W ≤ 1 then _ else _) = _
      rw [if_pos w1]
