variable {sc : SC}
def gch (n k i : Nat) : Nat := if i < (gp n (2 * k)).2 then 2 * k else 2 * k + 1
def elF (n : Nat) (w : Nat → Int32) (i : Nat) : Nat → Nat → Int32
  | 0, _ => w (4 + i)
  | d + 1, k => if (gp n k).1 + 2 ≤ (gp n k).2 then w (44 + k) * elF n w i d (gch n k i) + w (172 + k) else w (4 + i)
def el (n : Nat) (w : Nat → Int32) (k i : Nat) : Int32 := elF n w i 7 k
theorem elF_s (n : Nat) (w : Nat → Int32) (i d k : Nat) : elF n w i (d + 1) k = if (gp n k).1 + 2 ≤ (gp n k).2 then w (44 + k) * elF n w i d (gch n k i) + w (172 + k) else w (4 + i) := rfl
theorem gch_or (n k i : Nat) : gch n k i = 2 * k ∨ gch n k i = 2 * k + 1 := by
  unfold gch
  split
  · exact Or.inl rfl
  · exact Or.inr rfl
theorem elF_more {n : Nat} (h40 : n ≤ 40) (w : Nat → Int32) (i : Nat) : ∀ (d k : Nat), 1 ≤ k → k < 128 → 64 ≤ k * 2 ^ d → elF n w i (d + 1) k = elF n w i d k := by
  intro d
  induction d with
  | zero =>
    intro k h1 h2 h3
    have h4 := gp_far n k h40 (by omega) h2
    rw [elF_s, if_neg (by omega)]
    rfl
  | succ d ih =>
    intro k h1 h2 h3
    rw [elF_s, elF_s n w i d k]
    by_cases c : (gp n k).1 + 2 ≤ (gp n k).2
    · have h64 := gp_near n k h40 h2 c
      have e : k * 2 ^ (d + 1) = (2 * k) * 2 ^ d := by rw [Nat.pow_succ, Nat.mul_comm (2 ^ d) 2, ← Nat.mul_assoc, Nat.mul_comm k 2]
      have e2 : (2 * k) * 2 ^ d ≤ (2 * k + 1) * 2 ^ d := Nat.mul_le_mul_right _ (by omega)
      rw [if_pos c, if_pos c]
      rcases gch_or n k i with q | q
      · rw [q, ih (2 * k) (by omega) (by omega) (by omega)]
      · rw [q, ih (2 * k + 1) (by omega) (by omega) (by omega)]
    · rw [if_neg c, if_neg c]
theorem el_in {n k : Nat} (w : Nat → Int32) (i : Nat) (h40 : n ≤ 40) (h1 : 1 ≤ k) (h2 : k < 128) (c : (gp n k).1 + 2 ≤ (gp n k).2) : el n w k i = w (44 + k) * el n w (gch n k i) i + w (172 + k) := by
  have h64 := gp_near n k h40 h2 c
  show elF n w i (6 + 1) k = w (44 + k) * elF n w i (6 + 1) (gch n k i) + w (172 + k)
  rw [elF_s, if_pos c, elF_more h40 w i 6 (gch n k i) (by rcases gch_or n k i with q | q <;> omega) (by rcases gch_or n k i with q | q <;> omega) (by rcases gch_or n k i with q | q <;> omega)]
theorem el_lf {n k : Nat} (w : Nat → Int32) (i : Nat) (c : ¬ (gp n k).1 + 2 ≤ (gp n k).2) : el n w k i = w (4 + i) := if_neg c
theorem gpc {n k : Nat} (h40 : n ≤ 40) (h1 : 1 ≤ k) (h2 : k < 128) (c : (gp n k).1 + 2 ≤ (gp n k).2) : ∃ m, (gp n k).1 < m ∧ m < (gp n k).2 ∧ gp n (2 * k) = ((gp n k).1, m) ∧ gp n (2 * k + 1) = (m, (gp n k).2) ∧ k < 64 := by
  have h64 := gp_near n k h40 h2 c
  refine ⟨((gp n k).1 + (gp n k).2 - 1) / 2 + 1, by omega, by omega, ?_, ?_, h64⟩
  · rw [gp_L n k h1 h64, if_pos c]
  · rw [gp_R n k h1 h64, if_pos c]
theorem gch_in {n k i : Nat} (h40 : n ≤ 40) (h1 : 1 ≤ k) (h2 : k < 128) (c : (gp n k).1 + 2 ≤ (gp n k).2) (ha : (gp n k).1 ≤ i) (hb : i < (gp n k).2) : (gp n (gch n k i)).1 ≤ i ∧ i < (gp n (gch n k i)).2 := by
  obtain ⟨m, g1, g2, g3, g4, g5⟩ := gpc h40 h1 h2 c
  unfold gch
  rw [g3]
  by_cases q : i < m
  · rw [if_pos q, g3]; exact ⟨ha, q⟩
  · rw [if_neg q, g4]; exact ⟨by omega, hb⟩
def inS (k x : Nat) : Prop := ∃ e, x / 2 ^ e = k
theorem inS.rfl' (k : Nat) : inS k k := ⟨0, by rw [Nat.pow_zero, Nat.div_one]⟩
theorem div_p (x e j : Nat) : x / 2 ^ (e + j) = x / 2 ^ e / 2 ^ j := by rw [Nat.pow_add, Nat.div_div_eq_div_mul]
theorem inS.l {k x : Nat} (h : inS (2 * k) x) : inS k x := by
  obtain ⟨e, h⟩ := h
  exact ⟨e + 1, by rw [div_p, h]; omega⟩
theorem inS.r {k x : Nat} (h : inS (2 * k + 1) x) : inS k x := by
  obtain ⟨e, h⟩ := h
  exact ⟨e + 1, by rw [div_p, h]; omega⟩
theorem inS.dn {k x : Nat} (h : inS k x) : x = k ∨ inS (2 * k) x ∨ inS (2 * k + 1) x := by
  obtain ⟨e, h⟩ := h
  cases e with
  | zero => left; rw [Nat.pow_zero, Nat.div_one] at h; exact h
  | succ e =>
    right
    rw [div_p] at h
    have : x / 2 ^ e = 2 * k ∨ x / 2 ^ e = 2 * k + 1 := by omega
    exact this.imp (fun q => ⟨e, q⟩) (fun q => ⟨e, q⟩)
theorem div_half (a j : Nat) : a / 2 ^ (j + 1) ≤ a / 2 := by
  rw [Nat.add_comm, div_p]
  exact Nat.div_le_self _ _
theorem inS.apart {k x : Nat} (h1 : 1 ≤ k) (h : inS (2 * k) x) (g : inS (2 * k + 1) x) : False := by
  obtain ⟨e, h⟩ := h
  obtain ⟨f, g⟩ := g
  rcases Nat.lt_or_ge e f with q | q
  · obtain ⟨j, rfl⟩ : ∃ j, f = e + (j + 1) := ⟨f - e - 1, by omega⟩
    rw [div_p, h] at g
    have := div_half (2 * k) j
    omega
  · rcases Nat.lt_or_ge f e with q2 | q2
    · obtain ⟨j, rfl⟩ : ∃ j, e = f + (j + 1) := ⟨e - f - 1, by omega⟩
      rw [div_p, g] at h
      have := div_half (2 * k + 1) j
      omega
    · have : e = f := by omega
      subst this
      omega
theorem inS.le {k x : Nat} (h : inS k x) : k ≤ x := by
  obtain ⟨e, h⟩ := h
  rw [← h]
  exact Nat.div_le_self _ _
theorem gp_par {n x : Nat} (h40 : n ≤ 40) (h : 2 ≤ x) (h2 : x < 128) (hx : (gp n x).1 < (gp n x).2) : (gp n (x / 2)).1 + 2 ≤ (gp n (x / 2)).2 ∧ (gp n (x / 2)).1 ≤ (gp n x).1 ∧ (gp n x).2 ≤ (gp n (x / 2)).2 := by
  have c : (gp n (x / 2)).1 + 2 ≤ (gp n (x / 2)).2 := by
    refine Classical.byContradiction (fun c => ?_)
    have a1 := gp_L n (x / 2) (by omega) (by omega)
    have a2 := gp_R n (x / 2) (by omega) (by omega)
    rw [if_neg c] at a1 a2
    rcases (by omega : x = 2 * (x / 2) ∨ x = 2 * (x / 2) + 1) with q | q
    · rw [q, a1] at hx; exact absurd hx (Nat.lt_irrefl _)
    · rw [q, a2] at hx; exact absurd hx (Nat.lt_irrefl _)
  obtain ⟨m, g1, g2, g3, g4, g5⟩ := gpc h40 (by omega : 1 ≤ x / 2) (by omega) c
  refine ⟨c, ?_⟩
  rcases (by omega : x = 2 * (x / 2) ∨ x = 2 * (x / 2) + 1) with q | q
  · rw [← q] at g3
    rw [g3]
    exact ⟨Nat.le_refl _, by simp only; omega⟩
  · rw [← q] at g4
    rw [g4]
    exact ⟨by simp only; omega, Nat.le_refl _⟩
theorem gp_sub {n k : Nat} (h40 : n ≤ 40) (h1 : 1 ≤ k) : ∀ (e x : Nat), x / 2 ^ e = k → x < 128 → (gp n x).1 < (gp n x).2 → (gp n k).1 ≤ (gp n x).1 ∧ (gp n x).2 ≤ (gp n k).2 := by
  intro e
  induction e with
  | zero =>
    intro x h _ _
    rw [Nat.pow_zero, Nat.div_one] at h
    subst h
    exact ⟨Nat.le_refl _, Nat.le_refl _⟩
  | succ e ih =>
    intro x h h2 hx
    have h3 : x / 2 / 2 ^ e = k := by rw [Nat.add_comm, div_p] at h; exact h
    have h4 : 2 ≤ x := by
      rcases Nat.lt_or_ge x 2 with q | q
      · have : x / 2 = 0 := by omega
        rw [this, Nat.zero_div] at h3
        omega
      · exact q
    obtain ⟨g1, g2, g3⟩ := gp_par h40 h4 h2 hx
    obtain ⟨g4, g5⟩ := ih (x / 2) h3 (by omega) (by omega)
    exact ⟨by omega, by omega⟩
theorem inS.sub {n k x : Nat} (h : inS k x) (h40 : n ≤ 40) (h1 : 1 ≤ k) (h2 : x < 128) (hx : (gp n x).1 < (gp n x).2) : (gp n k).1 ≤ (gp n x).1 ∧ (gp n x).2 ≤ (gp n k).2 := by
  obtain ⟨e, h⟩ := h
  exact gp_sub h40 h1 e x h h2 hx
theorem el_loc {n : Nat} {w w' : Nat → Int32} (h40 : n ≤ 40) (i : Nat) : ∀ (d k : Nat), 1 ≤ k → k < 128 → (∀ x, inS k x → x < 128 → w' (44 + x) = w (44 + x) ∧ w' (172 + x) = w (172 + x)) → w' (4 + i) = w (4 + i) → elF n w' i d k = elF n w i d k := by
  intro d
  induction d with
  | zero => intro k _ _ _ h; exact h
  | succ d ih =>
    intro k h1 h2 hm hi
    rw [elF_s, elF_s]
    by_cases c : (gp n k).1 + 2 ≤ (gp n k).2
    · have h64 := gp_near n k h40 h2 c
      rw [if_pos c, if_pos c, (hm k (inS.rfl' k) h2).1, (hm k (inS.rfl' k) h2).2]
      rcases gch_or n k i with q | q
      · rw [q, ih (2 * k) (by omega) (by omega) (fun x hx => hm x hx.l) hi]
      · rw [q, ih (2 * k + 1) (by omega) (by omega) (fun x hx => hm x hx.r) hi]
    · rw [if_neg c, if_neg c, hi]
def bd (x : Int32) : Prop := -1000000 ≤ x.toInt ∧ x.toInt ≤ 1000000
def f3 (f : Int32) : Prop := f = -1 ∨ f = 0 ∨ f = 1
theorem i_add {a b : Int32} (ha : -100000000 ≤ a.toInt ∧ a.toInt ≤ 100000000) (hb : -100000000 ≤ b.toInt ∧ b.toInt ≤ 100000000) : (a + b).toInt = a.toInt + b.toInt := by
  rw [Int32.toInt_add]
  exact Int.bmod_eq_of_le (by omega) (by omega)
theorem i_sub {a b : Int32} (ha : -100000000 ≤ a.toInt ∧ a.toInt ≤ 100000000) (hb : -100000000 ≤ b.toInt ∧ b.toInt ≤ 100000000) : (a - b).toInt = a.toInt - b.toInt := by
  rw [Int32.toInt_sub]
  exact Int.bmod_eq_of_le (by omega) (by omega)
theorem i_neg {a : Int32} (ha : -100000000 ≤ a.toInt ∧ a.toInt ≤ 100000000) : (-a).toInt = -a.toInt := by
  rw [Int32.toInt_neg]
  exact Int.bmod_eq_of_le (by omega) (by omega)
theorem i_m1 (a : Int32) : -1 * a = -a := (Int32.neg_eq_neg_one_mul a).symm
theorem i_f3 {f a : Int32} (hf : f3 f) (ha : -100000000 ≤ a.toInt ∧ a.toInt ≤ 100000000) : (f * a).toInt = f.toInt * a.toInt ∧ -100000000 ≤ (f * a).toInt ∧ (f * a).toInt ≤ 100000000 := by
  rcases hf with rfl | rfl | rfl
  · rw [i_m1, i_neg ha]
    have e : (-1 : Int32).toInt = -1 := by decide
    rw [e]
    omega
  · rw [Int32.zero_mul]
    have e : (0 : Int32).toInt = 0 := by decide
    rw [e]
    omega
  · rw [Int32.one_mul]
    have e : (1 : Int32).toInt = 1 := by decide
    rw [e]
    omega
theorem f3_int {f : Int32} (hf : f3 f) : f.toInt = -1 ∨ f.toInt = 0 ∨ f.toInt = 1 := by
  rcases hf with rfl | rfl | rfl
  · left; decide
  · right; left; decide
  · right; right; decide
theorem f3_mul {f g : Int32} (hf : f3 f) (hg : f3 g) : f3 (f * g) := by
  rcases hf with rfl | rfl | rfl
  · rcases hg with rfl | rfl | rfl
    · right; right; decide
    · right; left; decide
    · left; decide
  · right; left; exact Int32.zero_mul
  · rw [Int32.one_mul]; exact hg
theorem g_bd {f g x : Int32} (hf : f3 f) (hx : bd x) (h : bd (f * x + g)) : -8000000 ≤ g.toInt ∧ g.toInt ≤ 8000000 := by
  obtain ⟨x1, x2⟩ := hx
  obtain ⟨y1, y2⟩ := h
  have e : (f * x + g) - f * x = g := by rw [Int32.add_comm, Int32.add_sub_cancel]
  obtain ⟨m1, m2, m3⟩ := i_f3 hf (show -100000000 ≤ x.toInt ∧ x.toInt ≤ 100000000 from ⟨by omega, by omega⟩)
  have h9 := i_sub (a := f * x + g) (b := f * x) ⟨by omega, by omega⟩ ⟨m2, m3⟩
  rw [e, m1] at h9
  rcases f3_int hf with q | q | q <;> rw [q] at h9 <;> omega
theorem t64_add {a b : Int32} (ha : -100000000 ≤ a.toInt ∧ a.toInt ≤ 100000000) (hb : -100000000 ≤ b.toInt ∧ b.toInt ≤ 100000000) : (a + b).toInt64 = a.toInt64 + b.toInt64 := by
  apply Int64.toInt_inj.mp
  rw [Int32.toInt_toInt64, i_add ha hb, Int64.toInt_add, Int32.toInt_toInt64, Int32.toInt_toInt64]
  exact (Int.bmod_eq_of_le (by omega) (by omega)).symm
theorem t64_f3 {f a : Int32} (hf : f3 f) (ha : -100000000 ≤ a.toInt ∧ a.toInt ≤ 100000000) : (f * a).toInt64 = f.toInt64 * a.toInt64 := by
  apply Int64.toInt_inj.mp
  obtain ⟨m1, m2, m3⟩ := i_f3 hf ha
  rw [Int32.toInt_toInt64, Int64.toInt_mul, Int32.toInt_toInt64, Int32.toInt_toInt64, ← m1]
  exact (Int.bmod_eq_of_le (by omega) (by omega)).symm
def sml (x : Int32) : Prop := -8000000 ≤ x.toInt ∧ x.toInt ≤ 8000000
theorem bd.sml {x : Int32} (h : bd x) : sml x := ⟨by have := h.1; omega, by have := h.2; omega⟩
theorem lin {F x G : Int32} (hF : f3 F) (hx : sml x) (hG : sml G) : (F * x + G).toInt = F.toInt * x.toInt + G.toInt := by
  obtain ⟨x1, x2⟩ := hx
  obtain ⟨y1, y2⟩ := hG
  obtain ⟨m1, m2, m3⟩ := i_f3 hF (show -100000000 ≤ x.toInt ∧ x.toInt ≤ 100000000 from ⟨by omega, by omega⟩)
  rw [i_add ⟨m2, m3⟩ ⟨by omega, by omega⟩, m1]
theorem lin64 {F x G : Int32} (hF : f3 F) (hx : sml x) (hG : sml G) : (F * x + G).toInt64 = F.toInt64 * x.toInt64 + G.toInt64 := by
  obtain ⟨x1, x2⟩ := hx
  obtain ⟨y1, y2⟩ := hG
  have hx' : -100000000 ≤ x.toInt ∧ x.toInt ≤ 100000000 := ⟨by omega, by omega⟩
  rw [t64_add (i_f3 hF hx').2 ⟨by omega, by omega⟩, t64_f3 hF hx']
theorem rg32 (F f g G x : Int32) : F * (f * x + g) + G = (F * f) * x + (F * g + G) := by
  rw [Int32.mul_add, Int32.mul_assoc, Int32.add_assoc]
