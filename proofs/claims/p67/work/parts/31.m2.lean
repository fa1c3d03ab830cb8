variable {sc : SC}
def gpF (n : Nat) : Nat → Nat → Nat × Nat
  | 0, _ => (0, 0)
  | f + 1, k => if k = 0 then (0, 0) else if k = 1 then (0, n) else
      if (gpF n f (k / 2)).1 + 2 ≤ (gpF n f (k / 2)).2 then
        (if k % 2 = 0 then ((gpF n f (k / 2)).1, ((gpF n f (k / 2)).1 + (gpF n f (k / 2)).2 - 1) / 2 + 1) else (((gpF n f (k / 2)).1 + (gpF n f (k / 2)).2 - 1) / 2 + 1, (gpF n f (k / 2)).2))
      else (0, 0)
def gp (n k : Nat) : Nat × Nat := gpF n 7 k
theorem gpF_le (n : Nat) : ∀ (f k : Nat), (gpF n f k).1 ≤ (gpF n f k).2 ∧ (gpF n f k).2 ≤ n := by
  intro f
  induction f with
  | zero => intro k; exact ⟨Nat.le_refl _, Nat.zero_le _⟩
  | succ f ih =>
    intro k
    have := ih (k / 2)
    rw [gpF]
    split
    · exact ⟨Nat.le_refl _, Nat.zero_le _⟩
    · split
      · exact ⟨Nat.zero_le _, Nat.le_refl _⟩
      · split
        · split
          · simp only; omega
          · simp only; omega
        · exact ⟨Nat.le_refl _, Nat.zero_le _⟩
theorem gpF_more (n : Nat) : ∀ (f g k : Nat), k < 2 ^ f → f ≤ g → gpF n g k = gpF n f k := by
  intro f
  induction f with
  | zero =>
    intro g k hk hg
    have : k = 0 := by omega
    subst this
    cases g with
    | zero => rfl
    | succ g => simp [gpF]
  | succ f ih =>
    intro g k hk hg
    cases g with
    | zero => omega
    | succ g =>
      rw [gpF, gpF, ih g (k / 2) (by omega) (by omega)]
theorem gp_1 (n : Nat) : gp n 1 = (0, n) := rfl
theorem gp_le (n k : Nat) : (gp n k).1 ≤ (gp n k).2 := (gpF_le n 7 k).1
theorem gp_n (n k : Nat) : (gp n k).2 ≤ n := (gpF_le n 7 k).2
theorem gp_L (n k : Nat) (h0 : 1 ≤ k) (h1 : k < 64) : gp n (2 * k) = if (gp n k).1 + 2 ≤ (gp n k).2 then ((gp n k).1, ((gp n k).1 + (gp n k).2 - 1) / 2 + 1) else (0, 0) := by
  have e : gpF n 6 k = gp n k := (gpF_more n 6 7 k (by omega) (by decide)).symm
  have e2 : 2 * k / 2 = k := by omega
  show gpF n 7 (2 * k) = _
  rw [gpF, if_neg (by omega), if_neg (by omega), e2, e, if_pos (by omega : 2 * k % 2 = 0)]
theorem gp_R (n k : Nat) (h0 : 1 ≤ k) (h1 : k < 64) : gp n (2 * k + 1) = if (gp n k).1 + 2 ≤ (gp n k).2 then (((gp n k).1 + (gp n k).2 - 1) / 2 + 1, (gp n k).2) else (0, 0) := by
  have e : gpF n 6 k = gp n k := (gpF_more n 6 7 k (by omega) (by decide)).symm
  have e2 : (2 * k + 1) / 2 = k := by omega
  show gpF n 7 (2 * k + 1) = _
  rw [gpF, if_neg (by omega), if_neg (by omega), e2, e, if_neg (by omega : ¬ (2 * k + 1) % 2 = 0)]
theorem gpF_wide (n : Nat) : ∀ (f k d : Nat), k < 2 ^ (d + 1) → 2 ^ d ≤ k → d < f → n ≤ 40 → (gpF n f k).2 ≤ (gpF n f k).1 + (39 / 2 ^ d + 1) := by
  intro f
  induction f with
  | zero => intro k d _ _ h; omega
  | succ f ih =>
    intro k d h1 h2 h3 h4
    cases d with
    | zero =>
      have : k = 1 := by omega
      subst this
      rw [gpF, if_neg (by decide), if_pos rfl]
      simp only
      omega
    | succ d =>
      have e1 : 2 ^ (d + 1) = 2 * 2 ^ d := by rw [Nat.pow_succ]; omega
      have e2 : 2 ^ (d + 1 + 1) = 2 * 2 ^ (d + 1) := by rw [Nat.pow_succ]; omega
      have h5 : 1 ≤ 2 ^ d := Nat.one_le_two_pow
      have h6 := ih (k / 2) d (by omega) (by omega) (by omega) h4
      rw [gpF, if_neg (by omega), if_neg (by omega)]
      have e3 : 39 / 2 ^ (d + 1) = 39 / 2 ^ d / 2 := by rw [Nat.pow_succ, Nat.div_div_eq_div_mul]
      rw [e3]
      split
      · split
        · simp only; omega
        · simp only; omega
      · simp
theorem gp_far (n k : Nat) (h : n ≤ 40) (h1 : 64 ≤ k) (h2 : k < 128) : (gp n k).2 ≤ (gp n k).1 + 1 := gpF_wide n 7 k 6 h2 h1 (by decide) h
theorem gp_near (n k : Nat) (h : n ≤ 40) (h2 : k < 128) (h3 : (gp n k).1 + 2 ≤ (gp n k).2) : k < 64 := by
  rcases Nat.lt_or_ge k 64 with q | q
  · exact q
  · have := gp_far n k h q h2
    omega
theorem gp_40 (n k : Nat) (h : n ≤ 40) : (gp n k).1 ≤ 40 ∧ (gp n k).2 ≤ 40 := by
  have := gp_le n k
  have := gp_n n k
  omega
def lfF (n i : Nat) : Nat → Nat → Nat
  | 0, k => k
  | f + 1, k => if (gp n k).1 + 2 ≤ (gp n k).2 then lfF n i f (if i < (gp n (2 * k)).2 then 2 * k else 2 * k + 1) else k
def lf (n i : Nat) : Nat := lfF n i 6 1
theorem lf_all : ((List.range 41).all fun n => (List.range n).all fun i => (gp n (lf n i)) == (i, i + 1) && (1 ≤ lf n i) && (lf n i < 128)) = true := by decide +kernel
theorem lf_gp {n i : Nat} (hn : n ≤ 40) (hi : i < n) : gp n (lf n i) = (i, i + 1) ∧ 1 ≤ lf n i ∧ lf n i < 128 := by
  have h := List.all_eq_true.mp (List.all_eq_true.mp lf_all n (List.mem_range.mpr (by omega))) i (List.mem_range.mpr hi)
  simp only [Bool.and_eq_true, beq_iff_eq, decide_eq_true_eq] at h
  exact ⟨h.1.1, h.1.2, h.2⟩
theorem lf_un_all : ((List.range 41).all fun n => (List.range 128).all fun k => if (gp n k).2 = (gp n k).1 + 1 then lf n (gp n k).1 == k else true) = true := by decide +kernel
theorem lf_un {n k : Nat} (hn : n ≤ 40) (hk : k < 128) (h1 : (gp n k).2 = (gp n k).1 + 1) : lf n (gp n k).1 = k := by
  have h := List.all_eq_true.mp (List.all_eq_true.mp lf_un_all n (List.mem_range.mpr (by omega))) k (List.mem_range.mpr hk)
  rw [if_pos h1] at h
  exact beq_iff_eq.mp h
theorem sA_same (j i : Nat) (v : Int32) (S : ZS) : (sA j i v S).2 j i = v := by simp [sA, upd]
theorem sA_o {j i i2 : Nat} {v : Int32} {S : ZS} (h : ¬ i2 = i) : (sA j i v S).2 j i2 = S.2 j i2 := by simp [sA, upd, h]
theorem sA_x {j j2 i : Nat} {v : Int32} {S : ZS} (h : ¬ j2 = j) : (sA j i v S).2 j2 = S.2 j2 := by simp [sA, h]
theorem zgp_lt {a b : Nat} (ha : a ≤ 40) (hb : b ≤ 40) (h : ¬ (nI b - 1 ≤ nI a)) : a + 2 ≤ b := by
  rcases Nat.lt_or_ge b 1 with q | q
  · have : b = 0 := by omega
    subst this
    exact absurd (Int32.le_trans (show nI 0 - 1 ≤ nI 0 by decide) ((nI_leI (by decide) (by omega)).mpr (Nat.zero_le a))) h
  · have e : nI b - 1 = nI (b - 1) := pk_sub (a := b) (b := 1) q
    rw [e, nI_leI (by omega) (by omega)] at h
    omega
theorem zgp_ge {a b : Nat} (ha : a ≤ 40) (hb : b ≤ 40) (h : nI b - 1 ≤ nI a) : b ≤ a + 1 := by
  rcases Nat.lt_or_ge b 1 with q | q
  · omega
  · have e : nI b - 1 = nI (b - 1) := pk_sub (a := b) (b := 1) q
    rw [e, nI_leI (by omega) (by omega)] at h
    omega
theorem zgp_eq {a b : Nat} (ha : a ≤ 40) (hb : b ≤ 40) : nI a = nI b - 1 ↔ b = a + 1 := by
  rcases Nat.lt_or_ge b 1 with q | q
  · have : b = 0 := by omega
    subst this
    constructor
    · intro h
      have h9 := congrArg Int32.toInt h
      rw [nI_toInt (by omega)] at h9
      have e : (nI 0 - 1).toInt = -1 := by decide
      rw [e] at h9
      omega
    · intro h; omega
  · have e : nI b - 1 = nI (b - 1) := pk_sub (a := b) (b := 1) q
    rw [e, nI_eq (by omega) (by omega)]
    omega
def gr1 (k : Nat) (S : ZS) : Prop := ∀ j, j < k → S.2 8 j = 0 ∧ S.2 9 j = -1
theorem gr1_step {k : Nat} {S : ZS} (h : gr1 k S) : gr1 (k + 1) (sA 9 k (-1) (sA 8 k 0 S)) := by
  intro j hj
  by_cases e : j = k
  · subst e
    exact ⟨by rw [sA_x (by decide), sA_same], by rw [sA_same]⟩
  · have := h j (by omega)
    exact ⟨by rw [sA_x (by decide), sA_o e]; exact this.1, by rw [sA_o e, sA_x (by decide)]; exact this.2⟩
def gr2 (n k : Nat) (S : ZS) : Prop := (∀ j, j < 128 → (j < 2 * k → S.2 8 j = nI (gp n j).1 ∧ S.2 9 j = nI (gp n j).2 - 1) ∧ (2 * k ≤ j → S.2 8 j = 0 ∧ S.2 9 j = -1)) ∧ (∀ i, i < n → lf n i < k → S.2 10 i = nI (lf n i))
theorem gr2_0 {n : Nat} {S : ZS} (h : gr1 128 S) (hn : 1 ≤ n) (h40 : n ≤ 40) : gr2 n 1 (sA 9 1 (nI (n - 1)) S) := by
  refine ⟨fun j hj => ⟨fun h1 => ?_, fun h1 => ?_⟩, fun i hi h1 => ?_⟩
  · by_cases e : j = 1
    · subst e
      exact ⟨by rw [sA_x (by decide)]; exact (h 1 (by decide)).1, by rw [sA_same]; exact (pk_sub (a := n) (b := 1) hn).symm⟩
    · have e2 : j = 0 := by omega
      subst e2
      exact ⟨by rw [sA_x (by decide)]; exact (h 0 (by decide)).1, by rw [sA_o (by decide)]; exact (h 0 (by decide)).2⟩
  · exact ⟨by rw [sA_x (by decide)]; exact (h j hj).1, by rw [sA_o (by omega)]; exact (h j hj).2⟩
  · have := (lf_gp h40 hi).2.1
    omega
theorem gr2_leaf {n k : Nat} {S : ZS} (h : gr2 n k S) (h40 : n ≤ 40) (h1 : 1 ≤ k) (hk : k < 128) (hl : (gp n k).2 = (gp n k).1 + 1) : gr2 n (k + 1) (sA 10 (gp n k).1 (nI k) S) := by
  refine ⟨fun j hj => ⟨fun h2 => ?_, fun h2 => ?_⟩, fun i hi h2 => ?_⟩
  · rw [sA_x (by decide), sA_x (by decide)]
    by_cases e : j < 2 * k
    · exact (h.1 j hj).1 e
    · have h3 := (h.1 j hj).2 (by omega)
      have hw : ¬ (gp n k).1 + 2 ≤ (gp n k).2 := by omega
      rcases (by omega : j = 2 * k ∨ j = 2 * k + 1) with q | q
      · rw [q, gp_L n k h1 (by omega), if_neg hw, ← q]; exact h3
      · rw [q, gp_R n k h1 (by omega), if_neg hw, ← q]; exact h3
  · rw [sA_x (by decide), sA_x (by decide)]
    exact (h.1 j hj).2 (by omega)
  · by_cases e : i = (gp n k).1
    · rw [e, sA_same, lf_un h40 hk hl]
    · rw [sA_o e]
      refine h.2 i hi ?_
      rcases Nat.lt_or_ge (lf n i) k with q | q
      · exact q
      · have e2 : lf n i = k := by omega
        have e3 := (lf_gp h40 hi).1
        rw [e2] at e3
        rw [e3] at e
        exact absurd rfl e
theorem gr2_none {n k : Nat} {S : ZS} (h : gr2 n k S) (h40 : n ≤ 40) (h1 : 1 ≤ k) (hk : k < 128) (hl : ¬ (gp n k).2 = (gp n k).1 + 1) (hw : (gp n k).2 ≤ (gp n k).1 + 1) : gr2 n (k + 1) S := by
  refine ⟨fun j hj => ⟨fun h2 => ?_, fun h2 => (h.1 j hj).2 (by omega)⟩, fun i hi h2 => ?_⟩
  · by_cases e : j < 2 * k
    · exact (h.1 j hj).1 e
    · have h3 := (h.1 j hj).2 (by omega)
      rcases (by omega : j = 2 * k ∨ j = 2 * k + 1) with q | q
      · rw [q, gp_L n k h1 (by omega), if_neg (by omega), ← q]; exact h3
      · rw [q, gp_R n k h1 (by omega), if_neg (by omega), ← q]; exact h3
  · refine h.2 i hi ?_
    rcases Nat.lt_or_ge (lf n i) k with q | q
    · exact q
    · have e2 : lf n i = k := by omega
      have e3 := (lf_gp h40 hi).1
      rw [e2] at e3
      rw [e3] at hl
      exact absurd rfl hl
theorem gr2_in {n k : Nat} {S : ZS} (h : gr2 n k S) (h40 : n ≤ 40) (h1 : 1 ≤ k) (hw : (gp n k).1 + 2 ≤ (gp n k).2) (h64 : k < 64) :
    gr2 n (k + 1) (sA 9 (2 * k + 1) (nI (gp n k).2 - 1) (sA 8 (2 * k + 1) (nI (((gp n k).1 + ((gp n k).2 - 1)) / 2 + 1)) (sA 9 (2 * k) (nI (((gp n k).1 + ((gp n k).2 - 1)) / 2)) (sA 8 (2 * k) (nI (gp n k).1) S)))) := by
  have em : (gp n k).1 + ((gp n k).2 - 1) = (gp n k).1 + (gp n k).2 - 1 := by omega
  rw [em]
  refine ⟨fun j hj => ⟨fun h2 => ?_, fun h2 => ?_⟩, fun i hi h2 => ?_⟩
  · by_cases e : j = 2 * k + 1
    · subst e
      rw [gp_R n k h1 h64, if_pos hw]
      exact ⟨by rw [sA_x (by decide), sA_same], by rw [sA_same]⟩
    · by_cases e2 : j = 2 * k
      · subst e2
        rw [gp_L n k h1 h64, if_pos hw]
        refine ⟨by rw [sA_x (by decide), sA_o e, sA_x (by decide), sA_same], ?_⟩
        rw [sA_o e, sA_x (by decide), sA_same]
        exact (nI_pred _).symm
      · have h3 := (h.1 j hj).1 (by omega)
        refine ⟨?_, ?_⟩
        · rw [sA_x (by decide), sA_o e, sA_x (by decide), sA_o e2]; exact h3.1
        · rw [sA_o e, sA_x (by decide), sA_o e2, sA_x (by decide)]; exact h3.2
  · have h3 := (h.1 j hj).2 (by omega)
    have e : ¬ j = 2 * k + 1 := by omega
    have e2 : ¬ j = 2 * k := by omega
    refine ⟨?_, ?_⟩
    · rw [sA_x (by decide), sA_o e, sA_x (by decide), sA_o e2]; exact h3.1
    · rw [sA_o e, sA_x (by decide), sA_o e2, sA_x (by decide)]; exact h3.2
  · rw [sA_x (by decide), sA_x (by decide), sA_x (by decide), sA_x (by decide)]
    refine h.2 i hi ?_
    rcases Nat.lt_or_ge (lf n i) k with q | q
    · exact q
    · have e2 : lf n i = k := by omega
      have e3 := (lf_gp h40 hi).1
      rw [e2] at e3
      rw [e3] at hw
      simp only at hw
      omega
