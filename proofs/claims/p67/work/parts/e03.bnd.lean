variable {sc : SC}
/-! ===== bounds, the start, what the sum tells ===== -/
def bN (N : Int) (x : Int32) : Prop := -N ≤ x.toInt ∧ x.toInt ≤ N
theorem bN.bd {N : Int} {x : Int32} (h : bN N x) (hN : N ≤ 1000000) : bd x := ⟨by have := h.1; omega, by have := h.2; omega⟩
theorem bN.mono {N M : Int} {x : Int32} (h : bN N x) (hm : N ≤ M) : bN M x := ⟨by have := h.1; omega, by have := h.2; omega⟩
theorem bU {N M : Int} {A B x : Int32} (hA : f3 A) (hx : bN N x) (hB : bN M B) (h0 : 0 ≤ N) (h1 : 0 ≤ M) (hNM : N + M ≤ 10000000) : bN (N + M) (A * x + B) := by
  obtain ⟨x1, x2⟩ := hx
  obtain ⟨y1, y2⟩ := hB
  obtain ⟨m1, m2, m3⟩ := i_f3 hA (show -100000000 ≤ x.toInt ∧ x.toInt ≤ 100000000 from ⟨by omega, by omega⟩)
  have e := i_add ⟨m2, m3⟩ (show -100000000 ≤ B.toInt ∧ B.toInt ≤ 100000000 from ⟨by omega, by omega⟩)
  unfold bN
  rw [e, m1]
  rcases f3_int hA with q | q | q <;> rw [q] <;> omega
section BND
variable {n : Nat} {T : TS} {w : Nat → Int32} {N : Int}
theorem RUb {f t : Nat} {A B : Int32} {M : Int} (h : Rel n T w) (ht : t < n) (hft : f ≤ t) (hA : f3 A) (hb : ∀ i, i < n → bN N (tva T i)) (hB : bN M B) (h0 : 0 ≤ N) (h1 : 0 ≤ M) (hNM : N + M ≤ 1000000) : ∃ w', Rel n (tUpdate T (nI f) (nI t) A B).1 w' ∧ (∀ i, i < n → tva (tUpdate T (nI f) (nI t) A B).1 i = if f ≤ i ∧ i ≤ t then A * tva T i + B else tva T i) ∧ ∀ i, i < n → bN (N + M) (tva (tUpdate T (nI f) (nI t) A B).1 i) := by
  obtain ⟨w', r1, r2⟩ := RU h ht hft hA (fun i a b => (bU hA (hb i (by omega)) hB h0 h1 (by omega)).bd hNM)
  refine ⟨w', r1, r2, fun i hi => ?_⟩
  rw [r2 i hi]
  by_cases c : f ≤ i ∧ i ≤ t
  · rw [if_pos c]; exact bU hA (hb i hi) hB h0 h1 (by omega)
  · rw [if_neg c]; exact (hb i hi).mono (by omega)
theorem minP {v : Nat → Int32} {P : Int32 → Prop} (h : ∀ i, i < n → P (v i)) : ∀ (fu i : Nat) (x : Int32), i + fu ≤ n → P x → P (tMinF v fu i x) := by
  intro fu
  induction fu with
  | zero => intro i x _ hx; exact hx
  | succ fu ih =>
    intro i x hi hx
    show P (tMinF v fu (i + 1) (zmin x (v i)))
    refine ih (i + 1) _ (by omega) ?_
    rcases zmin_or x (v i) with ⟨e, _⟩ | ⟨e, _⟩
    · rw [e]; exact hx
    · rw [e]; exact h i (by omega)
theorem maxP {v : Nat → Int32} {P : Int32 → Prop} (h : ∀ i, i < n → P (v i)) : ∀ (fu i : Nat) (x : Int32), i + fu ≤ n → P x → P (tMaxF v fu i x) := by
  intro fu
  induction fu with
  | zero => intro i x _ hx; exact hx
  | succ fu ih =>
    intro i x hi hx
    show P (tMaxF v fu (i + 1) (zmax x (v i)))
    refine ih (i + 1) _ (by omega) ?_
    rcases zmax_or x (v i) with ⟨e, _⟩ | ⟨e, _⟩
    · rw [e]; exact hx
    · rw [e]; exact h i (by omega)
theorem canN {a b : Nat} {v : Int32} {M : Int} (hb : ∀ i, i < n → bN N (tva T i)) (hv : bN M v) (hab : a ≤ b) (hbn : b < n) (h0 : 0 ≤ N) (h1 : 0 ≤ M) (hNM : N + M ≤ 1000000) : tCan T a b v := by
  have key : ∀ x, bN N x → tEl (x + v) := fun x hx => by
    have h9 := bU (Or.inr (Or.inr rfl)) hx hv h0 h1 (by omega)
    rw [Int32.one_mul] at h9
    exact tEl_of (h9.bd hNM)
  exact ⟨key _ (minP hb _ _ _ (by omega) (hb a (by omega))), key _ (maxP hb _ _ _ (by omega) (hb a (by omega)))⟩
end BND
theorem RS : ∃ w, Rel 10 iT4 w ∧ ∀ i, i < 10 → bN 2000 (tva iT4 i) := by
  have hFV : ∀ i, i < 10 → -10 ≤ (FV i).toInt ∧ (FV i).toInt ≤ 10 := by decide +kernel
  have hcp : ∀ i, i < 10 → va_cpy FV (tva tZ) 0 0 10 i = FV i := fun i hi => by
    show (if 0 ≤ i ∧ i < 0 + 10 then FV (0 + (i - 0)) else tva tZ i) = _
    rw [if_pos ⟨Nat.zero_le _, by omega⟩, Nat.sub_zero, Nat.zero_add]
  obtain ⟨⟨w0, r0⟩, -, v0⟩ := RB (n := 10) (T := tZ) (v := va_cpy FV (tva tZ) 0 0 10) (by decide) (by decide) (fun i hi => by rw [hcp i hi]; exact ⟨by have := (hFV i hi).1; omega, by have := (hFV i hi).2; omega⟩)
  have r0' : Rel 10 iT0 w0 := r0
  have b0 : ∀ i, i < 10 → bN 10 (tva iT0 i) := fun i hi => by
    have e : tva iT0 i = FV i := (v0 i hi).trans (hcp i hi)
    rw [e]; exact hFV i hi
  obtain ⟨w1, r1, -, b1⟩ := RUb (f := 1) (t := 6) (A := 1) (B := 2) (M := 2) r0' (by decide) (by decide) (Or.inr (Or.inr rfl)) b0 ⟨by decide, by decide⟩ (by decide) (by decide) (by decide)
  have r1' : Rel 10 iT1 w1 := r1
  have b1' : ∀ i, i < 10 → bN 12 (tva iT1 i) := b1
  obtain ⟨w2, r2, -, b2⟩ := RUb (f := 3) (t := 4) (A := 0) (B := 8) (M := 8) r1' (by decide) (by decide) (Or.inr (Or.inl rfl)) b1' ⟨by decide, by decide⟩ (by decide) (by decide) (by decide)
  have r2' : Rel 10 iT2 w2 := r2
  have b2' : ∀ i, i < 10 → bN 20 (tva iT2 i) := b2
  obtain ⟨w3, r3, -, b3⟩ := RUb (f := 0) (t := 4) (A := -1) (B := 0) (M := 0) r2' (by decide) (by decide) (Or.inl rfl) b2' ⟨by decide, by decide⟩ (by decide) (by decide) (by decide)
  have r3' : Rel 10 iT3 w3 := r3
  have b3' : ∀ i, i < 10 → bN 20 (tva iT3 i) := b3
  obtain ⟨w4, r4, -, b4⟩ := RUb (f := 0) (t := 9) (A := 1) (B := 1) (M := 1) r3' (by decide) (by decide) (Or.inr (Or.inr rfl)) b3' ⟨by decide, by decide⟩ (by decide) (by decide) (by decide)
  exact ⟨w4, r4, fun i hi => (b4 i hi).mono (by decide)⟩
/-! the sum -/
noncomputable def gsI (T : TS) : Nat → Nat → Int64 → Int64
  | 0, _, s => s
  | fu + 1, k, s => if k = 0 then s else gsI T fu (k / 2) (31 * s + tS T k + 5 * (tfa T k).toInt64 + 11 * (tog T k).toInt64)
noncomputable def gs2 (n : Nat) (T : TS) : Nat → Nat → Int64 → Int64
  | 0, _, s => s
  | fu + 1, i, s => gs2 n T fu (i + 1) (gsI T 7 (lf n i) s)
noncomputable def gs1 (n : Nat) (S X R : ZS) (T : TS) : Nat → Nat → Int64 → Int64
  | 0, _, s => s
  | fu + 1, i, s => gs1 n S X R T fu (i + 1) (31 * s + (tva T i).toInt64 + 7 * (g_c_6_marksAbove n i S X R T).toInt64)
noncomputable def gS0 (n : Nat) (S X R : ZS) (T : TS) : Int64 := (tu T).toInt64 + 1000 * (tp T).toInt64 + 1000000 * (ta T).toInt64 + 3 * (nI n).toInt64 + (g_c_6_markedNodes n S X R T).toInt64
noncomputable def gS (n : Nat) (S X R : ZS) (T : TS) : Int64 := gs2 n T n 0 (gs1 n S X R T n 0 (gS0 n S X R T))
/-- alike where it is looked at -/
def TQ (T U : TS) : Prop := (tu U = tu T ∧ tp U = tp T ∧ ta U = ta T) ∧ (∀ k, k < 128 → nd U k = nd T k) ∧ ∀ i, i < 40 → tva U i = tva T i
theorem TQ.m {T U : TS} (h : TQ T U) {k : Nat} (hk : k < 128) : tfa U k = tfa T k ∧ tog U k = tog T k ∧ tS U k = tS T k :=
  ⟨congrArg (fun r : NR => r.2.2.2.1) (h.2.1 k hk), congrArg (fun r : NR => r.2.2.2.2) (h.2.1 k hk), congrArg (fun r : NR => r.1) (h.2.1 k hk)⟩
theorem TQ.trans {T U V : TS} (h : TQ T U) (g : TQ U V) : TQ T V := ⟨⟨g.1.1.trans h.1.1, g.1.2.1.trans h.1.2.1, g.1.2.2.trans h.1.2.2⟩, fun k hk => (g.2.1 k hk).trans (h.2.1 k hk), fun i hi => (g.2.2 i hi).trans (h.2.2 i hi)⟩
theorem TQ_copy (T U : TS) : TQ T (tCopy T U) := by
  have c : ∀ {α : Type} (f g : Nat → α) (k : Nat), k < 128 → va_cpy f g (0 : Int32).toNatClampNeg (0 : Int32).toNatClampNeg (128 : Int32).toNatClampNeg k = f k := fun f g k hk => cpy_at f g (m := 128) hk (by decide)
  refine ⟨⟨rfl, rfl, rfl⟩, fun k hk => ?_, fun i hi => cpy_at _ _ (m := 40) hi (by decide)⟩
  show (_, _, _, _, _) = (tS T k, tlo T k, thi T k, tfa T k, tog T k)
  exact Prod.ext (c _ _ k hk) (Prod.ext (c _ _ k hk) (Prod.ext (c _ _ k hk) (Prod.ext (c _ _ k hk) (c _ _ k hk))))
section SUMS
variable {n : Nat} {S X R S' X' R' : ZS} {T U : TS}
theorem TQ.ma (h : TQ T U) (f : Nat) : ∀ (fu m : Nat) (c : Int32), m < 128 → g_c_6_marksAbove_L n f fu m c S' X' R' U = g_c_6_marksAbove_L n f fu m c S X R T := by
  intro fu
  induction fu with
  | zero => intro m c _; rfl
  | succ fu ih =>
    intro m c hm
    obtain ⟨e1, e2, -⟩ := h.m hm
    rw [g_c_6_marksAbove_L, g_c_6_marksAbove_L, e1, e2, ih (m / 2) (c + 1) (by omega), ih (m / 2) c (by omega)]
theorem TQ.mn (h : TQ T U) : ∀ (fu k : Nat) (c : Int32), k + fu = 128 → g_c_6_markedNodes_L n fu c k S' X' R' U = g_c_6_markedNodes_L n fu c k S X R T := by
  intro fu
  induction fu with
  | zero => intro k c _; rfl
  | succ fu ih =>
    intro k c hk
    obtain ⟨e1, e2, -⟩ := h.m (show k < 128 by omega)
    rw [g_c_6_markedNodes_L, g_c_6_markedNodes_L, e1, e2, ih (k + 1) (c + 1) (by omega), ih (k + 1) c (by omega)]
theorem TQ.gI (h : TQ T U) : ∀ (fu k : Nat) (s : Int64), k < 128 → gsI U fu k s = gsI T fu k s := by
  intro fu
  induction fu with
  | zero => intro k s _; rfl
  | succ fu ih =>
    intro k s hk
    obtain ⟨e1, e2, e3⟩ := h.m hk
    rw [gsI, gsI, e1, e2, e3, ih (k / 2) _ (by omega)]
theorem TQ.g2 (h : TQ T U) (h40 : n ≤ 40) : ∀ (fu i : Nat) (s : Int64), i + fu = n → gs2 n U fu i s = gs2 n T fu i s := by
  intro fu
  induction fu with
  | zero => intro i s _; rfl
  | succ fu ih =>
    intro i s hi
    rw [gs2, gs2, h.gI 7 (lf n i) s (lf_gp h40 (show i < n by omega)).2.2, ih (i + 1) _ (by omega)]
theorem TQ.g1 {w w' : Nat → Int32} (h : TQ T U) (hT : Rel n T w) (hU : Rel n U w') : ∀ (fu i : Nat) (s : Int64), i + fu = n → gs1 n S' X' R' U fu i s = gs1 n S X R T fu i s := by
  have h40 := hT.1.1.2
  intro fu
  induction fu with
  | zero => intro i s _; rfl
  | succ fu ih =>
    intro i s hi
    have hl := (lf_gp h40 (show i < n by omega)).2.2
    have e : g_c_6_marksAbove n i S' X' R' U = g_c_6_marksAbove n i S X R T := by
      rw [g_c_6_marksAbove, g_c_6_marksAbove, Rel_leaf hU (show i < n by omega), Rel_leaf hT (show i < n by omega)]
      exact h.ma i 7 _ _ (by omega)
    rw [gs1, gs1, e, h.2.2 i (by omega), ih (i + 1) _ (by omega)]
theorem TQ.gS {w w' : Nat → Int32} (h : TQ T U) (hT : Rel n T w) (hU : Rel n U w') : gS n S' X' R' U = gS n S X R T := by
  have h40 := hT.1.1.2
  have e : gS0 n S' X' R' U = gS0 n S X R T := by
    rw [gS0, gS0, h.1.1, h.1.2.1, h.1.2.2, g_c_6_markedNodes, g_c_6_markedNodes, h.mn 127 1 0 (by decide)]
  show gs2 n U n 0 (gs1 n S' X' R' U n 0 (gS0 n S' X' R' U)) = gs2 n T n 0 (gs1 n S X R T n 0 (gS0 n S X R T))
  rw [e, h.g1 hT hU n 0 _ (by omega), h.g2 h40 n 0 _ (by omega)]
end SUMS
