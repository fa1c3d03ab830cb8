variable {sc : SC}
theorem zdfs_idg {σ : Type} {a b : Nat → σ → σ} : ∀ (d k : Nat) (s : σ), 1 ≤ k → (k + 1) * 2 ^ d ≤ 256 → (∀ x, inS k x → x < 128 → ∀ s, a x s = s ∧ b x s = s) → zdfs a b d k s = s := by
  intro d
  induction d with
  | zero => intro k s _ _ _; rfl
  | succ d ih =>
    intro k s h1 h2 h
    have h3 : 1 ≤ 2 ^ d := Nat.one_le_two_pow
    have h4 : (k + 1) * 2 ^ (d + 1) = (2 * k + 1 + 1) * 2 ^ d := by
      rw [Nat.pow_succ, Nat.mul_comm (2 ^ d) 2, ← Nat.mul_assoc]
      congr 1
      omega
    have h5 : (2 * k + 1) * 2 ^ d ≤ (2 * k + 1 + 1) * 2 ^ d := Nat.mul_le_mul_right _ (by omega)
    have h6 : (2 * k + 1 + 1) * 1 ≤ (2 * k + 1 + 1) * 2 ^ d := Nat.mul_le_mul_left _ h3
    have e := h k (inS.rfl' k) (by omega)
    show b k (zdfs a b d (2 * k + 1) (zdfs a b d (2 * k) (a k s))) = s
    rw [(e s).1, ih (2 * k) s (by omega) (by omega) (fun x hx => h x hx.l), ih (2 * k + 1) s (by omega) (by omega) (fun x hx => h x hx.r), (e s).2]
def cmp2 (p s : Int32 × Int32) : Int32 × Int32 := (p.1 * s.1, p.1 * s.2 + p.2)
theorem cmp2_1 (s : Int32 × Int32) : cmp2 (1, 0) s = s := by
  show (1 * s.1, 1 * s.2 + 0) = s
  rw [Int32.one_mul, Int32.one_mul, Int32.add_zero]
theorem cmp2_r (p : Int32 × Int32) : cmp2 p (1, 0) = p := by
  show (p.1 * 1, p.1 * 0 + p.2) = p
  rw [Int32.mul_one, Int32.mul_zero, Int32.zero_add]
theorem cmp2_assoc (p q s : Int32 × Int32) : cmp2 p (cmp2 q s) = cmp2 (cmp2 p q) s := by
  show (p.1 * (q.1 * s.1), p.1 * (q.1 * s.2 + q.2) + p.2) = ((p.1 * q.1) * s.1, (p.1 * q.1) * s.2 + (p.1 * q.2 + p.2))
  rw [rg32, Int32.mul_assoc, Int32.mul_assoc]
theorem acc_lin (T : TS) : ∀ (fu a : Nat) (s : Int32 × Int32), tAcc T fu a s = cmp2 (tAcc T fu a (1, 0)) s := by
  intro fu
  induction fu with
  | zero => intro a s; exact (cmp2_1 s).symm
  | succ fu ih =>
    intro a s
    rw [tAcc, tAcc]
    by_cases c : a = 0
    · rw [if_pos c, if_pos c, cmp2_1]
    · rw [if_neg c, if_neg c]
      rw [ih (a / 2) (tfa T a * s.1, tfa T a * s.2 + tog T a), ih (a / 2) (tfa T a * ((1 : Int32), (0 : Int32)).1, tfa T a * ((1 : Int32), (0 : Int32)).2 + tog T a)]
      have e1 : (tfa T a * s.1, tfa T a * s.2 + tog T a) = cmp2 (tfa T a, tog T a) s := rfl
      have e2 : (tfa T a * ((1 : Int32), (0 : Int32)).1, tfa T a * ((1 : Int32), (0 : Int32)).2 + tog T a) = cmp2 (tfa T a, tog T a) (1, 0) := rfl
      rw [e1, e2, cmp2_r, cmp2_assoc]
theorem acc_more (T : TS) : ∀ (fu a : Nat) (s : Int32 × Int32), a < 2 ^ fu → tAcc T (fu + 1) a s = tAcc T fu a s := by
  intro fu
  induction fu with
  | zero =>
    intro a s h
    rw [Nat.pow_zero] at h
    exact if_pos (show a = 0 by omega)
  | succ fu ih =>
    intro a s h
    rw [Nat.pow_succ] at h
    rw [tAcc, tAcc.eq_def T (fu + 1)]
    show (if a = 0 then s else tAcc T (fu + 1) (a / 2) _) = (if a = 0 then s else tAcc T fu (a / 2) _)
    by_cases c : a = 0
    · rw [if_pos c, if_pos c]
    · rw [if_neg c, if_neg c]
      exact ih _ _ (by omega)
def acc (T : TS) (k : Nat) : Int32 × Int32 := tAcc T 7 k (1, 0)
theorem acc_ch (T : TS) {k : Nat} (h1 : 2 ≤ k) (h2 : k < 128) : acc T k = cmp2 (acc T (k / 2)) (tfa T k, tog T k) := by
  have e : acc T k = tAcc T 6 (k / 2) (tfa T k * (1 : Int32), tfa T k * (0 : Int32) + tog T k) := if_neg (by omega)
  rw [e, acc_lin, Int32.mul_one, Int32.mul_zero, Int32.zero_add]
  show cmp2 (tAcc T 6 (k / 2) (1, 0)) _ = cmp2 (tAcc T 7 (k / 2) (1, 0)) _
  rw [acc_more T 6 (k / 2) (1, 0) (by omega)]
def Cov (n : Nat) (F L : Nat → Int32) (f t : Nat) : Nat → List Nat → Nat → Prop
  | x, [], y => x = y
  | x, k :: l, y => ((1 ≤ k ∧ k < 128) ∧ (gp n k).1 = x ∧ (gp n k).1 < (gp n k).2 ∧ takF F L (nI f) (nI t) k) ∧ Cov n F L f t (gp n k).2 l y
theorem Cov_app {n f t : Nat} {F L : Nat → Int32} : ∀ (l l' : List Nat) (x y z : Nat), Cov n F L f t x l y → Cov n F L f t y l' z → Cov n F L f t x (l ++ l') z := by
  intro l
  induction l with
  | nil => intro l' x y z h g; have e : x = y := h; rw [e]; exact g
  | cons k l ih => intro l' x y z h g; exact ⟨h.1, ih l' _ y z h.2 g⟩
noncomputable def cA (F L : Nat → Int32) (f t : Int32) (k c : Nat) : Nat := letI := Classical.propDecidable (takF F L f t k); if takF F L f t k then c + 1 else c
noncomputable def cV (F L : Nat → Int32) (f t : Int32) (k c : Nat) : Nat := letI := Classical.propDecidable (takF F L f t k ∨ pasF F L f t k); if takF F L f t k ∨ pasF F L f t k then c + 1 else c
noncomputable def cP (T : TS) (f t : Int32) (k c : Nat) : Nat := letI := Classical.propDecidable (pasF (tF T) (tL T) f t k ∧ tMfa T k); if pasF (tF T) (tL T) f t k ∧ tMfa T k then c + 1 else c
def kpS {σ : Type} (_ : Nat) (s : σ) : σ := s
section CNT
variable {n f t : Nat} {A B : Int32} {T : TS}
theorem no_out (hL : Lay n (tF T) (tL T)) (h40 : n ≤ 40) (ht : t < n) (hft : f ≤ t) {k x : Nat} (h1 : 1 ≤ k) (h : ¬ (gp n k).1 < (gp n k).2 ∨ t < (gp n k).1 ∨ (gp n k).2 ≤ f) (hx : inS k x) (h2 : x < 128) : ¬ pasF (tF T) (tL T) (nI f) (nI t) x ∧ ¬ takF (tF T) (tL T) (nI f) (nI t) x := by
  have hle := hx.le
  exact ⟨fun z => by
    have z2 := (lay_pas hL h40 ht hft (by omega) h2).mp z
    have := hx.sub h40 h1 h2 z2.1
    omega, fun z => by
    have z2 := (lay_ins hL h40 ht hft (by omega) h2).mp z.1
    have := hx.sub h40 h1 h2 z2.1
    omega⟩
theorem no_in (hL : Lay n (tF T) (tL T)) (h40 : n ≤ 40) (ht : t < n) (hft : f ≤ t) {k x : Nat} (h1 : 1 ≤ k) (h : f ≤ (gp n k).1 ∧ (gp n k).2 ≤ t + 1) (hx2 : inS (2 * k) x ∨ inS (2 * k + 1) x) (h2 : x < 128) : ¬ pasF (tF T) (tL T) (nI f) (nI t) x ∧ ¬ takF (tF T) (tL T) (nI f) (nI t) x := by
  have hx1 : inS k x := hx2.elim (fun z => z.l) (fun z => z.r)
  have hge : 2 * k ≤ x := hx2.elim (fun z => z.le) (fun z => by have := z.le; omega)
  exact ⟨fun z => by
    have z2 := (lay_pas hL h40 ht hft (by omega) h2).mp z
    have := hx1.sub h40 h1 h2 z2.1
    omega, fun z => by
    have z2 := (lay_ins hL h40 ht hft (by omega) h2).mp z.1
    refine z.2 ⟨by omega, (lay_ins hL h40 ht hft (by omega) (by omega)).mpr ?_⟩
    have g1 := gp_par h40 (by omega) h2 z2.1
    have g2 := (inS.half hx2).sub h40 h1 (by omega : x / 2 < 128) (by omega)
    omega⟩
theorem c_no {k c : Nat} (h : ¬ pasF (tF T) (tL T) (nI f) (nI t) k ∧ ¬ takF (tF T) (tL T) (nI f) (nI t) k) : cA (tF T) (tL T) (nI f) (nI t) k c = c ∧ cV (tF T) (tL T) (nI f) (nI t) k c = c ∧ cP T (nI f) (nI t) k c = c :=
  ⟨if_neg h.2, if_neg (fun z => z.elim h.2 h.1), if_neg (fun z => h.1 z.1)⟩
def Cs (n f t : Nat) (T : TS) (d k : Nat) (S S' : ZS) : Prop :=
  (∀ x, ¬ inS k x → x < 128 → S'.2 0 (44 + x) = S.2 0 (44 + x) ∧ S'.2 0 (172 + x) = S.2 0 (172 + x)) ∧
  ∃ (l : List Nat) (v p : Nat), mc S' = mc S + l.length ∧ S'.1 22 = S.1 22 + nI v ∧ S'.2 0 2 = S.2 0 2 + nI p ∧
    (∀ j, j < mc S → S'.2 11 j = S.2 11 j) ∧ (∀ j x, l[j]? = some x → S'.2 11 (mc S + j) = nI x) ∧
    Cov n (tF T) (tL T) f t (max f (gp n k).1) l (min (t + 1) (gp n k).2) ∧
    (∀ c, zdfs (cA (tF T) (tL T) (nI f) (nI t)) kpS d k c = c + l.length) ∧ (∀ c, zdfs (cV (tF T) (tL T) (nI f) (nI t)) kpS d k c = c + v) ∧ (∀ c, zdfs (cP T (nI f) (nI t)) kpS d k c = c + p)
theorem Cs.skip (hL : Lay n (tF T) (tL T)) (h40 : n ≤ 40) (ht : t < n) (hft : f ≤ t) {k d : Nat} (h1 : 1 ≤ k) (hd : (k + 1) * 2 ^ d ≤ 256) (h : ¬ (gp n k).1 < (gp n k).2 ∨ t < (gp n k).1 ∨ (gp n k).2 ≤ f) :
    (∀ c, zdfs (cA (tF T) (tL T) (nI f) (nI t)) kpS d k c = c) ∧ (∀ c, zdfs (cV (tF T) (tL T) (nI f) (nI t)) kpS d k c = c) ∧ (∀ c, zdfs (cP T (nI f) (nI t)) kpS d k c = c) :=
  ⟨fun c => zdfs_idg d k c h1 hd (fun _ hx h2 _ => ⟨(c_no (no_out hL h40 ht hft h1 h hx h2)).1, rfl⟩),
   fun c => zdfs_idg d k c h1 hd (fun _ hx h2 _ => ⟨(c_no (no_out hL h40 ht hft h1 h hx h2)).2.1, rfl⟩),
   fun c => zdfs_idg d k c h1 hd (fun _ hx h2 _ => ⟨(c_no (no_out hL h40 ht hft h1 h hx h2)).2.2, rfl⟩)⟩
theorem Cs.inn (hL : Lay n (tF T) (tL T)) (h40 : n ≤ 40) (ht : t < n) (hft : f ≤ t) {k c d : Nat} (h1 : 1 ≤ k) (hc : c = 2 * k ∨ c = 2 * k + 1) (hd : (c + 1) * 2 ^ d ≤ 256) (h : f ≤ (gp n k).1 ∧ (gp n k).2 ≤ t + 1) :
    (∀ s, zdfs (cA (tF T) (tL T) (nI f) (nI t)) kpS d c s = s) ∧ (∀ s, zdfs (cV (tF T) (tL T) (nI f) (nI t)) kpS d c s = s) ∧ (∀ s, zdfs (cP T (nI f) (nI t)) kpS d c s = s) := by
  have hh : ∀ x, inS c x → inS (2 * k) x ∨ inS (2 * k + 1) x := fun x hx => by
    rcases hc with q | q
    · left; rw [← q]; exact hx
    · right; rw [← q]; exact hx
  exact ⟨fun s => zdfs_idg d c s (by omega) hd (fun x hx h2 _ => ⟨(c_no (no_in hL h40 ht hft h1 h (hh x hx) h2)).1, rfl⟩),
   fun s => zdfs_idg d c s (by omega) hd (fun x hx h2 _ => ⟨(c_no (no_in hL h40 ht hft h1 h (hh x hx) h2)).2.1, rfl⟩),
   fun s => zdfs_idg d c s (by omega) hd (fun x hx h2 _ => ⟨(c_no (no_in hL h40 ht hft h1 h (hh x hx) h2)).2.2, rfl⟩)⟩
theorem goes_cnt (hL : Lay n (tF T) (tL T)) (h40 : n ≤ 40) (ht : t < n) (hft : f ≤ t) : ∀ (d k : Nat) (S : ZS), 1 ≤ k → k < 128 → 128 ≤ k * 2 ^ d → (k + 1) * 2 ^ d ≤ 256 → (gp n k).1 < (gp n k).2 → (gp n k).1 ≤ t → f < (gp n k).2 → ¬ (1 ≤ k / 2 ∧ insF (tF T) (tL T) (nI f) (nI t) (k / 2)) → mMet S (gp n k).1 →
    ((gp n k).1 + 2 ≤ (gp n k).2 → (S.2 0 (44 + k), S.2 0 (172 + k)) = acc T k) → (∀ x, inS k x → ¬ x = k → x < 128 → (gp n x).1 + 2 ≤ (gp n x).2 → (S.2 0 (44 + x), S.2 0 (172 + x)) = (tfa T x, tog T x)) →
    Cs n f t T d k S (g_m_goes d n k f t A B S) := by
  intro d
  induction d with
  | zero => intro k S h1 h2 h3; rw [Nat.pow_zero] at h3; omega
  | succ d ih =>
    intro k S h1 h2 h3 h3b hx ha hb hpar hmet hM hO
    have h9 := gp_40 n k h40
    have h4 : (k + 1) * 2 ^ (d + 1) = (2 * k + 1 + 1) * 2 ^ d := by
      rw [Nat.pow_succ, Nat.mul_comm (2 ^ d) 2, ← Nat.mul_assoc]
      congr 1
      omega
    have h4b : k * 2 ^ (d + 1) = (2 * k) * 2 ^ d := by rw [Nat.pow_succ, Nat.mul_comm (2 ^ d) 2, ← Nat.mul_assoc, Nat.mul_comm k 2]
    have h5 : (2 * k + 1) * 2 ^ d ≤ (2 * k + 1 + 1) * 2 ^ d := Nat.mul_le_mul_right _ (by omega)
    have h5b : (2 * k) * 2 ^ d ≤ (2 * k + 1) * 2 ^ d := Nat.mul_le_mul_right _ (by omega)
    have hpas := lay_pas hL h40 ht hft h1 h2
    have hins := lay_ins hL h40 ht hft h1 h2
    by_cases ct : f ≤ (gp n k).1 ∧ (gp n k).2 ≤ t + 1
    · have np : ¬ pasF (tF T) (tL T) (nI f) (nI t) k := fun z => by have := hpas.mp z; omega
      have tk : takF (tF T) (tL T) (nI f) (nI t) k := ⟨hins.mpr ⟨hx, ct⟩, hpar⟩
      have i1 := Cs.inn hL h40 ht hft (d := d) h1 (Or.inl rfl) (by omega) ct
      have i2 := Cs.inn hL h40 ht hft (d := d) h1 (Or.inr rfl) (by omega) ct
      have eg : g_m_goes (d + 1) n k f t A B S = sI 21 (nI (mc S + 1)) (sA 11 (mc S) (nI (k)) (g_m_applies n k A B (sI 22 ((S.1 22) + 1) S))) := by
        rw [g_m_goes, if_neg (by omega), if_neg (by omega)]
      have ew : (g_m_goes (d + 1) n k f t A B S).2 0 = apW n k A B (S.2 0) := by
        rw [eg]
        show (g_m_applies n k A B (sI 22 ((S.1 22) + 1) S)).2 0 = _
        rw [ap_w h40 hx]
        rfl
      have em : mc (g_m_goes (d + 1) n k f t A B S) = mc S + 1 := by
        rw [eg]
        show (nI (mc S + 1)).toNatClampNeg = _
        have := hmet.2
        exact nI_clamp (by omega)
      have e11 : ∀ j, (g_m_goes (d + 1) n k f t A B S).2 11 j = if j = mc S then nI k else S.2 11 j := fun j => by
        rw [eg]
        show (if j = mc S then nI k else (g_m_applies n k A B (sI 22 ((S.1 22) + 1) S)).2 11 j) = _
        have : (g_m_applies n k A B (sI 22 ((S.1 22) + 1) S)).2 11 = S.2 11 := by
          rw [g_m_applies]
          split <;> rfl
        rw [this]
      refine ⟨fun x hs hx2 => by rw [ew]; exact apW_m h40 h2 hx2 hx (fun z => hs (by rw [z]; exact inS.rfl' _)), [k], 1, 0, em, ?_, ?_, fun j hj => ?_, fun j x hj => ?_, ?_, fun c => ?_, fun c => ?_, fun c => ?_⟩
      · rw [eg]
        show (g_m_applies n k A B (sI 22 ((S.1 22) + 1) S)).1 22 = _
        rw [ap_1]
        rfl
      · rw [ew, apW_4 (by decide)]
        exact (Int32.add_zero _).symm
      · rw [e11, if_neg (by omega)]
      · cases j with
        | zero => cases hj; rw [e11, if_pos (by omega)]
        | succ j => cases hj
      · rw [Nat.max_eq_right ct.1, Nat.min_eq_right ct.2]
        exact ⟨⟨⟨h1, h2⟩, rfl, hx, tk⟩, rfl⟩
      · show zdfs (cA (tF T) (tL T) (nI f) (nI t)) kpS d (2 * k + 1) (zdfs (cA (tF T) (tL T) (nI f) (nI t)) kpS d (2 * k) (cA (tF T) (tL T) (nI f) (nI t) k c)) = c + 1
        rw [i1.1, i2.1]
        exact if_pos tk
      · show zdfs (cV (tF T) (tL T) (nI f) (nI t)) kpS d (2 * k + 1) (zdfs (cV (tF T) (tL T) (nI f) (nI t)) kpS d (2 * k) (cV (tF T) (tL T) (nI f) (nI t) k c)) = c + 1
        rw [i1.2.1, i2.2.1]
        exact if_pos (Or.inl tk)
      · show zdfs (cP T (nI f) (nI t)) kpS d (2 * k + 1) (zdfs (cP T (nI f) (nI t)) kpS d (2 * k) (cP T (nI f) (nI t) k c)) = c + 0
        rw [i1.2.2, i2.2.2]
        exact if_neg (fun z => np z.1)
    · have ps : pasF (tF T) (tL T) (nI f) (nI t) k := hpas.mpr ⟨hx, ha, hb, by omega⟩
      have nt : ¬ takF (tF T) (tL T) (nI f) (nI t) k := fun z => ct (hins.mp z.1).2
      have cin : (gp n k).1 + 2 ≤ (gp n k).2 := by omega
      obtain ⟨m, g1, g2, g3, g4, g5⟩ := gpc h40 h1 h2 cin
      have x1 : (gp n (2 * k)).1 < (gp n (2 * k)).2 := by rw [g3]; exact g1
      have x2 : (gp n (2 * k + 1)).1 < (gp n (2 * k + 1)).2 := by rw [g4]; exact g2
      have hMk := hM cin
      have q1 : S.2 0 (44 + k) = (acc T k).1 := congrArg Prod.fst hMk
      have q2 : S.2 0 (172 + k) = (acc T k).2 := congrArg Prod.snd hMk
      have npar : ¬ (1 ≤ k ∧ insF (tF T) (tL T) (nI f) (nI t) k) := fun z => ct (hins.mp z.2).2
      obtain ⟨S1, hS1⟩ : ∃ S1, S1 = (g_m_pushes n k (sI 22 ((S.1 22) + 1) S)).2 := ⟨_, rfl⟩
      obtain ⟨pk, hpk⟩ : ∃ pk, pk = cP T (nI f) (nI t) k 0 := ⟨_, rfl⟩
      have hcP : ∀ c, cP T (nI f) (nI t) k c = c + pk := fun c => by
        rw [hpk]
        unfold cP
        by_cases z : pasF (tF T) (tL T) (nI f) (nI t) k ∧ tMfa T k
        · rw [if_pos z, if_pos z]
        · rw [if_neg z, if_neg z]; rfl
      -- the push
      have f1 : S1.1 = (sI 22 ((S.1 22) + 1) S).1 := by rw [hS1, push_1]
      have f11 : S1.2 11 = S.2 11 := by
        have := (g_m_pushes n k (sI 22 ((S.1 22) + 1) S))
        by_cases mk : ¬ S.2 0 (44 + k) = 1 ∨ ¬ S.2 0 (172 + k) = 0
        · have ap11 : ∀ x g h R, (g_m_applies n x g h R).2 11 = R.2 11 := fun x g h R => by
            rw [g_m_applies]
            split <;> rfl
          have e : g_m_pushes n k (sI 22 ((S.1 22) + 1) S) = (true, (sA 0 (2) ((((s_m_pushes_1 n k (sI 22 ((S.1 22) + 1) S))).2 0 (2)) + 1) (sA 0 (172 + k) (0) (sA 0 (44 + k) (1) (s_m_pushes_1 n k (sI 22 ((S.1 22) + 1) S)))))) := if_pos ((isMk_iff k (sI 22 ((S.1 22) + 1) S)).mpr mk)
          rw [hS1, e]
          show (s_m_pushes_1 n k (sI 22 ((S.1 22) + 1) S)).2 11 = _
          rw [s_m_pushes_1, ap11, ap11]
          rfl
        · rw [hS1, push_no (S := sI 22 ((S.1 22) + 1) S) mk]; rfl
      have push : (S1.2 0 2 = S.2 0 2 + nI pk) ∧ (∀ x, ¬ x = k → ¬ x = 2 * k → ¬ x = 2 * k + 1 → x < 128 → S1.2 0 (44 + x) = S.2 0 (44 + x) ∧ S1.2 0 (172 + x) = S.2 0 (172 + x)) ∧ (∀ x, (x = 2 * k ∨ x = 2 * k + 1) → (gp n x).1 + 2 ≤ (gp n x).2 → (S1.2 0 (44 + x), S1.2 0 (172 + x)) = acc T x) := by
        have hch : ∀ x, (x = 2 * k ∨ x = 2 * k + 1) → (gp n x).1 + 2 ≤ (gp n x).2 → (S.2 0 (44 + x), S.2 0 (172 + x)) = (tfa T x, tog T x) ∧ acc T x = cmp2 (acc T k) (tfa T x, tog T x) := fun x hx9 hin => by
          refine ⟨hO x (by rcases hx9 with z | z <;> rw [z]; exact (inS.rfl' _).l; exact (inS.rfl' _).r) (by omega) (by omega) hin, ?_⟩
          rw [acc_ch T (by omega) (by omega), show x / 2 = k by omega]
        by_cases mk : ¬ S.2 0 (44 + k) = 1 ∨ ¬ S.2 0 (172 + k) = 0
        · have ew : S1.2 0 = pushW n k (S.2 0) := by rw [hS1]; exact (push_yes (S := sI 22 ((S.1 22) + 1) S) h40 h1 h2 cin mk).2
          have ep : pk = 1 := by
            rw [hpk]
            exact if_pos ⟨ps, by show ¬ (acc T k).1 = 1 ∨ ¬ (acc T k).2 = 0; rw [← q1, ← q2]; exact mk⟩
          rw [ew, ep]
          refine ⟨pw_4.2.2.2, fun x y1 y2 y3 y4 => pw_m h40 h1 h2 cin y4 y1 y2 y3, fun x hx9 hin => ?_⟩
          obtain ⟨c1, c2⟩ := hch x hx9 hin
          have c3 : S.2 0 (44 + x) = tfa T x := congrArg Prod.fst c1
          have c4 : S.2 0 (172 + x) = tog T x := congrArg Prod.snd c1
          have e5 : pushW n k (S.2 0) (44 + x) = S.2 0 (44 + k) * S.2 0 (44 + x) ∧ pushW n k (S.2 0) (172 + x) = S.2 0 (44 + k) * S.2 0 (172 + x) + S.2 0 (172 + k) := by
            rw [pw_at, pw_at, if_neg (by omega), if_neg (by omega), if_neg (by omega), if_neg (by omega), if_neg (by omega), if_neg (by omega)]
            rcases hx9 with z | z
            · have b1 := apW_m (n := n) (k := 2 * k + 1) (x := x) (F := S.2 0 (44 + k)) (G := S.2 0 (172 + k)) (w := apW n (2 * k) (S.2 0 (44 + k)) (S.2 0 (172 + k)) (S.2 0)) h40 (by omega) (by omega) x2 (by omega)
              rw [b1.1, b1.2, z]
              rw [z] at hin
              exact apW_k (by omega) hin
            · rw [z]
              rw [z] at hin
              obtain ⟨b1, b2⟩ := apW_k (F := S.2 0 (44 + k)) (G := S.2 0 (172 + k)) (w := apW n (2 * k) (S.2 0 (44 + k)) (S.2 0 (172 + k)) (S.2 0)) (k := 2 * k + 1) (n := n) (by omega) hin
              have b3 := apW_m (n := n) (k := 2 * k) (x := 2 * k + 1) (F := S.2 0 (44 + k)) (G := S.2 0 (172 + k)) (w := S.2 0) h40 (by omega) (by omega) x1 (by omega)
              rw [b1, b2, b3.1, b3.2]
              exact ⟨rfl, rfl⟩
          rw [e5.1, e5.2, q1, q2, c2, c3, c4]
          rfl
        · have mk1 : S.2 0 (44 + k) = 1 := Classical.byContradiction (fun z => mk (Or.inl z))
          have mk2 : S.2 0 (172 + k) = 0 := Classical.byContradiction (fun z => mk (Or.inr z))
          have e3 : S1.2 = S.2 := by rw [hS1, push_no (S := sI 22 ((S.1 22) + 1) S) mk]; rfl
          have ep : pk = 0 := by
            rw [hpk]
            exact if_neg (fun z => mk (by have := z.2; rw [q1, q2]; exact this))
          have ea : acc T k = (1, 0) := by rw [← hMk, mk1, mk2]
          rw [e3, ep]
          refine ⟨(Int32.add_zero _).symm, fun _ _ _ _ _ => ⟨rfl, rfl⟩, fun x hx9 hin => ?_⟩
          obtain ⟨c1, c2⟩ := hch x hx9 hin
          rw [c1, c2, ea, cmp2_1]
      obtain ⟨P1, P2, P3⟩ := push
      have m1 : mc S1 = mc S := by unfold mc; rw [f1]; rfl
      have met1 : mMet S1 (gp n k).1 := ⟨by rw [m1, f1]; exact hmet.1, by rw [m1]; exact hmet.2⟩
      have v1 : S1.1 22 = S.1 22 + nI 1 := by rw [f1]; rfl
      -- the left child
      obtain ⟨SL, hSL⟩ : ∃ SL, SL = if m - 1 < f then S1 else g_m_goes d n (2 * k) f t A B S1 := ⟨_, rfl⟩
      have sk : ∀ y, (max f y = y ∨ max f y = f) := fun y => by omega
      have CL : (∀ x, ¬ inS (2 * k) x → x < 128 → SL.2 0 (44 + x) = S1.2 0 (44 + x) ∧ SL.2 0 (172 + x) = S1.2 0 (172 + x)) ∧ mMet SL m ∧ ∃ (l : List Nat) (v p : Nat), mc SL = mc S1 + l.length ∧ SL.1 22 = S1.1 22 + nI v ∧ SL.2 0 2 = S1.2 0 2 + nI p ∧
          (∀ j, j < mc S1 → SL.2 11 j = S1.2 11 j) ∧ (∀ j x, l[j]? = some x → SL.2 11 (mc S1 + j) = nI x) ∧ Cov n (tF T) (tL T) f t (max f (gp n k).1) l (if t < m then t + 1 else max f m) ∧
          (∀ c, zdfs (cA (tF T) (tL T) (nI f) (nI t)) kpS d (2 * k) c = c + l.length) ∧ (∀ c, zdfs (cV (tF T) (tL T) (nI f) (nI t)) kpS d (2 * k) c = c + v) ∧ (∀ c, zdfs (cP T (nI f) (nI t)) kpS d (2 * k) c = c + p) := by
        by_cases q : m - 1 < f
        · have i1 := Cs.skip hL h40 ht hft (k := 2 * k) (d := d) (by omega) (by omega) (Or.inr (Or.inr (by rw [g3]; simp only; omega)))
          rw [hSL, if_pos q]
          refine ⟨fun _ _ _ => ⟨rfl, rfl⟩, ⟨met1.1, by have := met1.2; omega⟩, [], 0, 0, rfl, (Int32.add_zero _).symm, (Int32.add_zero _).symm, fun _ _ => rfl, fun j x hj => (by cases hj), ?_, i1.1, i1.2.1, i1.2.2⟩
          rw [if_neg (by omega)]
          show max f (gp n k).1 = max f m
          omega
        · have met2 := goes_met (F := A) (O := B) h40 hft ht d (2 * k) S1 (by omega) (by omega) x1 (by omega) (by rw [g3]; exact ha) (by rw [g3]; simp only; omega) (by rw [g3]; exact met1)
          obtain ⟨c1, l, v, p, c2, c3, c4, c5, c6, c7, c8, c9, c10⟩ := ih (2 * k) S1 (by omega) (by omega) (by omega) (by omega) x1 (by rw [g3]; exact ha) (by rw [g3]; simp only; omega) (by rw [show 2 * k / 2 = k by omega]; exact npar) (by rw [g3]; exact met1) (P3 (2 * k) (Or.inl rfl)) (fun x hs hne hx2 hin => by
            have hle := hs.le
            obtain ⟨z1, z2⟩ := P2 x (by omega) hne (fun z => inS.apart h1 hs (by rw [z]; exact inS.rfl' _)) hx2
            rw [z1, z2]
            exact hO x hs.l (by omega) hx2 hin)
          rw [hSL, if_neg q]
          rw [g3] at met2 c7
          simp only at met2 c7
          refine ⟨c1, met2, l, v, p, c2, c3, c4, c5, c6, ?_, c8, c9, c10⟩
          by_cases z : t < m
          · rw [if_pos z, ← Nat.min_eq_left (show t + 1 ≤ m by omega)]; exact c7
          · rw [if_neg z, show max f m = min (t + 1) m by omega]; exact c7
      obtain ⟨a1, metL, l1, v1', p1, a2, a3, a4, a5, a6, a7, a8, a9, a10⟩ := CL
      -- the right child
      obtain ⟨SR, hSR⟩ : ∃ SR, SR = if t < m then SL else g_m_goes d n (2 * k + 1) f t A B SL := ⟨_, rfl⟩
      have CR : (∀ x, ¬ inS (2 * k + 1) x → x < 128 → SR.2 0 (44 + x) = SL.2 0 (44 + x) ∧ SR.2 0 (172 + x) = SL.2 0 (172 + x)) ∧ ∃ (l : List Nat) (v p : Nat), mc SR = mc SL + l.length ∧ SR.1 22 = SL.1 22 + nI v ∧ SR.2 0 2 = SL.2 0 2 + nI p ∧
          (∀ j, j < mc SL → SR.2 11 j = SL.2 11 j) ∧ (∀ j x, l[j]? = some x → SR.2 11 (mc SL + j) = nI x) ∧ Cov n (tF T) (tL T) f t (if t < m then t + 1 else max f m) l (min (t + 1) (gp n k).2) ∧
          (∀ c, zdfs (cA (tF T) (tL T) (nI f) (nI t)) kpS d (2 * k + 1) c = c + l.length) ∧ (∀ c, zdfs (cV (tF T) (tL T) (nI f) (nI t)) kpS d (2 * k + 1) c = c + v) ∧ (∀ c, zdfs (cP T (nI f) (nI t)) kpS d (2 * k + 1) c = c + p) := by
        by_cases q : t < m
        · have i1 := Cs.skip hL h40 ht hft (k := 2 * k + 1) (d := d) (by omega) (by omega) (Or.inr (Or.inl (by rw [g4]; exact q)))
          rw [hSR, if_pos q]
          refine ⟨fun _ _ _ => ⟨rfl, rfl⟩, [], 0, 0, rfl, (Int32.add_zero _).symm, (Int32.add_zero _).symm, fun _ _ => rfl, fun j x hj => (by cases hj), ?_, i1.1, i1.2.1, i1.2.2⟩
          rw [if_pos q]
          show t + 1 = min (t + 1) (gp n k).2
          omega
        · obtain ⟨c1, l, v, p, c2, c3, c4, c5, c6, c7, c8, c9, c10⟩ := ih (2 * k + 1) SL (by omega) (by omega) (by omega) (by omega) x2 (by rw [g4]; simp only; omega) (by rw [g4]; exact hb) (by rw [show (2 * k + 1) / 2 = k by omega]; exact npar) (by rw [g4]; exact metL) (fun hin => by
            obtain ⟨z1, z2⟩ := a1 (2 * k + 1) (fun z => inS.apart h1 z (inS.rfl' _)) (by omega)
            rw [z1, z2]
            exact P3 (2 * k + 1) (Or.inr rfl) hin) (fun x hs hne hx2 hin => by
            have hle := hs.le
            obtain ⟨y1, y2⟩ := a1 x (fun z => inS.apart h1 z hs) hx2
            obtain ⟨z1, z2⟩ := P2 x (by omega) (fun z => inS.apart h1 (by rw [z]; exact inS.rfl' _) hs) hne hx2
            rw [y1, y2, z1, z2]
            exact hO x hs.r (by omega) hx2 hin)
          rw [hSR, if_neg q]
          rw [g4] at c7
          simp only at c7
          refine ⟨c1, l, v, p, c2, c3, c4, c5, c6, ?_, c8, c9, c10⟩
          rw [if_neg q]; exact c7
      obtain ⟨b1, l2, v2', p2, b2, b3, b4, b5, b6, b7, b8, b9, b10⟩ := CR
      have eg : g_m_goes (d + 1) n k f t A B S = SR := by
        have body : (if (gp n (2 * k)).2 - 1 < f then (if t < (gp n (2 * k + 1)).1 then S1 else (g_m_goes d n (2 * k + 1) f t (A) (B) S1)) else (if t < (gp n (2 * k + 1)).1 then (g_m_goes d n (2 * k) f t (A) (B) S1) else (g_m_goes d n (2 * k + 1) f t (A) (B) (g_m_goes d n (2 * k) f t (A) (B) S1)))) = SR := by
          rw [hSR, hSL, g3, g4]
          by_cases q : m - 1 < f
          · rw [if_pos q, if_pos q]
          · rw [if_neg q, if_neg q]
        rw [← body, hS1, g_m_goes]
        by_cases q1 : (gp n k).1 < f
        · rw [if_pos q1]
        · rw [if_neg q1, if_pos (by omega)]
      rw [eg]
      refine ⟨fun x hs hx2 => ?_, l1 ++ l2, 1 + (v1' + v2'), pk + (p1 + p2), ?_, ?_, ?_, fun j hj => ?_, fun j x hj => ?_, Cov_app l1 l2 _ _ _ a7 b7, fun c => ?_, fun c => ?_, fun c => ?_⟩
      · obtain ⟨z1, z2⟩ := b1 x (fun z => hs z.r) hx2
        obtain ⟨z3, z4⟩ := a1 x (fun z => hs z.l) hx2
        obtain ⟨z5, z6⟩ := P2 x (fun z => hs (by rw [z]; exact inS.rfl' _)) (fun z => hs (by rw [z]; exact (inS.rfl' _).l)) (fun z => hs (by rw [z]; exact (inS.rfl' _).r)) hx2
        exact ⟨z1.trans (z3.trans z5), z2.trans (z4.trans z6)⟩
      · rw [b2, a2, m1, List.length_append]; omega
      · rw [b3, a3, v1, ← nI_add, ← nI_add, Int32.add_assoc, Int32.add_assoc]
      · rw [b4, a4, P1, ← nI_add, ← nI_add, Int32.add_assoc, Int32.add_assoc]
      · rw [b5 j (by omega), a5 j (by omega), f11]
      · rcases Nat.lt_or_ge j l1.length with z | z
        · rw [List.getElem?_append_left z] at hj
          rw [b5 (mc S + j) (by omega), ← m1]
          exact a6 j x hj
        · rw [List.getElem?_append_right z] at hj
          have := b6 (j - l1.length) x hj
          rw [a2, m1] at this
          rw [show mc S + j = mc S + l1.length + (j - l1.length) by omega]
          exact this
      · show zdfs (cA (tF T) (tL T) (nI f) (nI t)) kpS d (2 * k + 1) (zdfs (cA (tF T) (tL T) (nI f) (nI t)) kpS d (2 * k) (cA (tF T) (tL T) (nI f) (nI t) k c)) = _
        rw [show cA (tF T) (tL T) (nI f) (nI t) k c = c from if_neg nt, a8, b8, List.length_append]
        omega
      · show zdfs (cV (tF T) (tL T) (nI f) (nI t)) kpS d (2 * k + 1) (zdfs (cV (tF T) (tL T) (nI f) (nI t)) kpS d (2 * k) (cV (tF T) (tL T) (nI f) (nI t) k c)) = _
        rw [show cV (tF T) (tL T) (nI f) (nI t) k c = c + 1 from if_pos (Or.inr ps), a9, b9]
        omega
      · show zdfs (cP T (nI f) (nI t)) kpS d (2 * k + 1) (zdfs (cP T (nI f) (nI t)) kpS d (2 * k) (cP T (nI f) (nI t) k c)) = _
        rw [hcP, a10, b10]
        omega
end CNT
