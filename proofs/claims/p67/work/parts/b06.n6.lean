variable {sc : SC}
def Lay (n : Nat) (F L : Nat → Int32) : Prop := ∀ k, 1 ≤ k → k < 128 → ((gp n k).1 < (gp n k).2 → F k = nI (gp n k).1 ∧ L k = nI ((gp n k).2 - 1)) ∧ (¬ (gp n k).1 < (gp n k).2 → F k = -1 ∧ L k = -1)
theorem nI_m1 {a : Nat} (h : a < 2 ^ 31) : ¬ nI a ≤ -1 := by
  rw [Int32.le_iff_toInt_le, nI_toInt h]
  have e : (-1 : Int32).toInt = -1 := by decide
  rw [e]
  omega
theorem lay_pas {n f t k : Nat} {F L : Nat → Int32} (hL : Lay n F L) (h40 : n ≤ 40) (ht : t < n) (hft : f ≤ t) (h1 : 1 ≤ k) (h2 : k < 128) : pasF F L (nI f) (nI t) k ↔ ((gp n k).1 < (gp n k).2 ∧ (gp n k).1 ≤ t ∧ f < (gp n k).2 ∧ ((gp n k).1 < f ∨ t + 1 < (gp n k).2)) := by
  have h9 := gp_40 n k h40
  unfold pasF
  by_cases c : (gp n k).1 < (gp n k).2
  · obtain ⟨e1, e2⟩ := (hL k h1 h2).1 c
    rw [e1, e2, nI_leI (by omega) (by omega), nI_leI (by omega) (by omega), nI_ltI (by omega) (by omega), nI_ltI (by omega) (by omega)]
    omega
  · obtain ⟨e1, e2⟩ := (hL k h1 h2).2 c
    rw [e1, e2]
    exact ⟨fun z => absurd z.1.2 (nI_m1 (by omega)), fun z => absurd z.1 c⟩
theorem lay_ins {n f t k : Nat} {F L : Nat → Int32} (hL : Lay n F L) (h40 : n ≤ 40) (ht : t < n) (hft : f ≤ t) (h1 : 1 ≤ k) (h2 : k < 128) : insF F L (nI f) (nI t) k ↔ ((gp n k).1 < (gp n k).2 ∧ f ≤ (gp n k).1 ∧ (gp n k).2 ≤ t + 1) := by
  have h9 := gp_40 n k h40
  unfold insF
  by_cases c : (gp n k).1 < (gp n k).2
  · obtain ⟨e1, e2⟩ := (hL k h1 h2).1 c
    rw [e1, e2, nI_leI (by omega) (by omega), nI_leI (by omega) (by omega)]
    omega
  · obtain ⟨e1, e2⟩ := (hL k h1 h2).2 c
    rw [e1, e2]
    exact ⟨fun z => absurd z.1 (nI_m1 (by omega)), fun z => absurd z.1 c⟩
theorem lay_in {n k : Nat} {F L : Nat → Int32} (hL : Lay n F L) (h40 : n ≤ 40) (h1 : 1 ≤ k) (h2 : k < 128) : F k < L k ↔ (gp n k).1 + 2 ≤ (gp n k).2 := by
  have h9 := gp_40 n k h40
  by_cases c : (gp n k).1 < (gp n k).2
  · obtain ⟨e1, e2⟩ := (hL k h1 h2).1 c
    rw [e1, e2, nI_ltI (by omega) (by omega)]
    omega
  · obtain ⟨e1, e2⟩ := (hL k h1 h2).2 c
    rw [e1, e2]
    exact ⟨fun z => absurd z (by decide), fun z => absurd (by omega) c⟩
theorem lay_wd {n k : Nat} {F L : Nat → Int32} (hL : Lay n F L) (h40 : n ≤ 40) (h1 : 1 ≤ k) (h2 : k < 128) (hx : (gp n k).1 < (gp n k).2) : wdF F L k = gW n k := by
  have h9 := gp_40 n k h40
  obtain ⟨e1, e2⟩ := (hL k h1 h2).1 hx
  unfold wdF gW
  rw [e1, e2, pk_sub (by omega), nI_1]
  congr 1
  omega
theorem zdfs_id {A B : Nat → NR → NR → NR → NR × NR × NR × Int32 × Nat} : ∀ (d k : Nat) (s : VS), 1 ≤ k → (k + 1) * 2 ^ d ≤ 256 → (∀ x, inS k x → x < 128 → (∀ a b c, A x a b c = (a, b, c, 0, 0)) ∧ ∀ a b c, B x a b c = (a, b, c, 0, 0)) → zdfs (lst A) (lst B) d k s = s := by
  intro d
  induction d with
  | zero => intro k s _ _ _; rfl
  | succ d ih =>
    intro k s h1 h2 h
    have h3 : 1 ≤ 2 ^ d := Nat.one_le_two_pow
    have h4 : (k + 1) * 2 ^ (d + 1) = (2 * k + 1 + 1) * 2 ^ d := by
      rw [Nat.pow_succ, Nat.mul_comm (2 ^ d) 2, ← Nat.mul_assoc]
      congr 1
      omega
    have h5 : (2 * k + 1) * 2 ^ d ≤ (2 * k + 1 + 1) * 2 ^ d := Nat.mul_le_mul_right _ (by omega)
    have h6 : (2 * k + 1 + 1) * 1 ≤ (2 * k + 1 + 1) * 2 ^ d := Nat.mul_le_mul_left _ h3
    obtain ⟨e1, e2⟩ := h k (inS.rfl' k) (by omega)
    show lst B k (zdfs (lst A) (lst B) d (2 * k + 1) (zdfs (lst A) (lst B) d (2 * k) (lst A k s))) = s
    rw [lst_id (e1 _ _ _), ih (2 * k) s (by omega) (by omega) (fun x hx => h x hx.l), ih (2 * k + 1) s (by omega) (by omega) (fun x hx => h x hx.r), lst_id (e2 _ _ _)]
theorem st1_no {F L : Nat → Int32} {f t : Int32} {k : Nat} (h : ¬ pasF F L f t k) (a b c : NR) : st1 F L f t k a b c = (a, b, c, 0, 0) := if_neg h
theorem st2_no {F L : Nat → Int32} {f t A B : Int32} {k : Nat} (h : ¬ pasF F L f t k) (g : ¬ takF F L f t k) (a b c : NR) : st2 F L f t A B k a b c = (a, b, c, 0, 0) := (if_neg g).trans (if_neg h)
theorem inS.half {k x : Nat} (h : inS (2 * k) x ∨ inS (2 * k + 1) x) : inS k (x / 2) := by
  rcases h with ⟨e, h⟩ | ⟨e, h⟩
  · exact ⟨e, by rw [show x / 2 = x / 2 ^ 1 from rfl, ← div_p, Nat.add_comm, div_p, h]; omega⟩
  · exact ⟨e, by rw [show x / 2 = x / 2 ^ 1 from rfl, ← div_p, Nat.add_comm, div_p, h]; omega⟩
section DFS
variable {n f t : Nat} {A B : Int32} {F L : Nat → Int32}
theorem df_out (hL : Lay n F L) (h40 : n ≤ 40) (ht : t < n) (hft : f ≤ t) {k d : Nat} (s : VS) (h1 : 1 ≤ k) (hd : (k + 1) * 2 ^ d ≤ 256) (h : ¬ (gp n k).1 < (gp n k).2 ∨ t < (gp n k).1 ∨ (gp n k).2 ≤ f) : zdfs (lst (st1 F L (nI f) (nI t))) (lst (st2 F L (nI f) (nI t) A B)) d k s = s := by
  refine zdfs_id d k s h1 hd (fun x hx h2 => ?_)
  have hle := hx.le
  have p : ¬ pasF F L (nI f) (nI t) x := fun z => by
    have z2 := (lay_pas hL h40 ht hft (by omega) h2).mp z
    have := hx.sub h40 h1 h2 z2.1
    omega
  have q : ¬ takF F L (nI f) (nI t) x := fun z => by
    have z2 := (lay_ins hL h40 ht hft (by omega) h2).mp z.1
    have := hx.sub h40 h1 h2 z2.1
    omega
  exact ⟨st1_no p, st2_no p q⟩
theorem df_in (hL : Lay n F L) (h40 : n ≤ 40) (ht : t < n) (hft : f ≤ t) {k c d : Nat} (s : VS) (h1 : 1 ≤ k) (hc : c = 2 * k ∨ c = 2 * k + 1) (hd : (c + 1) * 2 ^ d ≤ 256) (h : f ≤ (gp n k).1 ∧ (gp n k).2 ≤ t + 1) : zdfs (lst (st1 F L (nI f) (nI t))) (lst (st2 F L (nI f) (nI t) A B)) d c s = s := by
  refine zdfs_id d c s (by omega) hd (fun x hx h2 => ?_)
  have hle := hx.le
  have hx2 : inS (2 * k) x ∨ inS (2 * k + 1) x := by
    rcases hc with q | q
    · left; rw [← q]; exact hx
    · right; rw [← q]; exact hx
  have hx1 : inS k x := hx2.elim (fun z => z.l) (fun z => z.r)
  have p : ¬ pasF F L (nI f) (nI t) x := fun z => by
    have z2 := (lay_pas hL h40 ht hft (by omega) h2).mp z
    have := hx1.sub h40 h1 h2 z2.1
    omega
  have q : ¬ takF F L (nI f) (nI t) x := fun z => by
    have z2 := (lay_ins hL h40 ht hft (by omega) h2).mp z.1
    refine z.2 ⟨by omega, (lay_ins hL h40 ht hft (by omega) (by omega)).mpr ?_⟩
    have g1 := gp_par h40 (by omega) h2 z2.1
    have g2 := (inS.half hx2).sub h40 h1 (by omega : x / 2 < 128) (by omega)
    omega
  exact ⟨st1_no p, st2_no p q⟩
def Gs (n k : Nat) (S : ZS) (s : VS) (S' : ZS) (s' : VS) : Prop :=
  (∀ x, inS k x → x < 128 → (gp n x).1 < (gp n x).2 → Rn n s'.1 (S'.2 0) x) ∧
  (∀ x, ¬ (inS k x ∧ (gp n x).1 < (gp n x).2) → x < 128 → s'.1 x = s.1 x ∧ S'.2 0 (44 + x) = S.2 0 (44 + x) ∧ S'.2 0 (172 + x) = S.2 0 (172 + x)) ∧
  (∀ i, i < 40 → ¬ ((gp n k).1 ≤ i ∧ i < (gp n k).2) → S'.2 0 (4 + i) = S.2 0 (4 + i)) ∧
  (S'.2 0 0 = S.2 0 0 ∧ S'.2 0 1 = S.2 0 1 ∧ S'.2 0 3 = S.2 0 3) ∧ s'.2.1 = S'.2 0 2 ∧ s'.2.2 = mc S'
theorem Gs.same {k : Nat} {S : ZS} {s : VS} (h : ∀ x, inS k x → x < 128 → (gp n x).1 < (gp n x).2 → Rn n s.1 (S.2 0) x) (h1 : s.2.1 = S.2 0 2) (h2 : s.2.2 = mc S) : Gs n k S s S s :=
  ⟨h, fun _ _ _ => ⟨rfl, rfl, rfl⟩, fun _ _ _ => rfl, ⟨rfl, rfl, rfl⟩, h1, h2⟩
theorem Gs.other {k c : Nat} {S S' : ZS} {s s' : VS} (g : Gs n k S s S' s') (h40 : n ≤ 40) (h1 : 1 ≤ c) (hd : ∀ x, inS c x → ¬ inS k x) (hr : (gp n c).1 < (gp n c).2 → (gp n c).2 ≤ (gp n k).1 ∨ (gp n k).2 ≤ (gp n c).1) (h : ∀ x, inS c x → x < 128 → (gp n x).1 < (gp n x).2 → Rn n s.1 (S.2 0) x) : ∀ x, inS c x → x < 128 → (gp n x).1 < (gp n x).2 → Rn n s'.1 (S'.2 0) x := by
  intro x hx h2 hg
  have hs := hx.sub h40 h1 h2 hg
  have hle := hx.le
  have h9 := gp_40 n x h40
  obtain ⟨a1, a2, a3⟩ := g.2.1 x (fun z => hd x hx z.1) h2
  refine (h x hx h2 hg).cong (fun i p q => ?_) a1 a2 a3
  refine el_loc h40 i 7 x (by omega) h2 (fun y hy hy2 => (g.2.1 y (fun z => hd y ?_ z.1) hy2).2) (g.2.2.1 i (by omega) (by have := hr (by omega); omega))
  obtain ⟨e1, q1⟩ := hy
  obtain ⟨e2, q2⟩ := hx
  exact ⟨e1 + e2, by rw [div_p, q1, q2]⟩
theorem goes_sim (hL : Lay n F L) (h40 : n ≤ 40) (ht : t < n) (hft : f ≤ t) (hA : f3 A) : ∀ (d k : Nat) (S : ZS) (s : VS), 1 ≤ k → k < 128 → 128 ≤ k * 2 ^ d → (k + 1) * 2 ^ d ≤ 256 → (gp n k).1 < (gp n k).2 → (gp n k).1 ≤ t → f < (gp n k).2 → ¬ (1 ≤ k / 2 ∧ insF F L (nI f) (nI t) (k / 2)) → mMet S (gp n k).1 →
    (∀ x, inS k x → x < 128 → (gp n x).1 < (gp n x).2 → Rn n s.1 (S.2 0) x) → (∀ i, ((gp n k).1 ≤ i ∧ i < (gp n k).2) ∧ f ≤ i ∧ i ≤ t → bd (A * el n (S.2 0) k i + B)) → s.2.1 = S.2 0 2 → s.2.2 = mc S →
    Gs n k S s (g_m_goes d n k f t A B S) (zdfs (lst (st1 F L (nI f) (nI t))) (lst (st2 F L (nI f) (nI t) A B)) d k s) := by
  intro d
  induction d with
  | zero => intro k S s h1 h2 h3; rw [Nat.pow_zero] at h3; omega
  | succ d ih =>
    intro k S s h1 h2 h3 h3b hx ha hb hpar hmet hR hP hp hc
    have h9 := gp_40 n k h40
    have h4 : (k + 1) * 2 ^ (d + 1) = (2 * k + 1 + 1) * 2 ^ d := by
      rw [Nat.pow_succ, Nat.mul_comm (2 ^ d) 2, ← Nat.mul_assoc]
      congr 1
      omega
    have h4b : k * 2 ^ (d + 1) = (2 * k) * 2 ^ d := by rw [Nat.pow_succ, Nat.mul_comm (2 ^ d) 2, ← Nat.mul_assoc, Nat.mul_comm k 2]
    have h5 : (2 * k + 1) * 2 ^ d ≤ (2 * k + 1 + 1) * 2 ^ d := Nat.mul_le_mul_right _ (by omega)
    have h5b : (2 * k) * 2 ^ d ≤ (2 * k + 1) * 2 ^ d := Nat.mul_le_mul_right _ (by omega)
    have hpas := lay_pas hL h40 ht hft h1 h2
    have hins := lay_ins hL h40 ht hft h1 h2
    show Gs n k S s _ (lst (st2 F L (nI f) (nI t) A B) k (zdfs (lst (st1 F L (nI f) (nI t))) (lst (st2 F L (nI f) (nI t) A B)) d (2 * k + 1) (zdfs (lst (st1 F L (nI f) (nI t))) (lst (st2 F L (nI f) (nI t) A B)) d (2 * k) (lst (st1 F L (nI f) (nI t)) k s))))
    by_cases ct : f ≤ (gp n k).1 ∧ (gp n k).2 ≤ t + 1
    · -- taken
      have np : ¬ pasF F L (nI f) (nI t) k := fun z => by have := hpas.mp z; omega
      have tk : takF F L (nI f) (nI t) k := ⟨hins.mpr ⟨hx, ct⟩, hpar⟩
      rw [lst_id (st1_no np _ _ _), df_in hL h40 ht hft s h1 (Or.inl rfl) (by omega) ct, df_in hL h40 ht hft s h1 (Or.inr rfl) (by omega) ct]
      have e2 : st2 F L (nI f) (nI t) A B k (s.1 k) (s.1 (2 * k)) (s.1 (2 * k + 1)) = (mkN (wdF F L k) A B (s.1 k), s.1 (2 * k), s.1 (2 * k + 1), 0, 1) := if_pos tk
      rw [lst_1 e2]
      have eg : g_m_goes (d + 1) n k f t A B S = sI 21 (nI (mc S + 1)) (sA 11 (mc S) (nI (k)) (g_m_applies n k A B (sI 22 ((S.1 22) + 1) S))) := by
        rw [g_m_goes, if_neg (by omega), if_neg (by omega)]
      have ew : (g_m_goes (d + 1) n k f t A B S).2 0 = apW n k A B (S.2 0) := by
        rw [eg]
        show (g_m_applies n k A B (sI 22 ((S.1 22) + 1) S)).2 0 = _
        rw [ap_w h40 hx]
        rfl
      have em : mc (g_m_goes (d + 1) n k f t A B S) = mc S + 1 := by
        rw [eg]
        show (nI (mc S + 1)).toNatClampNeg = _
        have := hmet.2
        exact nI_clamp (by omega)
      refine ⟨fun x hs hx2 hgx => ?_, fun x hs hx2 => ?_, fun i hi hni => ?_, ?_, ?_, ?_⟩
      · rw [ew]
        rcases hs.dn with q | q
        · subst q
          exact R_mark h40 h1 h2 hx hA (lay_wd hL h40 h1 h2 hx) (hR x (inS.rfl' x) h2 hx) (fun i p q => hP i ⟨⟨p, q⟩, by omega, by omega⟩) (if_pos rfl)
        · have hne : ¬ x = k := fun z => by
            rcases q with q | q
            · have := q.le; omega
            · have := q.le; omega
          have hge : 2 * k ≤ x := by
            rcases q with q | q
            · exact q.le
            · have := q.le; omega
          have cin : (gp n k).1 + 2 ≤ (gp n k).2 := by
            have g1 := gp_par h40 (by omega) hx2 hgx
            have g2 := (inS.half q).sub h40 h1 (by omega : x / 2 < 128) (by omega)
            omega
          refine (hR x hs hx2 hgx).cong (fun i p r => ?_) (if_neg hne) (apW_m h40 h2 hx2 hx hne).1 (apW_m h40 h2 hx2 hx hne).2
          refine el_loc h40 i 7 x (by omega) hx2 (fun y hy hy2 => apW_m h40 h2 hy2 hx (by have := hy.le; omega)) ?_
          have h8 := gp_40 n x h40
          unfold apW
          rw [if_pos cin, upd_at, upd_at, if_neg (by omega), if_neg (by omega)]
      · have hne : ¬ x = k := fun z => hs (by rw [z]; exact ⟨inS.rfl' _, hx⟩)
        rw [ew]
        exact ⟨if_neg hne, apW_m h40 h2 hx2 hx hne⟩
      · rw [ew]; exact apW_e hi hni hx
      · rw [ew]; exact ⟨apW_4 (by decide), apW_4 (by decide), apW_4 (by decide)⟩
      · rw [ew, apW_4 (by decide)]; exact hp
      · rw [em]; show s.2.2 + 1 = _; rw [hc]
    · -- passed
      have ps : pasF F L (nI f) (nI t) k := hpas.mpr ⟨hx, ha, hb, by omega⟩
      have nt : ¬ takF F L (nI f) (nI t) k := fun z => ct (hins.mp z.1).2
      have cin : (gp n k).1 + 2 ≤ (gp n k).2 := by omega
      obtain ⟨m, g1, g2, g3, g4, g5⟩ := gpc h40 h1 h2 cin
      have x1 : (gp n (2 * k)).1 < (gp n (2 * k)).2 := by rw [g3]; exact g1
      have x2 : (gp n (2 * k + 1)).1 < (gp n (2 * k + 1)).2 := by rw [g4]; exact g2
      have hRk := hR k (inS.rfl' k) h2 hx
      have hRl := hR (2 * k) (inS.rfl' _).l (by omega) x1
      have hRr := hR (2 * k + 1) (inS.rfl' _).r (by omega) x2
      -- the push
      obtain ⟨S1, hS1⟩ : ∃ S1, S1 = (g_m_pushes n k (sI 22 ((S.1 22) + 1) S)).2 := ⟨_, rfl⟩
      obtain ⟨s1, hs1⟩ : ∃ s1, s1 = lst (st1 F L (nI f) (nI t)) k s := ⟨_, rfl⟩
      have push : Gs n k S s S1 s1 ∧ (∀ i, (gp n k).1 ≤ i → i < (gp n k).2 → el n (S1.2 0) k i = el n (S.2 0) k i) ∧ S1.2 0 (44 + k) = 1 ∧ S1.2 0 (172 + k) = 0 ∧ S1.1 21 = S.1 21 := by
        have e1 : ∀ a b c, st1 F L (nI f) (nI t) k a b c = stP F L k a b c := fun a b c => if_pos ps
        have f1 : S1.1 21 = S.1 21 := by rw [hS1, push_1]; rfl
        have f2 : mc S1 = mc S := by unfold mc; rw [f1]
        by_cases mk : ¬ S.2 0 (44 + k) = 1 ∨ ¬ S.2 0 (172 + k) = 0
        · have ew : S1.2 0 = pushW n k (S.2 0) := by rw [hS1]; exact (push_yes (S := sI 22 ((S.1 22) + 1) S) h40 h1 h2 cin mk).2
          have e2 : stP F L k (s.1 k) (s.1 (2 * k)) (s.1 (2 * k + 1)) = (clN (s.1 k), mkN (gW n (2 * k)) (S.2 0 (44 + k)) (S.2 0 (172 + k)) (s.1 (2 * k)), mkN (gW n (2 * k + 1)) (S.2 0 (44 + k)) (S.2 0 (172 + k)) (s.1 (2 * k + 1)), 1, 0) := by
            have e3 : stP F L k (s.1 k) (s.1 (2 * k)) (s.1 (2 * k + 1)) = (clN (s.1 k), mkN (wdF F L (2 * k)) (s.1 k).2.2.2.1 (s.1 k).2.2.2.2 (s.1 (2 * k)), mkN (wdF F L (2 * k + 1)) (s.1 k).2.2.2.1 (s.1 k).2.2.2.2 (s.1 (2 * k + 1)), 1, 0) := if_pos ⟨⟨g5, (lay_in hL h40 h1 h2).mpr cin⟩, by rw [hRk.1.1, hRk.1.2]; exact mk⟩
            rw [e3, hRk.1.1, hRk.1.2, lay_wd hL h40 (by omega) (by omega) x1, lay_wd hL h40 (by omega) (by omega) x2]
          have vk : s1.1 k = clN (s.1 k) := by rw [hs1, lst_k, e1, e2]
          have vl : s1.1 (2 * k) = mkN (gW n (2 * k)) (S.2 0 (44 + k)) (S.2 0 (172 + k)) (s.1 (2 * k)) := by rw [hs1, lst_l h1, e1, e2]
          have vr : s1.1 (2 * k + 1) = mkN (gW n (2 * k + 1)) (S.2 0 (44 + k)) (S.2 0 (172 + k)) (s.1 (2 * k + 1)) := by rw [hs1, lst_r h1, e1, e2]
          obtain ⟨R1, R2, R3, R4⟩ := push_R h40 h1 h2 cin hRk hRl hRr vk vl vr
          refine ⟨⟨fun x hs hx2 hgx => ?_, fun x hs hx2 => ?_, fun i hi hni => ?_, ?_, ?_, ?_⟩, by rw [ew]; exact R4, by rw [ew]; exact (pw_k h1 h2).1, by rw [ew]; exact (pw_k h1 h2).2, f1⟩
          · rw [ew]
            by_cases q1 : x = k
            · rw [q1]; exact R1
            · by_cases q2 : x = 2 * k
              · rw [q2]; exact R2
              · by_cases q3 : x = 2 * k + 1
                · rw [q3]; exact R3
                · have hsub := hs.sub h40 h1 hx2 hgx
                  have hle := hs.le
                  have hch : inS (2 * (2 * k)) x ∨ inS (2 * (2 * k) + 1) x ∨ inS (2 * (2 * k + 1)) x ∨ inS (2 * (2 * k + 1) + 1) x := by
                    rcases hs.dn with q | q | q
                    · exact absurd q q1
                    · rcases q.dn with q | q | q
                      · exact absurd q q2
                      · exact Or.inl q
                      · exact Or.inr (Or.inl q)
                    · rcases q.dn with q | q | q
                      · exact absurd q q3
                      · exact Or.inr (Or.inr (Or.inl q))
                      · exact Or.inr (Or.inr (Or.inr q))
                  have hge : 4 * k ≤ x := by
                    rcases hch with q | q | q | q <;> have := q.le <;> omega
                  have hpar2 : (gp n (2 * k)).1 + 2 ≤ (gp n (2 * k)).2 ∧ inS (2 * k) x ∨ (gp n (2 * k + 1)).1 + 2 ≤ (gp n (2 * k + 1)).2 ∧ inS (2 * k + 1) x := by
                    have g6 := gp_par h40 (by omega) hx2 hgx
                    rcases hch with q | q | q | q
                    · left
                      have g7 := (inS.half (Or.inl q)).sub h40 (by omega) (by omega : x / 2 < 128) (by omega)
                      exact ⟨by omega, q.l⟩
                    · left
                      have g7 := (inS.half (Or.inr q)).sub h40 (by omega) (by omega : x / 2 < 128) (by omega)
                      exact ⟨by omega, q.r⟩
                    · right
                      have g7 := (inS.half (Or.inl q)).sub h40 (by omega) (by omega : x / 2 < 128) (by omega)
                      exact ⟨by omega, q.l⟩
                    · right
                      have g7 := (inS.half (Or.inr q)).sub h40 (by omega) (by omega : x / 2 < 128) (by omega)
                      exact ⟨by omega, q.r⟩
                  have h8 := gp_40 n x h40
                  refine (hR x hs hx2 hgx).cong (fun i p r => ?_) (by rw [hs1]; exact lst_o q1 q2 q3) (pw_m h40 h1 h2 cin hx2 q1 q2 q3).1 (pw_m h40 h1 h2 cin hx2 q1 q2 q3).2
                  refine el_loc h40 i 7 x (by omega) hx2 (fun y hy hy2 => pw_m h40 h1 h2 cin hy2 (by have := hy.le; omega) (by have := hy.le; omega) (by have := hy.le; omega)) ?_
                  rw [pw_at, if_neg (by omega), if_neg (by omega), if_neg (by omega)]
                  rcases hpar2 with ⟨q, qs⟩ | ⟨q, qs⟩
                  · have hsb := qs.sub h40 (by omega) hx2 hgx
                    rw [g3] at hsb
                    simp only at hsb
                    rw [apW_e (by omega) (by rw [g4]; simp only; omega) x2]
                    unfold apW
                    rw [if_pos q, upd_at, upd_at, if_neg (by omega), if_neg (by omega)]
                  · have hsb := qs.sub h40 (by omega) hx2 hgx
                    rw [g4] at hsb
                    simp only at hsb
                    have e5 : apW n (2 * k + 1) (S.2 0 (44 + k)) (S.2 0 (172 + k)) (apW n (2 * k) (S.2 0 (44 + k)) (S.2 0 (172 + k)) (S.2 0)) (4 + i) = apW n (2 * k) (S.2 0 (44 + k)) (S.2 0 (172 + k)) (S.2 0) (4 + i) := by
                      rw [apW, if_pos q, upd_at, upd_at, if_neg (by omega), if_neg (by omega)]
                    rw [e5, apW_e (by omega) (by rw [g3]; simp only; omega) x1]
          · have q1 : ¬ x = k := fun z => hs (by rw [z]; exact ⟨inS.rfl' _, hx⟩)
            have q2 : ¬ x = 2 * k := fun z => hs (by rw [z]; exact ⟨(inS.rfl' _).l, x1⟩)
            have q3 : ¬ x = 2 * k + 1 := fun z => hs (by rw [z]; exact ⟨(inS.rfl' _).r, x2⟩)
            rw [ew]
            exact ⟨by rw [hs1]; exact lst_o q1 q2 q3, pw_m h40 h1 h2 cin hx2 q1 q2 q3⟩
          · rw [ew]; exact pw_e h40 h1 h2 cin hi hni
          · rw [ew]; exact ⟨pw_4.1, pw_4.2.1, pw_4.2.2.1⟩
          · rw [ew, pw_4.2.2.2, hs1]
            show s.2.1 + (st1 F L (nI f) (nI t) k (s.1 k) (s.1 (2 * k)) (s.1 (2 * k + 1))).2.2.2.1 = _
            rw [e1, e2, hp]
          · rw [f2, hs1]
            show s.2.2 + (st1 F L (nI f) (nI t) k (s.1 k) (s.1 (2 * k)) (s.1 (2 * k + 1))).2.2.2.2 = _
            rw [e1, e2, hc]
            rfl
        · have e3 : S1 = sI 22 ((S.1 22) + 1) S := by rw [hS1, push_no (S := sI 22 ((S.1 22) + 1) S) mk]
          have e2 : stP F L k (s.1 k) (s.1 (2 * k)) (s.1 (2 * k + 1)) = (s.1 k, s.1 (2 * k), s.1 (2 * k + 1), 0, 0) := if_neg (fun z => mk (by have := z.2; rw [hRk.1.1, hRk.1.2] at this; exact this))
          have e4 : s1 = s := by rw [hs1]; exact lst_id ((e1 _ _ _).trans e2)
          have e5 : S1.2 = S.2 := by rw [e3]; rfl
          have mk1 : S.2 0 (44 + k) = 1 := Classical.byContradiction (fun z => mk (Or.inl z))
          have mk2 : S.2 0 (172 + k) = 0 := Classical.byContradiction (fun z => mk (Or.inr z))
          refine ⟨⟨?_, ?_, ?_, ?_, ?_, ?_⟩, ?_, ?_, ?_, f1⟩
          · rw [e4, e5]; exact hR
          · rw [e4, e5]; exact fun _ _ _ => ⟨rfl, rfl, rfl⟩
          · rw [e5]; exact fun _ _ _ => rfl
          · rw [e5]; exact ⟨rfl, rfl, rfl⟩
          · rw [e4, e5]; exact hp
          · rw [e4, f2]; exact hc
          · rw [e5]; exact fun _ _ _ => rfl
          · rw [e5]; exact mk1
          · rw [e5]; exact mk2
      obtain ⟨G1, P2, P3, P4, P5⟩ := push
      rw [← hs1]
      have met1 : mMet S1 (gp n k).1 := by
        unfold mMet mc
        rw [P5]
        exact hmet
      -- what the children see
      have cl : ∀ i, (gp n k).1 ≤ i → i < m → el n (S1.2 0) (2 * k) i = el n (S.2 0) k i := fun i p q => by
        rw [← P2 i p (by omega), el_in _ i h40 h1 h2 cin, P3, P4, Int32.one_mul, Int32.add_zero, show gch n k i = 2 * k from if_pos (by rw [g3]; exact q)]
      have cr : ∀ i, m ≤ i → i < (gp n k).2 → el n (S1.2 0) (2 * k + 1) i = el n (S.2 0) k i := fun i p q => by
        rw [← P2 i (by omega) q, el_in _ i h40 h1 h2 cin, P3, P4, Int32.one_mul, Int32.add_zero, show gch n k i = 2 * k + 1 from if_neg (by rw [g3]; simp only; omega)]
      have npar : ¬ (1 ≤ k ∧ insF F L (nI f) (nI t) k) := fun z => ct (hins.mp z.2).2
      -- the left child
      obtain ⟨SL, hSL⟩ : ∃ SL, SL = if m - 1 < f then S1 else g_m_goes d n (2 * k) f t A B S1 := ⟨_, rfl⟩
      obtain ⟨sL, hsL⟩ : ∃ sL, sL = zdfs (lst (st1 F L (nI f) (nI t))) (lst (st2 F L (nI f) (nI t) A B)) d (2 * k) s1 := ⟨_, rfl⟩
      have GL : Gs n (2 * k) S1 s1 SL sL ∧ mMet SL m := by
        have hRl1 : ∀ x, inS (2 * k) x → x < 128 → (gp n x).1 < (gp n x).2 → Rn n s1.1 (S1.2 0) x := fun x hx => G1.1 x hx.l
        by_cases q : m - 1 < f
        · rw [hSL, if_pos q, hsL, df_out hL h40 ht hft s1 (by omega) (by omega) (Or.inr (Or.inr (by rw [g3]; simp only; omega)))]
          exact ⟨Gs.same hRl1 G1.2.2.2.2.1 G1.2.2.2.2.2, met1.1, by have := met1.2; omega⟩
        · rw [hSL, if_neg q, hsL]
          refine ⟨ih (2 * k) S1 s1 (by omega) (by omega) (by omega) (by omega) x1 (by rw [g3]; exact ha) (by rw [g3]; simp only; omega) (by rw [show 2 * k / 2 = k by omega]; exact npar) (by rw [g3]; exact met1) hRl1 (fun i hi => ?_) G1.2.2.2.2.1 G1.2.2.2.2.2, ?_⟩
          · rw [g3] at hi
            simp only at hi
            rw [cl i hi.1.1 hi.1.2]
            exact hP i ⟨⟨hi.1.1, by omega⟩, hi.2⟩
          · have := goes_met (F := A) (O := B) h40 hft ht d (2 * k) S1 (by omega) (by omega) x1 (by omega) (by rw [g3]; exact ha) (by rw [g3]; simp only; omega) (by rw [g3]; exact met1)
            rw [g3] at this
            exact this
      obtain ⟨GL, metL⟩ := GL
      rw [← hsL]
      -- the right child
      obtain ⟨SR, hSR⟩ : ∃ SR, SR = if t < m then SL else g_m_goes d n (2 * k + 1) f t A B SL := ⟨_, rfl⟩
      obtain ⟨sR, hsR⟩ : ∃ sR, sR = zdfs (lst (st1 F L (nI f) (nI t))) (lst (st2 F L (nI f) (nI t) A B)) d (2 * k + 1) sL := ⟨_, rfl⟩
      have hRr1 : ∀ x, inS (2 * k + 1) x → x < 128 → (gp n x).1 < (gp n x).2 → Rn n sL.1 (SL.2 0) x := GL.other h40 (by omega) (fun x hx z => inS.apart h1 z hx) (fun _ => by rw [g3, g4]; simp only; omega) (fun x hx => G1.1 x hx.r)
      have eR : ∀ i, m ≤ i → i < (gp n k).2 → el n (SL.2 0) (2 * k + 1) i = el n (S.2 0) k i := fun i p q => by
        rw [← cr i p q]
        exact el_loc h40 i 7 (2 * k + 1) (by omega) (by omega) (fun y hy hy2 => (GL.2.1 y (fun z => inS.apart h1 z.1 hy) hy2).2) (GL.2.2.1 i (by omega) (by rw [g3]; simp only; omega))
      have GR : Gs n (2 * k + 1) SL sL SR sR := by
        by_cases q : t < m
        · rw [hSR, if_pos q, hsR, df_out hL h40 ht hft sL (by omega) (by omega) (Or.inr (Or.inl (by rw [g4]; exact q)))]
          exact Gs.same hRr1 GL.2.2.2.2.1 GL.2.2.2.2.2
        · rw [hSR, if_neg q, hsR]
          refine ih (2 * k + 1) SL sL (by omega) (by omega) (by omega) (by omega) x2 (by rw [g4]; simp only; omega) (by rw [g4]; exact hb) (by rw [show (2 * k + 1) / 2 = k by omega]; exact npar) (by rw [g4]; exact metL) hRr1 (fun i hi => ?_) GL.2.2.2.2.1 GL.2.2.2.2.2
          rw [g4] at hi
          simp only at hi
          rw [eR i hi.1.1 hi.1.2]
          exact hP i ⟨⟨by omega, hi.1.2⟩, hi.2⟩
      rw [← hsR]
      have eg : g_m_goes (d + 1) n k f t A B S = SR := by
        have body : (if (gp n (2 * k)).2 - 1 < f then (if t < (gp n (2 * k + 1)).1 then S1 else (g_m_goes d n (2 * k + 1) f t (A) (B) S1)) else (if t < (gp n (2 * k + 1)).1 then (g_m_goes d n (2 * k) f t (A) (B) S1) else (g_m_goes d n (2 * k + 1) f t (A) (B) (g_m_goes d n (2 * k) f t (A) (B) S1)))) = SR := by
          rw [hSR, hSL, g3, g4]
          by_cases q : m - 1 < f
          · rw [if_pos q, if_pos q]
          · rw [if_neg q, if_neg q]
        rw [← body, hS1, g_m_goes]
        by_cases q1 : (gp n k).1 < f
        · rw [if_pos q1]
        · rw [if_neg q1, if_pos (by omega)]
      rw [eg]
      -- gathering
      have mk0 : ¬ inS (2 * k) k ∧ ¬ inS (2 * k + 1) k := ⟨fun z => by have := z.le; omega, fun z => by have := z.le; omega⟩
      have k1 := GL.2.1 k (fun z => mk0.1 z.1) h2
      have k2 := GR.2.1 k (fun z => mk0.2 z.1) h2
      have w1 : SR.2 0 (44 + k) = 1 := by rw [k2.2.1, k1.2.1]; exact P3
      have w2 : SR.2 0 (172 + k) = 0 := by rw [k2.2.2, k1.2.2]; exact P4
      have vk : sR.1 k = s1.1 k := k2.1.trans k1.1
      have e2 : st2 F L (nI f) (nI t) A B k (sR.1 k) (sR.1 (2 * k)) (sR.1 (2 * k + 1)) = (jnN (sR.1 k) (sR.1 (2 * k)) (sR.1 (2 * k + 1)), sR.1 (2 * k), sR.1 (2 * k + 1), 0, 0) := by
        have e3 : st2 F L (nI f) (nI t) A B k (sR.1 k) (sR.1 (2 * k)) (sR.1 (2 * k + 1)) = ((if k < 64 then jnN (sR.1 k) (sR.1 (2 * k)) (sR.1 (2 * k + 1)) else sR.1 k), sR.1 (2 * k), sR.1 (2 * k + 1), 0, 0) := (if_neg nt).trans (if_pos ps)
        rw [e3, if_pos g5]
      rw [lst_1 e2]
      have hRl2 : ∀ x, inS (2 * k) x → x < 128 → (gp n x).1 < (gp n x).2 → Rn n sR.1 (SR.2 0) x := GR.other h40 (by omega) (fun x hx z => inS.apart h1 hx z) (fun _ => by rw [g3, g4]; simp only; omega) GL.1
      have Rl := hRl2 (2 * k) (inS.rfl' _) (by omega) x1
      have Rr := GR.1 (2 * k + 1) (inS.rfl' _) (by omega) x2
      have ek : ∀ i, (gp n k).1 ≤ i → i < (gp n k).2 → el n (SR.2 0) k i = el n (SR.2 0) (gch n k i) i := fun i p q => by
        rw [el_in _ i h40 h1 h2 cin, w1, w2, Int32.one_mul, Int32.add_zero]
      have ekl : ∀ i, (gp n k).1 ≤ i → i < m → el n (SR.2 0) k i = el n (SR.2 0) (2 * k) i := fun i p q => by
        rw [ek i p (by omega), show gch n k i = 2 * k from if_pos (by rw [g3]; exact q)]
      have ekr : ∀ i, m ≤ i → i < (gp n k).2 → el n (SR.2 0) k i = el n (SR.2 0) (2 * k + 1) i := fun i p q => by
        rw [ek i (by omega) q, show gch n k i = 2 * k + 1 from if_neg (by rw [g3]; simp only; omega)]
      have bl : ∀ i, (gp n k).1 ≤ i → i < m → bd (el n (SR.2 0) (2 * k) i) := fun i p q => Rl.2.2.1 i (by rw [g3]; exact p) (by rw [g3]; exact q)
      have br : ∀ i, m ≤ i → i < (gp n k).2 → bd (el n (SR.2 0) (2 * k + 1) i) := fun i p q => Rr.2.2.1 i (by rw [g4]; exact p) (by rw [g4]; exact q)
      have Sl := Rl.2.2.2.1
      have Sr := Rr.2.2.2.1
      unfold Sc at Sl Sr
      rw [g3] at Sl
      rw [g4] at Sr
      simp only at Sl Sr
      obtain ⟨⟨i1, u1, u2, u3⟩, u4, ⟨i2, u5, u6, u7⟩, u8, u9⟩ := Sl
      obtain ⟨⟨j1, t1, t2, t3⟩, t4, ⟨j2, t5, t6, t7⟩, t8, t9⟩ := Sr
      have mn : ∀ a b : Int32, (zmin a b = a ∧ a.toInt ≤ b.toInt) ∨ (zmin a b = b ∧ b.toInt ≤ a.toInt) := fun a b => by
        unfold zmin
        by_cases q : b < a
        · rw [if_pos q]; right; exact ⟨rfl, by have := Int32.lt_iff_toInt_lt.mp q; omega⟩
        · rw [if_neg q]; left; exact ⟨rfl, by have : ¬ b.toInt < a.toInt := fun z => q (Int32.lt_iff_toInt_lt.mpr z); omega⟩
      have mx : ∀ a b : Int32, (zmax a b = a ∧ b.toInt ≤ a.toInt) ∨ (zmax a b = b ∧ a.toInt ≤ b.toInt) := fun a b => by
        unfold zmax
        by_cases q : a < b
        · rw [if_pos q]; right; exact ⟨rfl, by have := Int32.lt_iff_toInt_lt.mp q; omega⟩
        · rw [if_neg q]; left; exact ⟨rfl, by have : ¬ a.toInt < b.toInt := fun z => q (Int32.lt_iff_toInt_lt.mpr z); omega⟩
      have Rk : Rn n (fun x => if x = k then jnN (sR.1 k) (sR.1 (2 * k)) (sR.1 (2 * k + 1)) else sR.1 x) (SR.2 0) k := by
        have R0 := G1.1 k (inS.rfl' k) h2 hx
        have ef : (fun x => if x = k then jnN (sR.1 k) (sR.1 (2 * k)) (sR.1 (2 * k + 1)) else sR.1 x) k = jnN (sR.1 k) (sR.1 (2 * k)) (sR.1 (2 * k + 1)) := if_pos rfl
        unfold Rn
        rw [ef, w1, w2]
        refine ⟨?_, Or.inr (Or.inr rfl), fun i p q => ?_, ⟨?_, fun i p q => ?_, ?_, fun i p q => ?_, ?_⟩, fun z => absurd cin z⟩
        · show (sR.1 k).2.2.2.1 = 1 ∧ (sR.1 k).2.2.2.2 = 0
          rw [vk, R0.1.1, R0.1.2]
          exact ⟨P3, P4⟩
        · by_cases z : i < m
          · rw [ekl i p z]; exact bl i p z
          · rw [ekr i (by omega) q]; exact br i (by omega) q
        · show ∃ i, (gp n k).1 ≤ i ∧ i < (gp n k).2 ∧ zmin (sR.1 (2 * k)).2.1 (sR.1 (2 * k + 1)).2.1 = el n (SR.2 0) k i
          rcases mn (sR.1 (2 * k)).2.1 (sR.1 (2 * k + 1)).2.1 with ⟨z, _⟩ | ⟨z, _⟩
          · exact ⟨i1, u1, by omega, by rw [z, ekl i1 u1 u2]; exact u3⟩
          · exact ⟨j1, by omega, t2, by rw [z, ekr j1 t1 t2]; exact t3⟩
        · show (zmin (sR.1 (2 * k)).2.1 (sR.1 (2 * k + 1)).2.1).toInt ≤ _
          have z := mn (sR.1 (2 * k)).2.1 (sR.1 (2 * k + 1)).2.1
          by_cases y : i < m
          · rw [ekl i p y]
            have := u4 i p y
            rcases z with ⟨z1, z2⟩ | ⟨z1, z2⟩ <;> rw [z1] <;> omega
          · rw [ekr i (by omega) q]
            have := t4 i (by omega) q
            rcases z with ⟨z1, z2⟩ | ⟨z1, z2⟩ <;> rw [z1] <;> omega
        · show ∃ i, (gp n k).1 ≤ i ∧ i < (gp n k).2 ∧ zmax (sR.1 (2 * k)).2.2.1 (sR.1 (2 * k + 1)).2.2.1 = el n (SR.2 0) k i
          rcases mx (sR.1 (2 * k)).2.2.1 (sR.1 (2 * k + 1)).2.2.1 with ⟨z, _⟩ | ⟨z, _⟩
          · exact ⟨i2, u5, by omega, by rw [z, ekl i2 u5 u6]; exact u7⟩
          · exact ⟨j2, by omega, t6, by rw [z, ekr j2 t5 t6]; exact t7⟩
        · show _ ≤ (zmax (sR.1 (2 * k)).2.2.1 (sR.1 (2 * k + 1)).2.2.1).toInt
          have z := mx (sR.1 (2 * k)).2.2.1 (sR.1 (2 * k + 1)).2.2.1
          by_cases y : i < m
          · rw [ekl i p y]
            have := u8 i p y
            rcases z with ⟨z1, z2⟩ | ⟨z1, z2⟩ <;> rw [z1] <;> omega
          · rw [ekr i (by omega) q]
            have := t8 i (by omega) q
            rcases z with ⟨z1, z2⟩ | ⟨z1, z2⟩ <;> rw [z1] <;> omega
        · show (sR.1 (2 * k)).1 + (sR.1 (2 * k + 1)).1 = _
          rw [u9, t9, show (gp n k).2 - (gp n k).1 = (m - (gp n k).1) + ((gp n k).2 - m) by omega, sumF_app, show (gp n k).1 + (m - (gp n k).1) = m by omega]
          rw [sumF_cong (m - (gp n k).1) (fun i p q => (congrArg Int32.toInt64 (ekl i p (by omega))).symm), sumF_cong ((gp n k).2 - m) (fun i p q => (congrArg Int32.toInt64 (ekr i p (by omega))).symm)]
      refine ⟨fun x hs hx2 hgx => ?_, fun x hs hx2 => ?_, fun i hi hni => ?_, ?_, GR.2.2.2.2.1, GR.2.2.2.2.2⟩
      · rcases hs.dn with q | q | q
        · rw [q]; exact Rk
        · exact (hRl2 x q hx2 hgx).cong (fun _ _ _ => rfl) (if_neg (fun z => by have := q.le; omega)) rfl rfl
        · exact (GR.1 x q hx2 hgx).cong (fun _ _ _ => rfl) (if_neg (fun z => by have := q.le; omega)) rfl rfl
      · have q1 : ¬ x = k := fun z => hs (by rw [z]; exact ⟨inS.rfl' _, hx⟩)
        obtain ⟨a1, a2, a3⟩ := GR.2.1 x (fun z => hs ⟨z.1.r, z.2⟩) hx2
        obtain ⟨b1, b2, b3⟩ := GL.2.1 x (fun z => hs ⟨z.1.l, z.2⟩) hx2
        obtain ⟨c1, c2, c3⟩ := G1.2.1 x hs hx2
        exact ⟨(if_neg q1).trans (a1.trans (b1.trans c1)), a2.trans (b2.trans c2), a3.trans (b3.trans c3)⟩
      · rw [GR.2.2.1 i hi (by rw [g4]; simp only; omega), GL.2.2.1 i hi (by rw [g3]; simp only; omega), G1.2.2.1 i hi hni]
      · obtain ⟨a1, a2, a3⟩ := GR.2.2.2.1
        obtain ⟨b1, b2, b3⟩ := GL.2.2.2.1
        obtain ⟨c1, c2, c3⟩ := G1.2.2.2.1
        exact ⟨a1.trans (b1.trans c1), a2.trans (b2.trans c2), a3.trans (b3.trans c3)⟩
end DFS
