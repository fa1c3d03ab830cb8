variable {sc : SC}
/-! ===== what an update would do: both sides ===== -/
theorem tri_L2 {n f t : Nat} : ∀ (fu : Nat) (c : Int32) (k : Nat) (S : ZS), k + fu = 300 → (g_m_tries_L2 n f t fu c k S).1 = c ∧ (g_m_tries_L2 n f t fu c k S).2.1 = S.1 ∧ (∀ j, ¬ j = 0 → (g_m_tries_L2 n f t fu c k S).2.2 j = S.2 j) ∧ ∀ q, (g_m_tries_L2 n f t fu c k S).2.2 0 q = if k ≤ q ∧ q < 300 then S.2 2 q else S.2 0 q := by
  intro fu
  induction fu with
  | zero => intro c k S h; exact ⟨rfl, rfl, fun _ _ => rfl, fun q => by rw [if_neg (by omega)]; rfl⟩
  | succ fu ih =>
    intro c k S h
    obtain ⟨r1, r2, r3, r4⟩ := ih c (k + 1) (sA 0 (k) (S.2 2 (k)) S) (by omega)
    refine ⟨r1, r2, fun j hj => (r3 j hj).trans (sA_x hj), fun q => ?_⟩
    rw [g_m_tries_L2, r4 q]
    show (if k + 1 ≤ q ∧ q < 300 then S.2 2 q else if q = k then S.2 2 k else S.2 0 q) = _
    by_cases c : q = k
    · rw [if_neg (by omega), if_pos c, if_pos (by omega), c]
    · by_cases d : k + 1 ≤ q ∧ q < 300
      · rw [if_pos d, if_pos (by omega)]
      · rw [if_neg d, if_neg c, if_neg (by omega)]
theorem tri_L1 {n f t : Nat} : ∀ (fu k : Nat) (S : ZS), k + fu = 300 → ∃ S2, g_m_tries_L1 n f t fu k S = g_m_tries_L2 n f t 300 ((((g_m_updates n f t ((-1)) (0) S2).2).2 0 (2)) - (((g_m_updates n f t ((-1)) (0) S2).2).2 2 (2))) 0 ((g_m_updates n f t ((-1)) (0) S2).2) ∧ S2.1 = S.1 ∧ (∀ j, ¬ j = 2 → S2.2 j = S.2 j) ∧ ∀ q, S2.2 2 q = if k ≤ q ∧ q < 300 then S.2 0 q else S.2 2 q := by
  intro fu
  induction fu with
  | zero => intro k S h; exact ⟨S, rfl, rfl, fun _ _ => rfl, fun q => by rw [if_neg (by omega)]⟩
  | succ fu ih =>
    intro k S h
    obtain ⟨S2, r1, r2, r3, r4⟩ := ih (k + 1) (sA 2 (k) (S.2 0 (k)) S) (by omega)
    refine ⟨S2, r1, r2, fun j hj => (r3 j hj).trans (sA_x hj), fun q => ?_⟩
    rw [r4 q]
    show (if k + 1 ≤ q ∧ q < 300 then S.2 0 q else if q = k then S.2 0 k else S.2 2 q) = _
    by_cases c : q = k
    · rw [if_neg (by omega), if_pos c, if_pos (by omega), c]
    · by_cases d : k + 1 ≤ q ∧ q < 300
      · rw [if_pos d, if_pos (by omega)]
      · rw [if_neg d, if_neg c, if_neg (by omega)]
theorem tries_ok {n a b : Nat} {T : TS} {M : ZS} (h : Rel n T (M.2 0)) (hF : mFg M) (hab : a ≤ b) (hb : b < n) : q0 M (g_m_tries n a b (sI 15 0 M)).2 ∧ ∃ (l : List Nat) (v p : Nat), l.length ≤ 40 ∧ (g_m_tries n a b (sI 15 0 M)).2.1 21 = nI l.length ∧ (g_m_tries n a b (sI 15 0 M)).2.1 22 = nI v ∧ (g_m_tries n a b (sI 15 0 M)).1 = nI p ∧
    (∀ j x, l[j]? = some x → (g_m_tries n a b (sI 15 0 M)).2.2 11 j = nI x) ∧ Cov n (tF T) (tL T) a b a l (b + 1) ∧
    (∀ c, zdfs (cA (tF T) (tL T) (nI a) (nI b)) kpS 7 1 c = c + l.length) ∧ (∀ c, zdfs (cV (tF T) (tL T) (nI a) (nI b)) kpS 7 1 c = c + v) ∧ (∀ c, zdfs (cP T (nI a) (nI b)) kpS 7 1 c = c + p) := by
  have h1 := h.1.1.1
  have h40 := h.1.1.2
  have hL := h.2.2.1
  obtain ⟨S2, r1, r2, r3, r4⟩ := tri_L1 (n := n) (f := a) (t := b) 300 0 (sI 15 0 M) (by decide)
  have e0 : g_m_tries n a b (sI 15 0 M) = g_m_tries_L1 n a b 300 0 (sI 15 0 M) := rfl
  have s0 : S2.2 0 = M.2 0 := r3 0 (by decide)
  have hR2 : Rel n T (S2.2 0) := by rw [s0]; exact h
  have hF2 : mFg S2 := (hF.gF (gF_I (k := 15) (v := 0) (by decide))).gF (Or.inl ⟨congrFun r2 19, r3 8 (by decide), r3 9 (by decide), r3 10 (by decide)⟩)
  have hO2 := rel_ok hR2 hF2
  have hu := (upd_keep (f := a) (t := b) (F := -1) (O := 0) h1 h40 hO2).1
  obtain ⟨U, hU⟩ : ∃ U, U = (g_m_updates n a b (-1) 0 S2).2 := ⟨_, rfl⟩
  rw [← hU] at r1 hu
  obtain ⟨q1, q2, q3, q4⟩ := tri_L2 (n := n) (f := a) (t := b) 300 (U.2 0 2 - U.2 2 2) 0 U (by decide)
  rw [e0, r1]
  -- the way of the reference
  obtain ⟨S0, hS0⟩ : ∃ S0, S0 = sI 22 (0) (sI 21 (0) (g_m_grows n S2)) := ⟨_, rfl⟩
  have hgr := mEq_grows (n := n) S2 h1 h40
  have z0 : S0.2 0 = M.2 0 := by rw [hS0]; exact (hgr.2 0 (by decide) (by decide) (by decide)).trans s0
  have m21 : S0.1 21 = 0 := by rw [hS0]; rfl
  have m22 : S0.1 22 = 0 := by rw [hS0]; rfl
  have m0 : mc S0 = 0 := by unfold mc; rw [m21]; decide
  have hg := gp_1 n
  have hmk : ∀ x, 1 ≤ x → x < 128 → (gp n x).1 < (gp n x).2 → (S0.2 0 (44 + x), S0.2 0 (172 + x)) = (tfa T x, tog T x) := fun x y1 y2 y3 => by
    obtain ⟨w1, w2⟩ := (h.2.2.2.1 x y1 y2 y3).1
    rw [z0]
    exact Prod.ext w1.symm w2.symm
  have cnt := goes_cnt (A := -1) (B := 0) hL h40 hb hab 7 1 S0 (by decide) (by decide) (by decide) (by decide) (by rw [hg]; exact h1) (by rw [hg]; exact Nat.zero_le _) (by rw [hg]; simp only; omega) (fun z => absurd z.1 (by decide)) ⟨by rw [m0, m21]; rfl, by rw [m0]; exact Nat.zero_le _⟩ (fun _ => by rw [acc_1]; exact hmk 1 (by decide) (by decide) (by rw [hg]; exact h1)) (fun x hx hne hx2 hin => hmk x hx.le hx2 (by omega))
  have met := goes_met (F := -1) (O := 0) h40 hab hb 7 1 S0 (by decide) (by decide) (by rw [hg]; exact h1) (by decide) (by rw [hg]; exact Nat.zero_le _) (by rw [hg]; simp only; omega) ⟨by rw [m0, m21]; rfl, by rw [m0]; exact Nat.zero_le _⟩
  obtain ⟨S1, hS1⟩ : ∃ S1, S1 = g_m_goes 7 n 1 a b (-1) 0 S0 := ⟨_, rfl⟩
  rw [← hS1] at cnt met
  rw [hg] at met
  have eu : U = sA 0 3 (S1.2 0 3 + S1.1 21) (sA 0 1 (S1.2 0 1 + 1) S1) := by rw [hU, hS1, hS0]; rfl
  obtain ⟨-, l, v, p, c1, c2, c3, -, c5, c6, c7, c8, c9⟩ := cnt
  rw [m0, Nat.zero_add] at c1
  rw [m22, Int32.zero_add] at c2
  have u1 : U.1 = S1.1 := by rw [eu]; rfl
  have u11 : U.2 11 = S1.2 11 := by rw [eu]; rfl
  have u02 : U.2 0 2 = S1.2 0 2 := by rw [eu]; rfl
  have u22 : U.2 2 2 = M.2 0 2 := by
    rw [hu.2.1 2 (by decide) (Or.inl (by decide)), r4, if_pos ⟨Nat.zero_le _, by decide⟩]
    rfl
  have e21 : S1.1 21 = nI l.length := by rw [← c1]; exact met.1
  have hlen : l.length ≤ 40 := by rw [← c1]; have := met.2; omega
  refine ⟨⟨⟨fun k y1 y2 y3 y4 => ?_, fun j y1 y2 => ?_, fun k hk => ?_, ?_⟩, ?_⟩, l, v, p, hlen, ?_, ?_, ?_, fun j x hj => ?_, ?_, c7, c8, c9⟩
  · rw [q2, hu.1 k y2 y3 y4, r2]; exact sI_o y1
  · rw [q3 j (by omega), hu.2.1 j (by omega) (Or.inl y2)]; exact r3 j (by omega)
  · rw [q4, if_pos ⟨Nat.zero_le _, hk⟩, hu.2.1 2 (by decide) (Or.inl (by decide)), r4, if_pos ⟨Nat.zero_le _, hk⟩]; rfl
  · exact (hF2.gF hu.2.2).gF (Or.inl ⟨congrFun q2 19, q3 8 (by decide), q3 9 (by decide), q3 10 (by decide)⟩)
  · rw [q2, hu.1 15 (by decide) (by decide) (by decide), r2]; exact sI_same _ _ _
  · rw [q2, u1]; exact e21
  · rw [q2, u1]; exact c2
  · rw [q1, u02, u22, c3, z0, Int32.add_comm, Int32.add_sub_cancel]
  · rw [q3 11 (by decide), u11]
    have := c5 j x hj
    rw [m0, Nat.zero_add] at this
    exact this
  · rw [hg] at c6
    have e1 : max a 0 = a := by omega
    have e2 : min (b + 1) n = b + 1 := by omega
    simp only at c6
    rw [e1, e2] at c6
    exact c6
theorem zdn_kp {σ : Type} : ∀ (n : Nat) (s : σ), zdn kpS n s = s := by
  intro n
  induction n with
  | zero => intro s; rfl
  | succ n ih => intro s; exact ih s
/-- counts don't mind the order -/
theorem cnt_order (g : Nat → Nat → Nat) (hg : ∀ k c, g k c = c + g k 0) (c : Nat) : zup g 127 1 c = zdfs g kpS 7 1 c := by
  rw [← z_order g kpS (fun i j s _ => by rw [hg i (g j s), hg j s, hg j (g i s), hg i s]; omega) (fun _ _ _ _ => rfl) (fun _ _ _ _ => rfl), zdn_kp]
section QC
variable {n a b : Nat} {S X R : ZS} {T : TS} {M : ZS}
theorem cA_p {F L : Nat → Int32} {f t : Int32} (k c : Nat) : cA F L f t k c = c + cA F L f t k 0 := by
  by_cases z : takF F L f t k
  · rw [show cA F L f t k c = c + 1 from if_pos z, show cA F L f t k 0 = 0 + 1 from if_pos z]
  · rw [show cA F L f t k c = c from if_neg z, show cA F L f t k 0 = 0 from if_neg z]; rfl
theorem cV_p {F L : Nat → Int32} {f t : Int32} (k c : Nat) : cV F L f t k c = c + cV F L f t k 0 := by
  by_cases z : takF F L f t k ∨ pasF F L f t k
  · rw [show cV F L f t k c = c + 1 from if_pos z, show cV F L f t k 0 = 0 + 1 from if_pos z]
  · rw [show cV F L f t k c = c from if_neg z, show cV F L f t k 0 = 0 from if_neg z]; rfl
theorem cP_p {f t : Int32} (k c : Nat) : cP T f t k c = c + cP T f t k 0 := by
  by_cases z : pasF (tF T) (tL T) f t k ∧ tMfa T k
  · rw [show cP T f t k c = c + 1 from if_pos z, show cP T f t k 0 = 0 + 1 from if_pos z]
  · rw [show cP T f t k c = c from if_neg z, show cP T f t k 0 = 0 from if_neg z]; rfl
theorem q_appliedFor : ∀ (fu k c : Nat), g_c_6_appliedFor_L n a b fu k (nI c) S X R T = nI (zup (cA (tF T) (tL T) (nI a) (nI b)) fu k c) := by
  intro fu
  induction fu with
  | zero => intro k c; rfl
  | succ fu ih =>
    intro k c
    rw [g_c_6_appliedFor_L, zup]
    by_cases z : tTak T k (nI a) (nI b)
    · rw [if_pos (decide_eq_true z), nI_1, ih, show cA (tF T) (tL T) (nI a) (nI b) k c = c + 1 from if_pos z]
    · rw [if_neg (fun e => z (of_decide_eq_true e)), ih, show cA (tF T) (tL T) (nI a) (nI b) k c = c from if_neg z]
theorem q_visitedFor : ∀ (fu k c : Nat), g_c_6_visitedFor_L n a b fu k (nI c) S X R T = nI (zup (cV (tF T) (tL T) (nI a) (nI b)) fu k c) := by
  intro fu
  induction fu with
  | zero => intro k c; rfl
  | succ fu ih =>
    intro k c
    rw [g_c_6_visitedFor_L, zup]
    by_cases z : tTak T k (nI a) (nI b)
    · rw [if_pos (decide_eq_true z), nI_1, ih, show cV (tF T) (tL T) (nI a) (nI b) k c = c + 1 from if_pos (Or.inl z)]
    · rw [if_neg (fun e => z (of_decide_eq_true e))]
      by_cases y : tPas T k (nI a) (nI b)
      · rw [if_pos (decide_eq_true y), nI_1, ih, show cV (tF T) (tL T) (nI a) (nI b) k c = c + 1 from if_pos (Or.inr y)]
      · rw [if_neg (fun e => y (of_decide_eq_true e)), ih, show cV (tF T) (tL T) (nI a) (nI b) k c = c from if_neg (fun e => e.elim z y)]
theorem q_pushesFor : ∀ (fu k c : Nat), g_c_6_pushesFor_L n a b fu k (nI c) S X R T = nI (zup (cP T (nI a) (nI b)) fu k c) := by
  intro fu
  induction fu with
  | zero => intro k c; rfl
  | succ fu ih =>
    intro k c
    rw [g_c_6_pushesFor_L, zup]
    by_cases y : tPas T k (nI a) (nI b)
    · rw [if_pos (decide_eq_true y)]
      by_cases z : tMfa T k
      · rw [if_pos (decide_eq_true z), nI_1, ih, show cP T (nI a) (nI b) k c = c + 1 from if_pos ⟨y, z⟩]
      · rw [if_neg (fun e => z (of_decide_eq_true e)), ih, show cP T (nI a) (nI b) k c = c from if_neg (fun e => z e.2)]
    · rw [if_neg (fun e => y (of_decide_eq_true e)), ih, show cP T (nI a) (nI b) k c = c from if_neg (fun e => y e.1)]
theorem e_appliedFor (h : Rel n T (M.2 0)) (hF : mFg M) (hab : a ≤ b) (hb : b < n) : q0 M (g_m_appliedFor n a b M).2 ∧ g_c_6_appliedFor n a b S X R T = (g_m_appliedFor n a b M).1 := by
  obtain ⟨k0, l, v, p, k1, k2, k3, k4, k5, k6, k7, k8, k9⟩ := tries_ok h hF hab hb
  rw [g_m_appliedFor]
  generalize g_m_tries n a b (sI 15 0 M) = Y at k0 k2 ⊢
  refine ⟨k0, ?_⟩
  rw [g_c_6_appliedFor, show (0 : Int32) = nI 0 from rfl, q_appliedFor, cnt_order _ cA_p, k7, Nat.zero_add]
  exact k2.symm
theorem e_visitedFor (h : Rel n T (M.2 0)) (hF : mFg M) (hab : a ≤ b) (hb : b < n) : q0 M (g_m_visitedFor n a b M).2 ∧ g_c_6_visitedFor n a b S X R T = (g_m_visitedFor n a b M).1 := by
  obtain ⟨k0, l, v, p, k1, k2, k3, k4, k5, k6, k7, k8, k9⟩ := tries_ok h hF hab hb
  rw [g_m_visitedFor]
  generalize g_m_tries n a b (sI 15 0 M) = Y at k0 k3 ⊢
  refine ⟨k0, ?_⟩
  rw [g_c_6_visitedFor, show (0 : Int32) = nI 0 from rfl, q_visitedFor, cnt_order _ cV_p, k8, Nat.zero_add]
  exact k3.symm
theorem e_pushesFor (h : Rel n T (M.2 0)) (hF : mFg M) (hab : a ≤ b) (hb : b < n) : q0 M (g_m_pushesFor n a b M).2 ∧ g_c_6_pushesFor n a b S X R T = (g_m_pushesFor n a b M).1 := by
  obtain ⟨k0, l, v, p, k1, k2, k3, k4, k5, k6, k7, k8, k9⟩ := tries_ok h hF hab hb
  rw [g_m_pushesFor]
  generalize g_m_tries n a b (sI 15 0 M) = Y at k0 k4 ⊢
  refine ⟨k0, ?_⟩
  rw [g_c_6_pushesFor, show (0 : Int32) = nI 0 from rfl, q_pushesFor, cnt_order _ cP_p, k9, Nat.zero_add]
  exact k4.symm
/-- the way up from a leaf meets the taken node -/
theorem tTF_up (hL : Lay n (tF T) (tL T)) (h40 : n ≤ 40) (hab : a ≤ b) (hb : b < n) {k : Nat} (h1 : 1 ≤ k) (hk : k < 128) (hx : (gp n k).1 < (gp n k).2) (ht : takF (tF T) (tL T) (nI a) (nI b) k) (i : Int32) : ∀ (fu x : Nat), inS k x → x < 128 → (gp n x).1 < (gp n x).2 → x < 2 ^ fu → tTF T i (nI a) (nI b) fu x = if tF T k = i then nI k else -1 := by
  intro fu
  induction fu with
  | zero => intro x hs _ _ hf; rw [Nat.pow_zero] at hf; have := hs.le; omega
  | succ fu ih =>
    intro x hs h2 hg hf
    have hle := hs.le
    rw [tTF, if_neg (by omega)]
    rw [Nat.pow_succ] at hf
    rcases hs.dn with q | q
    · rw [q, if_pos (show tTak T k (nI a) (nI b) from ht)]
    · have hin := (lay_ins hL h40 hb hab h1 hk).mp ht.1
      have hno := (no_in hL h40 hb hab h1 hin.2 q h2).2
      have hge : 2 * k ≤ x := q.elim (fun z => z.le) (fun z => by have := z.le; omega)
      have gpp := gp_par h40 (by omega) h2 hg
      rw [if_neg (show ¬ tTak T x (nI a) (nI b) from hno)]
      exact ih (x / 2) (inS.half q) (by omega) (by omega) (by omega)
theorem aN_skip {p : Int32} : ∀ (m fu i : Nat) (c : Int32), (∀ j, i ≤ j → j < i + m → tTF T (nI j) (nI a) (nI b) 7 (tLeaf T (nI j)) = -1) → g_c_6_appliedNode_L n a b p (m + fu) i c S X R T = g_c_6_appliedNode_L n a b p fu (i + m) c S X R T := by
  intro m
  induction m with
  | zero => intro fu i c _; rw [Nat.zero_add]; rfl
  | succ m ih =>
    intro fu i c h
    rw [show m + 1 + fu = (m + fu) + 1 by omega, g_c_6_appliedNode_L, if_pos (h i (Nat.le_refl _) (by omega)), ih fu (i + 1) c (fun j p r => h j (by omega) (by omega))]
    congr 1
    omega
theorem q_appliedNode (h : Rel n T (M.2 0)) (hab : a ≤ b) (hb : b < n) {p : Int32} : ∀ (l : List Nat) (x c fu : Nat), Cov n (tF T) (tL T) a b x l (b + 1) → x + fu = b + 1 → (∀ j y, l[j]? = some y → p = nI (c + j) → (∀ i, i < j → ¬ p = nI (c + i)) → g_c_6_appliedNode_L n a b p fu x (nI c) S X R T = nI y) ∧ ((∀ j, j < l.length → ¬ p = nI (c + j)) → g_c_6_appliedNode_L n a b p fu x (nI c) S X R T = -1) := by
  have h40 := h.1.1.2
  have hL := h.2.2.1
  intro l
  induction l with
  | nil =>
    intro x c fu hc hf
    have e : x = b + 1 := hc
    have : fu = 0 := by omega
    subst this
    exact ⟨fun j y hj => (by cases hj), fun _ => rfl⟩
  | cons k l ih =>
    intro x c fu hc hf
    obtain ⟨⟨⟨h1, hk⟩, hx, hx2, ht⟩, hc2⟩ := hc
    have hin := (lay_ins hL h40 hb hab h1 hk).mp ht.1
    have hk9 := gp_40 n k h40
    have hF1 := ((hL k h1 hk).1 hx2).1
    -- what the way up from an index in this node answers
    have way : ∀ i, (gp n k).1 ≤ i → i < (gp n k).2 → tTF T (nI i) (nI a) (nI b) 7 (tLeaf T (nI i)) = if i = (gp n k).1 then nI k else -1 := fun i p1 p2 => by
      have hi : i < n := by omega
      have hl := lf_gp h40 hi
      have hs : inS k (lf n i) := lf_in h40 7 k h1 hk (by omega) p1 p2
      rw [tLeaf_eq h hi, tTF_up hL h40 hab hb h1 hk hx2 ht (nI i) 7 (lf n i) hs hl.2.2 (by rw [hl.1]; exact Nat.lt_succ_self _) (by omega), hF1]
      by_cases z : i = (gp n k).1
      · rw [if_pos (by rw [z]), if_pos z]
      · rw [if_neg (fun y => z ?_), if_neg z]
        have := congrArg Int32.toInt y
        rw [nI_toInt (by omega), nI_toInt (by omega)] at this
        omega
    have w0 := way x (by omega) (by omega)
    rw [if_pos hx.symm] at w0
    have ef : fu = ((gp n k).2 - (x + 1)) + (b + 1 - (gp n k).2) + 1 := by omega
    have hne : ¬ nI k = -1 := fun z => nI_m1 (a := k) (by omega) (by rw [z]; exact Int32.le_refl _)
    have step : g_c_6_appliedNode_L n a b p fu x (nI c) S X R T = if nI c = p then nI k else g_c_6_appliedNode_L n a b p (b + 1 - (gp n k).2) (gp n k).2 (nI (c + 1)) S X R T := by
      rw [ef, g_c_6_appliedNode_L, w0, if_neg hne, nI_1, aN_skip ((gp n k).2 - (x + 1)) (b + 1 - (gp n k).2) (x + 1) (nI (c + 1)) (fun j p1 p2 => by
        rw [way j (by omega) (by omega), if_neg (by omega)])]
      rw [show x + 1 + ((gp n k).2 - (x + 1)) = (gp n k).2 by omega]
    obtain ⟨i1, i2⟩ := ih (gp n k).2 (c + 1) (b + 1 - (gp n k).2) hc2 (by omega)
    rw [step]
    refine ⟨fun j y hj hp hno => ?_, fun hno => ?_⟩
    · cases j with
      | zero =>
        cases hj
        have hp0 : p = nI c := hp
        rw [if_pos hp0.symm]
      | succ j =>
        rw [if_neg (fun z => hno 0 (Nat.succ_pos _) z.symm)]
        exact i1 j y hj (by rw [hp]; congr 1; omega) (fun i hi z => hno (i + 1) (by omega) (by rw [z]; congr 1; omega))
    · rw [if_neg (fun z => hno 0 (Nat.succ_pos _) z.symm)]
      exact i2 (fun j hj z => hno (j + 1) (by rw [List.length_cons]; omega) (by rw [z]; congr 1; omega))
end QC
