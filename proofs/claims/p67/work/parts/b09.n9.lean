variable {sc : SC}
def layI (n m : Nat) (T : TS) : Prop := (∀ k, 1 ≤ k → k < 128 → k < 2 * m → ((gp n k).1 < (gp n k).2 → tF T k = nI (gp n k).1 ∧ tL T k = nI ((gp n k).2 - 1)) ∧ (¬ (gp n k).1 < (gp n k).2 → tF T k = -1 ∧ tL T k = -1)) ∧ ∀ k, k < 128 → 2 * m ≤ k → tF T k = -1 ∧ tL T k = -1
def tKl (T U : TS) : Prop := tn U = tn T ∧ tu U = tu T ∧ tp U = tp T ∧ ta U = ta T ∧ tva U = tva T
theorem lay_step {n : Nat} (h40 : n ≤ 40) : ∀ (c k : Nat) (T : TS), 1 ≤ k → k + c = 64 → layI n k T → layI n 64 (zup tLay1 c k T) ∧ tKl T (zup tLay1 c k T) := by
  intro c
  induction c with
  | zero =>
    intro k T _ h2 h
    have : k = 64 := by omega
    subst this
    exact ⟨h, rfl, rfl, rfl, rfl, rfl⟩
  | succ c ih =>
    intro k T h1 h2 h
    have h9 := gp_40 n k h40
    by_cases ci : (gp n k).1 + 2 ≤ (gp n k).2
    · obtain ⟨m, g1, g2, g3, g4, g5⟩ := gpc h40 h1 (by omega) ci
      obtain ⟨l1, l2⟩ := (h.1 k h1 (by omega) (by omega)).1 (by omega)
      have hlt : tF T k < tL T k := by rw [l1, l2, nI_ltI (by omega) (by omega)]; omega
      have e : tLay1 k T = tF2 T (tLayF T k) (tLayL T k) := if_pos hlt
      have hm : tMid T k = nI (m - 1) := by
        have g3' := gp_L n k h1 g5
        rw [if_pos ci] at g3'
        have em : m = ((gp n k).1 + (gp n k).2 - 1) / 2 + 1 := congrArg Prod.snd (g3.symm.trans g3')
        unfold tMid
        rw [l1, l2, nI_add, show (2 : Int32) = nI 2 by decide, pk_div (by omega) (by decide) (by decide)]
        congr 1
        omega
      have hF : ∀ x, tF (tLay1 k T) x = if x = 2 * k + 1 then nI (m - 1) + 1 else if x = 2 * k then tF T k else tF T x := fun x => by rw [e, ← hm]; rfl
      have hL : ∀ x, tL (tLay1 k T) x = if x = 2 * k + 1 then tL T k else if x = 2 * k then nI (m - 1) else tL T x := fun x => by
        rw [e, ← hm]
        show (if x = 2 * k + 1 then (if k = 2 * k then tMid T k else tL T k) else if x = 2 * k then tMid T k else tL T x) = _
        rw [if_neg (by omega : ¬ k = 2 * k)]
      have hk : tKl T (tLay1 k T) := by rw [e]; exact ⟨rfl, rfl, rfl, rfl, rfl⟩
      have hI : layI n (k + 1) (tLay1 k T) := by
        refine ⟨fun x q1 q2 q3 => ?_, fun x q1 q2 => ?_⟩
        · rw [hF, hL]
          by_cases y1 : x = 2 * k + 1
          · rw [if_pos y1, if_pos y1, y1, g4]
            refine ⟨fun _ => ⟨?_, l2⟩, fun z => absurd g2 z⟩
            rw [nI_1]
            show nI (m - 1 + 1) = nI m
            congr 1
            omega
          · rw [if_neg y1, if_neg y1]
            by_cases y2 : x = 2 * k
            · rw [if_pos y2, if_pos y2, y2, g3]
              exact ⟨fun _ => ⟨l1, rfl⟩, fun z => absurd g1 z⟩
            · rw [if_neg y2, if_neg y2]
              exact h.1 x q1 q2 (by omega)
        · rw [hF, hL, if_neg (by omega), if_neg (by omega), if_neg (by omega), if_neg (by omega)]
          exact h.2 x q1 (by omega)
      obtain ⟨r1, r2⟩ := ih (k + 1) (tLay1 k T) (by omega) (by omega) hI
      exact ⟨r1, r2.1.trans hk.1, r2.2.1.trans hk.2.1, r2.2.2.1.trans hk.2.2.1, r2.2.2.2.1.trans hk.2.2.2.1, r2.2.2.2.2.trans hk.2.2.2.2⟩
    · have hlt : ¬ tF T k < tL T k := by
        by_cases x : (gp n k).1 < (gp n k).2
        · obtain ⟨l1, l2⟩ := (h.1 k h1 (by omega) (by omega)).1 x
          rw [l1, l2, nI_ltI (by omega) (by omega)]; omega
        · obtain ⟨l1, l2⟩ := (h.1 k h1 (by omega) (by omega)).2 x
          rw [l1, l2]; decide
      have e : tLay1 k T = T := if_neg hlt
      show layI n 64 (zup tLay1 c (k + 1) (tLay1 k T)) ∧ tKl T (zup tLay1 c (k + 1) (tLay1 k T))
      rw [e]
      refine ih (k + 1) T (by omega) (by omega) ⟨fun x q1 q2 q3 => ?_, fun x q1 q2 => h.2 x q1 (by omega)⟩
      by_cases y : x < 2 * k
      · exact h.1 x q1 q2 y
      · have z := h.2 x q2 (by omega)
        have hn : ¬ (gp n x).1 < (gp n x).2 := by
          rcases (by omega : x = 2 * k ∨ x = 2 * k + 1) with q | q
          · rw [q, gp_L n k h1 (by omega), if_neg ci]; exact Nat.lt_irrefl _
          · rw [q, gp_R n k h1 (by omega), if_neg ci]; exact Nat.lt_irrefl _
        exact ⟨fun q => absurd q hn, fun _ => z⟩
theorem lay_all {n : Nat} {T : TS} (n1 : 1 ≤ n) (h40 : n ≤ 40) (hn : tn T = nI n) : Lay n (tF (tLayOut T)) (tL (tLayOut T)) ∧ tKl T (tLayOut T) := by
  have h0 : layI n 1 (tLay0 T) := by
    have eF : ∀ x, tF (tLay0 T) x = if x = 1 then 0 else if x < 128 then -1 else tF T x := fun x => rfl
    have eL : ∀ x, tL (tLay0 T) x = if x = 1 then nI n - 1 else if x < 128 then -1 else tL T x := fun x => by rw [← hn]; rfl
    refine ⟨fun k q1 q2 q3 => ?_, fun k q1 q2 => ?_⟩
    · have : k = 1 := by omega
      subst this
      rw [eF, eL, if_pos rfl, if_pos rfl, gp_1]
      exact ⟨fun _ => ⟨rfl, pk_sub (a := n) (b := 1) n1⟩, fun z => absurd n1 z⟩
    · rw [eF, eL, if_neg (by omega), if_pos q1, if_neg (by omega), if_pos q1]
      exact ⟨rfl, rfl⟩
  obtain ⟨r1, r2⟩ := lay_step h40 63 1 (tLay0 T) (by decide) (by decide) h0
  exact ⟨fun k q1 q2 => r1.1 k q1 q2 (by omega), r2.1, r2.2.1, r2.2.2.1, r2.2.2.2.1, r2.2.2.2.2⟩
def Row (n : Nat) (v : Nat → Int32) (w : Nat → Int32) : Prop := (∀ k, 1 ≤ k → k < 128 → w (44 + k) = 1 ∧ w (172 + k) = 0) ∧ ∀ i, i < n → w (4 + i) = v i
theorem el_row {n : Nat} {v w : Nat → Int32} (h : Row n v w) (h40 : n ≤ 40) {i : Nat} (hi : i < n) : ∀ (d k : Nat), 1 ≤ k → k < 128 → elF n w i d k = v i := by
  intro d
  induction d with
  | zero => intro k _ _; exact h.2 i hi
  | succ d ih =>
    intro k h1 h2
    rw [elF_s]
    by_cases c : (gp n k).1 + 2 ≤ (gp n k).2
    · have h64 := gp_near n k h40 h2 c
      rw [if_pos c, (h.1 k h1 h2).1, (h.1 k h1 h2).2, Int32.one_mul, Int32.add_zero]
      exact ih _ (by rcases gch_or n k i with q | q <;> omega) (by rcases gch_or n k i with q | q <;> omega)
    · rw [if_neg c]; exact h.2 i hi
theorem zmin_or (a b : Int32) : (zmin a b = a ∧ a.toInt ≤ b.toInt) ∨ (zmin a b = b ∧ b.toInt ≤ a.toInt) := by
  unfold zmin
  by_cases q : b < a
  · rw [if_pos q]; right; exact ⟨rfl, by have := Int32.lt_iff_toInt_lt.mp q; omega⟩
  · rw [if_neg q]; left; exact ⟨rfl, by have : ¬ b.toInt < a.toInt := fun z => q (Int32.lt_iff_toInt_lt.mpr z); omega⟩
theorem zmax_or (a b : Int32) : (zmax a b = a ∧ b.toInt ≤ a.toInt) ∨ (zmax a b = b ∧ a.toInt ≤ b.toInt) := by
  unfold zmax
  by_cases q : a < b
  · rw [if_pos q]; right; exact ⟨rfl, by have := Int32.lt_iff_toInt_lt.mp q; omega⟩
  · rw [if_neg q]; left; exact ⟨rfl, by have : ¬ a.toInt < b.toInt := fun z => q (Int32.lt_iff_toInt_lt.mpr z); omega⟩
theorem Sc_join {n k m : Nat} {w : Nat → Int32} {r a b : NR} (g1 : (gp n k).1 < m) (g2 : m < (gp n k).2) (g3 : gp n (2 * k) = ((gp n k).1, m)) (g4 : gp n (2 * k + 1) = (m, (gp n k).2)) (Sl : Sc n w (2 * k) a) (Sr : Sc n w (2 * k + 1) b)
    (ekl : ∀ i, (gp n k).1 ≤ i → i < m → el n w k i = el n w (2 * k) i) (ekr : ∀ i, m ≤ i → i < (gp n k).2 → el n w k i = el n w (2 * k + 1) i) : Sc n w k (jnN r a b) := by
  unfold Sc at Sl Sr
  rw [g3] at Sl
  rw [g4] at Sr
  simp only at Sl Sr
  obtain ⟨⟨i1, u1, u2, u3⟩, u4, ⟨i2, u5, u6, u7⟩, u8, u9⟩ := Sl
  obtain ⟨⟨j1, t1, t2, t3⟩, t4, ⟨j2, t5, t6, t7⟩, t8, t9⟩ := Sr
  have zn := zmin_or a.2.1 b.2.1
  have zx := zmax_or a.2.2.1 b.2.2.1
  refine ⟨?_, fun i p q => ?_, ?_, fun i p q => ?_, ?_⟩
  · show ∃ i, (gp n k).1 ≤ i ∧ i < (gp n k).2 ∧ zmin a.2.1 b.2.1 = el n w k i
    rcases zn with ⟨z, _⟩ | ⟨z, _⟩
    · exact ⟨i1, u1, by omega, by rw [z, ekl i1 u1 u2]; exact u3⟩
    · exact ⟨j1, by omega, t2, by rw [z, ekr j1 t1 t2]; exact t3⟩
  · show (zmin a.2.1 b.2.1).toInt ≤ _
    by_cases y : i < m
    · rw [ekl i p y]
      have := u4 i p y
      rcases zn with ⟨z1, z2⟩ | ⟨z1, z2⟩ <;> rw [z1] <;> omega
    · rw [ekr i (by omega) q]
      have := t4 i (by omega) q
      rcases zn with ⟨z1, z2⟩ | ⟨z1, z2⟩ <;> rw [z1] <;> omega
  · show ∃ i, (gp n k).1 ≤ i ∧ i < (gp n k).2 ∧ zmax a.2.2.1 b.2.2.1 = el n w k i
    rcases zx with ⟨z, _⟩ | ⟨z, _⟩
    · exact ⟨i2, u5, by omega, by rw [z, ekl i2 u5 u6]; exact u7⟩
    · exact ⟨j2, by omega, t6, by rw [z, ekr j2 t5 t6]; exact t7⟩
  · show _ ≤ (zmax a.2.2.1 b.2.2.1).toInt
    by_cases y : i < m
    · rw [ekl i p y]
      have := u8 i p y
      rcases zx with ⟨z1, z2⟩ | ⟨z1, z2⟩ <;> rw [z1] <;> omega
    · rw [ekr i (by omega) q]
      have := t8 i (by omega) q
      rcases zx with ⟨z1, z2⟩ | ⟨z1, z2⟩ <;> rw [z1] <;> omega
  · show a.1 + b.1 = _
    rw [u9, t9, show (gp n k).2 - (gp n k).1 = (m - (gp n k).1) + ((gp n k).2 - m) by omega, sumF_app, show (gp n k).1 + (m - (gp n k).1) = m by omega]
    rw [sumF_cong (m - (gp n k).1) (fun i p q => (congrArg Int32.toInt64 (ekl i p (by omega))).symm), sumF_cong ((gp n k).2 - m) (fun i p q => (congrArg Int32.toInt64 (ekr i p (by omega))).symm)]
theorem bld_step {n : Nat} {v w : Nat → Int32} {U : TS} (h40 : n ≤ 40) (hL : Lay n (tF U) (tL U)) (hr : Row n v w) (hb : ∀ i, i < n → bd (v i)) (hv : ∀ i, i < n → tva U i = v i) : ∀ (k : Nat) (T : TS), k < 128 → (tKp U T ∧ tp T = tp U ∧ tfa T = tfa U ∧ tog T = tog U) → (∀ x, 1 ≤ x → x < 128 → k < x → (gp n x).1 < (gp n x).2 → Sc n w x (nd T x)) → (tKp U (zdn tBld k T) ∧ tp (zdn tBld k T) = tp U ∧ tfa (zdn tBld k T) = tfa U ∧ tog (zdn tBld k T) = tog U) ∧ ∀ x, 1 ≤ x → x < 128 → (gp n x).1 < (gp n x).2 → Sc n w x (nd (zdn tBld k T) x) := by
  intro k
  induction k with
  | zero => intro T _ h g; exact ⟨h, fun x q1 q2 q3 => g x q1 q2 (by omega) q3⟩
  | succ k ih =>
    intro T hk h g
    have h9 := gp_40 n (k + 1) h40
    have eF : tF T = tF U := h.1.2.2.2.1
    have eL : tL T = tL U := h.1.2.2.2.2.1
    have eV : tva T = tva U := h.1.2.2.2.2.2
    have er : ∀ i x, i < n → 1 ≤ x → x < 128 → el n w x i = v i := fun i x hi q1 q2 => el_row hr h40 hi 7 x q1 q2
    by_cases c : (gp n (k + 1)).1 + 2 ≤ (gp n (k + 1)).2
    · obtain ⟨m, g1, g2, g3, g4, g5⟩ := gpc h40 (by omega) hk c
      have hin : tIn T (k + 1) := ⟨g5, by rw [eF, eL]; exact (lay_in hL h40 (by omega) hk).mpr c⟩
      have e : tBld (k + 1) T = tGather T (k + 1) := if_pos hin
      have hK := tKp_gather T (k + 1)
      show _ ∧ ∀ x, 1 ≤ x → x < 128 → (gp n x).1 < (gp n x).2 → Sc n w x (nd (zdn tBld k (tBld (k + 1) T)) x)
      show (tKp U (zdn tBld k (tBld (k + 1) T)) ∧ tp (zdn tBld k (tBld (k + 1) T)) = tp U ∧ tfa (zdn tBld k (tBld (k + 1) T)) = tfa U ∧ tog (zdn tBld k (tBld (k + 1) T)) = tog U) ∧ _
      rw [e]
      refine ih (tGather T (k + 1)) (by omega) ⟨h.1.trans hK.1, hK.2.trans h.2.1, h.2.2.1, h.2.2.2⟩ (fun x q1 q2 q3 q4 => ?_)
      rw [nd_gather]
      by_cases y : x = k + 1
      · rw [if_pos y, y]
        refine Sc_join g1 g2 g3 g4 (g (2 * (k + 1)) (by omega) (by omega) (by omega) (by rw [g3]; exact g1)) (g (2 * (k + 1) + 1) (by omega) (by omega) (by omega) (by rw [g4]; exact g2)) (fun i p q => ?_) (fun i p q => ?_)
        · have := gp_n n (k + 1)
          rw [er i (k + 1) (by omega) (by omega) hk, er i (2 * (k + 1)) (by omega) (by omega) (by omega)]
        · have := gp_n n (k + 1)
          rw [er i (k + 1) (by omega) (by omega) hk, er i (2 * (k + 1) + 1) (by omega) (by omega) (by omega)]
      · rw [if_neg y]
        exact g x q1 q2 (by omega) q4
    · have hin : ¬ tIn T (k + 1) := fun z => c ((lay_in hL h40 (by omega) hk).mp (by rw [← eF, ← eL]; exact z.2))
      have e : tBld (k + 1) T = tPlant T (k + 1) := if_neg hin
      show (tKp U (zdn tBld k (tBld (k + 1) T)) ∧ tp (zdn tBld k (tBld (k + 1) T)) = tp U ∧ tfa (zdn tBld k (tBld (k + 1) T)) = tfa U ∧ tog (zdn tBld k (tBld (k + 1) T)) = tog U) ∧ ∀ x, 1 ≤ x → x < 128 → (gp n x).1 < (gp n x).2 → Sc n w x (nd (zdn tBld k (tBld (k + 1) T)) x)
      rw [e]
      by_cases x9 : (gp n (k + 1)).1 < (gp n (k + 1)).2
      · obtain ⟨l1, l2⟩ := (hL (k + 1) (by omega) hk).1 x9
        have hgn := gp_n n (k + 1)
        have e2 : tPlant T (k + 1) = (tn T, tu T, tp T, ta T, tF T, tL T, vp_updL (tS T) (k + 1) (tva T (tF T (k + 1)).toNatClampNeg).toInt64, upd (tlo T) (k + 1) (tva T (tF T (k + 1)).toNatClampNeg), upd (thi T) (k + 1) (tva T (tF T (k + 1)).toNatClampNeg), tfa T, tog T, tva T) := if_neg (by
          rw [eF, l1]
          refine fun z => z.elim (fun z => ?_) (fun z => z ?_)
          · exact absurd z (fun z => by have := (nI_ltI (b := 0) (by omega) (by decide)).mp z; omega)
          · exact (nI_ltI (b := 40) (by omega) (by decide)).mpr (by omega))
        have ev : tva T (tF T (k + 1)).toNatClampNeg = v (gp n (k + 1)).1 := by
          rw [eF, l1, nI_clamp (by omega), eV]
          exact hv _ (by omega)
        rw [ev] at e2
        rw [e2]
        refine ih _ (by omega) ⟨⟨h.1.1, h.1.2.1, h.1.2.2.1, eF, eL, eV⟩, h.2.1, h.2.2.1, h.2.2.2⟩ (fun x q1 q2 q3 q4 => ?_)
        by_cases y : x = k + 1
        · have nx : nd (tn T, tu T, tp T, ta T, tF T, tL T, vp_updL (tS T) (k + 1) (v (gp n (k + 1)).1).toInt64, upd (tlo T) (k + 1) (v (gp n (k + 1)).1), upd (thi T) (k + 1) (v (gp n (k + 1)).1), tfa T, tog T, tva T) (k + 1) = ((v (gp n (k + 1)).1).toInt64, v (gp n (k + 1)).1, v (gp n (k + 1)).1, tfa T (k + 1), tog T (k + 1)) := by
            show (vp_updL _ _ _ _, upd _ _ _ _, upd _ _ _ _, _, _) = _
            rw [updL_at, if_pos rfl, upd_at, if_pos rfl, upd_at, if_pos rfl]
            rfl
          rw [y, nx]
          have ee := er (gp n (k + 1)).1 (k + 1) (by omega) (by omega) hk
          have e1 : ∀ i, (gp n (k + 1)).1 ≤ i → i < (gp n (k + 1)).2 → i = (gp n (k + 1)).1 := fun i p q => by omega
          refine ⟨⟨_, Nat.le_refl _, x9, ee.symm⟩, fun i p q => by rw [e1 i p q, ee]; exact Int.le_refl _, ⟨_, Nat.le_refl _, x9, ee.symm⟩, fun i p q => by rw [e1 i p q, ee]; exact Int.le_refl _, ?_⟩
          rw [show (gp n (k + 1)).2 - (gp n (k + 1)).1 = 0 + 1 by omega]
          show (v (gp n (k + 1)).1).toInt64 = 0 + (el n w (k + 1) (gp n (k + 1)).1).toInt64
          rw [ee, Int64.zero_add]
        · have nx : nd (tn T, tu T, tp T, ta T, tF T, tL T, vp_updL (tS T) (k + 1) (v (gp n (k + 1)).1).toInt64, upd (tlo T) (k + 1) (v (gp n (k + 1)).1), upd (thi T) (k + 1) (v (gp n (k + 1)).1), tfa T, tog T, tva T) x = nd T x := by
            show (vp_updL _ _ _ _, upd _ _ _ _, upd _ _ _ _, _, _) = _
            rw [updL_at, if_neg y, upd_at, if_neg y, upd_at, if_neg y]
            rfl
          rw [nx]
          exact g x q1 q2 (by omega) q4
      · obtain ⟨l1, l2⟩ := (hL (k + 1) (by omega) hk).2 x9
        have e2 : tPlant T (k + 1) = T := if_pos (Or.inl (by rw [eF, l1]; decide))
        rw [e2]
        exact ih T (by omega) h (fun x q1 q2 q3 q4 => by
          by_cases y : x = k + 1
          · rw [y] at q4; exact absurd q4 x9
          · exact g x q1 q2 (by omega) q4)
theorem fills_eq (X : TS) : tKp X (tFills X) ∧ tp (tFills X) = tp X ∧ (∀ x, x < 128 → tfa (tFills X) x = 1) ∧ ∀ x, x < 128 → tog (tFills X) x = 0 :=
  ⟨⟨rfl, rfl, rfl, rfl, rfl, rfl⟩, rfl, fun _ hx => if_pos hx, fun _ hx => if_pos hx⟩
theorem Rel_build1 {n : Nat} {v w : Nat → Int32} {X : TS} (n1 : 1 ≤ n) (h40 : n ≤ 40) (hr : Row n v w) (hb : ∀ i, i < n → bd (v i)) (hw : w 0 = nI n ∧ w 1 = tu X ∧ w 2 = tp X ∧ w 3 = ta X) (hL : Lay n (tF X) (tL X)) (k1 : tn X = nI n) (hv : ∀ i, i < n → tva X i = v i) : Rel n (zdn tBld 127 (tFills X)) w := by
  obtain ⟨⟨p1, p2, p3, p4, p5, p6⟩, p7, p8, p9⟩ := fills_eq X
  generalize tFills X = Y at p1 p2 p3 p4 p5 p6 p7 p8 p9 ⊢
  have hL2 : Lay n (tF Y) (tL Y) := by rw [p4, p5]; exact hL
  have hv2 : ∀ i, i < n → tva Y i = v i := by rw [p6]; exact hv
  obtain ⟨⟨r0, r1, r2, r3⟩, r4⟩ := bld_step (U := Y) h40 hL2 hr hb hv2 127 Y (by decide) ⟨tKp.rfl' _, rfl, rfl, rfl⟩ (fun x q1 q2 q3 => by omega)
  generalize zdn tBld 127 Y = Zq at r0 r1 r2 r3 r4 ⊢
  obtain ⟨s1, s2, s3, s4, s5, s6⟩ := r0
  have ef : ∀ x, x < 128 → tfa Zq x = 1 := fun x hx => by rw [r2]; exact p8 x hx
  have eo : ∀ x, x < 128 → tog Zq x = 0 := fun x hx => by rw [r3]; exact p9 x hx
  refine ⟨⟨⟨n1, h40⟩, (s1.trans p1).trans k1, hw.1⟩, ⟨(s2.trans p2).trans hw.2.1.symm, (r1.trans p7).trans hw.2.2.1.symm, (s3.trans p3).trans hw.2.2.2.symm⟩, ?_, fun x q1 q2 q3 => ⟨⟨?_, ?_⟩, ?_, fun i p q => ?_, r4 x q1 q2 q3, fun _ => hr.1 x q1 q2⟩, fun x q1 q2 _ => ⟨ef x q2, eo x q2⟩, fun i hi => ?_⟩
  · rw [s4, s5]; exact hL2
  · exact (ef x q2).trans (hr.1 x q1 q2).1.symm
  · exact (eo x q2).trans (hr.1 x q1 q2).2.symm
  · rw [(hr.1 x q1 q2).1]; exact Or.inr (Or.inr rfl)
  · have := gp_n n x
    rw [show el n w x i = v i from el_row hr h40 (by omega) 7 x q1 q2]
    exact hb i (by omega)
  · rw [show el n w 1 i = v i from el_row hr h40 hi 7 1 (by decide) (by decide), s6]
    exact hv2 i hi
theorem tBuild_eq (T : TS) : tBuild T = zdn tBld 127 (tFills (tLayOut T)) := rfl
theorem tSz_eq (T : TS) (n : Nat) (v : Nat → Int32) : tva (tSz T n v) = v ∧ tu (tSz T n v) = tu T ∧ tp (tSz T n v) = tp T ∧ ta (tSz T n v) = ta T ∧ tn (tSz T n v) = nI n := ⟨rfl, rfl, rfl, rfl, rfl⟩
theorem Rel_build {n : Nat} {v w : Nat → Int32} {T : TS} (n1 : 1 ≤ n) (h40 : n ≤ 40) (hr : Row n v w) (hb : ∀ i, i < n → bd (v i)) (hw : w 0 = nI n ∧ w 1 = tu T ∧ w 2 = tp T ∧ w 3 = ta T) : Rel n (tBuild (tSz T n v)) w := by
  obtain ⟨e1, e2, e3, e4, e5⟩ := tSz_eq T n v
  rw [tBuild_eq]
  obtain ⟨hL, k1, k2, k3, k4, k5⟩ := lay_all (n := n) (T := tSz T n v) n1 h40 e5
  generalize tSz T n v = Q at *
  generalize tLayOut Q = X at *
  exact Rel_build1 n1 h40 hr hb ⟨hw.1, hw.2.1.trans (k2.trans e2).symm, hw.2.2.1.trans (k3.trans e3).symm, hw.2.2.2.trans (k4.trans e4).symm⟩ hL (k1.trans e5) (fun i _ => by rw [k5, e1])
