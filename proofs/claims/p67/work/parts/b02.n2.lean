variable {sc : SC}
abbrev NR : Type := Int64 × Int32 × Int32 × Int32 × Int32
abbrev VS : Type := (Nat → NR) × Int32 × Nat
def nd (T : TS) (x : Nat) : NR := (tS T x, tlo T x, thi T x, tfa T x, tog T x)
def lst (A : Nat → NR → NR → NR → NR × NR × NR × Int32 × Nat) (k : Nat) (s : VS) : VS :=
  (fun x => if x = k then (A k (s.1 k) (s.1 (2 * k)) (s.1 (2 * k + 1))).1 else if x = 2 * k then (A k (s.1 k) (s.1 (2 * k)) (s.1 (2 * k + 1))).2.1 else if x = 2 * k + 1 then (A k (s.1 k) (s.1 (2 * k)) (s.1 (2 * k + 1))).2.2.1 else s.1 x,
   s.2.1 + (A k (s.1 k) (s.1 (2 * k)) (s.1 (2 * k + 1))).2.2.2.1, s.2.2 + (A k (s.1 k) (s.1 (2 * k)) (s.1 (2 * k + 1))).2.2.2.2)
theorem lst_o {A : Nat → NR → NR → NR → NR × NR × NR × Int32 × Nat} {k x : Nat} {s : VS} (h1 : ¬ x = k) (h2 : ¬ x = 2 * k) (h3 : ¬ x = 2 * k + 1) : (lst A k s).1 x = s.1 x := by
  show (if x = k then _ else _) = _
  rw [if_neg h1, if_neg h2, if_neg h3]
theorem lst_k {A : Nat → NR → NR → NR → NR × NR × NR × Int32 × Nat} {k : Nat} {s : VS} : (lst A k s).1 k = (A k (s.1 k) (s.1 (2 * k)) (s.1 (2 * k + 1))).1 := by
  show (if k = k then _ else _) = _
  rw [if_pos rfl]
theorem lst_l {A : Nat → NR → NR → NR → NR × NR × NR × Int32 × Nat} {k : Nat} {s : VS} (h : 1 ≤ k) : (lst A k s).1 (2 * k) = (A k (s.1 k) (s.1 (2 * k)) (s.1 (2 * k + 1))).2.1 := by
  show (if 2 * k = k then _ else _) = _
  rw [if_neg (by omega), if_pos rfl]
theorem lst_r {A : Nat → NR → NR → NR → NR × NR × NR × Int32 × Nat} {k : Nat} {s : VS} (h : 1 ≤ k) : (lst A k s).1 (2 * k + 1) = (A k (s.1 k) (s.1 (2 * k)) (s.1 (2 * k + 1))).2.2.1 := by
  show (if 2 * k + 1 = k then _ else _) = _
  rw [if_neg (by omega), if_neg (by omega), if_pos rfl]
theorem lst_comm {A B : Nat → NR → NR → NR → NR × NR × NR × Int32 × Nat} {i j : Nat} {s : VS} (h : zfar i j) : lst A i (lst B j s) = lst B j (lst A i s) := by
  obtain ⟨g1, g2, g3, g4, g5, g6, g7⟩ := h
  have a1 : (lst B j s).1 i = s.1 i := lst_o (by omega) (by omega) (by omega)
  have a2 : (lst B j s).1 (2 * i) = s.1 (2 * i) := lst_o (by omega) (by omega) (by omega)
  have a3 : (lst B j s).1 (2 * i + 1) = s.1 (2 * i + 1) := lst_o (by omega) (by omega) (by omega)
  have b1 : (lst A i s).1 j = s.1 j := lst_o (by omega) (by omega) (by omega)
  have b2 : (lst A i s).1 (2 * j) = s.1 (2 * j) := lst_o (by omega) (by omega) (by omega)
  have b3 : (lst A i s).1 (2 * j + 1) = s.1 (2 * j + 1) := lst_o (by omega) (by omega) (by omega)
  refine Prod.ext (funext fun x => ?_) (Prod.ext ?_ ?_)
  · by_cases c1 : x = i
    · subst c1
      rw [lst_k, a1, a2, a3, lst_o g3 g4 g5, lst_k]
    · by_cases c2 : x = 2 * i
      · subst c2
        rw [lst_l g1, a1, a2, a3, lst_o (by omega) (by omega) (by omega), lst_l g1]
      · by_cases c3 : x = 2 * i + 1
        · subst c3
          rw [lst_r g1, a1, a2, a3, lst_o (by omega) (by omega) (by omega), lst_r g1]
        · rw [lst_o c1 c2 c3]
          by_cases d1 : x = j
          · subst d1
            rw [lst_k, lst_k, b1, b2, b3]
          · by_cases d2 : x = 2 * j
            · subst d2
              rw [lst_l g2, lst_l g2, b1, b2, b3]
            · by_cases d3 : x = 2 * j + 1
              · subst d3
                rw [lst_r g2, lst_r g2, b1, b2, b3]
              · rw [lst_o d1 d2 d3, lst_o d1 d2 d3, lst_o c1 c2 c3]
  · show (s.2.1 + (B j (s.1 j) (s.1 (2 * j)) (s.1 (2 * j + 1))).2.2.2.1) + (A i ((lst B j s).1 i) ((lst B j s).1 (2 * i)) ((lst B j s).1 (2 * i + 1))).2.2.2.1 = (s.2.1 + (A i (s.1 i) (s.1 (2 * i)) (s.1 (2 * i + 1))).2.2.2.1) + (B j ((lst A i s).1 j) ((lst A i s).1 (2 * j)) ((lst A i s).1 (2 * j + 1))).2.2.2.1
    rw [a1, a2, a3, b1, b2, b3, Int32.add_assoc, Int32.add_assoc, Int32.add_comm (B j _ _ _).2.2.2.1]
  · show (s.2.2 + (B j (s.1 j) (s.1 (2 * j)) (s.1 (2 * j + 1))).2.2.2.2) + (A i ((lst B j s).1 i) ((lst B j s).1 (2 * i)) ((lst B j s).1 (2 * i + 1))).2.2.2.2 = (s.2.2 + (A i (s.1 i) (s.1 (2 * i)) (s.1 (2 * i + 1))).2.2.2.2) + (B j ((lst A i s).1 j) ((lst A i s).1 (2 * j)) ((lst A i s).1 (2 * j + 1))).2.2.2.2
    rw [a1, a2, a3, b1, b2, b3]
    omega
def mkN (W f g : Int32) (r : NR) : NR := (f.toInt64 * r.1 + g.toInt64 * W.toInt64, f * (if 0 ≤ f then r.2.1 else r.2.2.1) + g, f * (if 0 ≤ f then r.2.2.1 else r.2.1) + g, (if W ≤ 1 then r.2.2.2.1 else f * r.2.2.2.1), (if W ≤ 1 then r.2.2.2.2 else f * r.2.2.2.2 + g))
def clN (r : NR) : NR := (r.1, r.2.1, r.2.2.1, 1, 0)
def jnN (a b c : NR) : NR := (b.1 + c.1, zmin b.2.1 c.2.1, zmax b.2.2.1 c.2.2.1, a.2.2.2.1, a.2.2.2.2)
def wdF (F L : Nat → Int32) (k : Nat) : Int32 := L k - F k + 1
def stP (F L : Nat → Int32) (k : Nat) (a b c : NR) : NR × NR × NR × Int32 × Nat :=
  if (k < 64 ∧ F k < L k) ∧ (¬ a.2.2.2.1 = 1 ∨ ¬ a.2.2.2.2 = 0) then (clN a, mkN (wdF F L (2 * k)) a.2.2.2.1 a.2.2.2.2 b, mkN (wdF F L (2 * k + 1)) a.2.2.2.1 a.2.2.2.2 c, 1, 0) else (a, b, c, 0, 0)
def pasF (F L : Nat → Int32) (f t : Int32) (k : Nat) : Prop := (F k ≤ t ∧ f ≤ L k) ∧ (F k < f ∨ t < L k)
def insF (F L : Nat → Int32) (f t : Int32) (k : Nat) : Prop := f ≤ F k ∧ L k ≤ t
def takF (F L : Nat → Int32) (f t : Int32) (k : Nat) : Prop := insF F L f t k ∧ ¬ (1 ≤ k / 2 ∧ insF F L f t (k / 2))
noncomputable def st1 (F L : Nat → Int32) (f t : Int32) (k : Nat) (a b c : NR) : NR × NR × NR × Int32 × Nat :=
  letI := Classical.propDecidable (pasF F L f t k); if pasF F L f t k then stP F L k a b c else (a, b, c, 0, 0)
noncomputable def st2 (F L : Nat → Int32) (f t A B : Int32) (k : Nat) (a b c : NR) : NR × NR × NR × Int32 × Nat :=
  letI := Classical.propDecidable (takF F L f t k); letI := Classical.propDecidable (pasF F L f t k); if takF F L f t k then (mkN (wdF F L k) A B a, b, c, 0, 1) else if pasF F L f t k then ((if k < 64 then jnN a b c else a), b, c, 0, 0) else (a, b, c, 0, 0)
def tKp (T U : TS) : Prop := tn U = tn T ∧ tu U = tu T ∧ ta U = ta T ∧ tF U = tF T ∧ tL U = tL T ∧ tva U = tva T
theorem tKp.rfl' (T : TS) : tKp T T := ⟨rfl, rfl, rfl, rfl, rfl, rfl⟩
theorem tKp.trans {T U V : TS} (h : tKp T U) (g : tKp U V) : tKp T V :=
  ⟨g.1.trans h.1, g.2.1.trans h.2.1, g.2.2.1.trans h.2.2.1, g.2.2.2.1.trans h.2.2.2.1, g.2.2.2.2.1.trans h.2.2.2.2.1, g.2.2.2.2.2.trans h.2.2.2.2.2⟩
theorem updL_at (f : Nat → Int64) (k x : Nat) (v : Int64) : vp_updL f k v x = if x = k then v else f x := rfl
theorem upd_at (f : Nat → Int32) (k x : Nat) (v : Int32) : upd f k v x = if x = k then v else f x := rfl
theorem nd_mark (T : TS) (k : Nat) (f g : Int32) (x : Nat) : nd (tMark T k f g) x = if x = k then mkN (wdF (tF T) (tL T) k) f g (nd T k) else nd T x := by
  show (vp_updL (tS T) k _ x, upd (tlo T) k _ x, upd (thi T) k _ x, (if tW T k ≤ 1 then tfa T else upd (tfa T) k _) x, (if tW T k ≤ 1 then tog T else upd (tog T) k _) x) = _
  by_cases c : x = k
  · subst c
    rw [if_pos rfl, updL_at, if_pos rfl, upd_at, if_pos rfl, upd_at, if_pos rfl]
    by_cases w : tW T x ≤ 1
    · rw [if_pos w, if_pos w]
      show _ = (_, _, _, (if tW T x ≤ 1 then _ else _), (if tW T x ≤ 1 then _ else _))
      rw [if_pos w, if_pos w]
      rfl
    · rw [if_neg w, if_neg w]
      show _ = (_, _, _, (if tW T x ≤ 1 then _ else _), (if tW T x ≤ 1 then _ else _))
      rw [if_neg w, if_neg w, upd_at, if_pos rfl, upd_at, if_pos rfl]
      rfl
  · rw [if_neg c, updL_at, if_neg c, upd_at, if_neg c, upd_at, if_neg c]
    by_cases w : tW T k ≤ 1
    · rw [if_pos w, if_pos w]; rfl
    · rw [if_neg w, if_neg w, upd_at, if_neg c, upd_at, if_neg c]; rfl
theorem tKp_mark (T : TS) (k : Nat) (f g : Int32) : tKp T (tMark T k f g) ∧ tp (tMark T k f g) = tp T := ⟨⟨rfl, rfl, rfl, rfl, rfl, rfl⟩, rfl⟩
theorem nd_gather (T : TS) (k x : Nat) : nd (tGather T k) x = if x = k then jnN (nd T k) (nd T (2 * k)) (nd T (2 * k + 1)) else nd T x := by
  show (vp_updL (tS T) k _ x, upd (tlo T) k _ x, upd (thi T) k _ x, tfa T x, tog T x) = _
  by_cases c : x = k
  · subst c
    rw [if_pos rfl, updL_at, if_pos rfl, upd_at, if_pos rfl, upd_at, if_pos rfl]; rfl
  · rw [if_neg c, updL_at, if_neg c, upd_at, if_neg c, upd_at, if_neg c]; rfl
theorem tKp_gather (T : TS) (k : Nat) : tKp T (tGather T k) ∧ tp (tGather T k) = tp T := ⟨⟨rfl, rfl, rfl, rfl, rfl, rfl⟩, rfl⟩
theorem wd_mark (T : TS) (j : Nat) (f g : Int32) (k : Nat) : wdF (tF (tMark T j f g)) (tL (tMark T j f g)) k = wdF (tF T) (tL T) k := by
  rw [(tKp_mark T j f g).1.2.2.2.1, (tKp_mark T j f g).1.2.2.2.2.1]
theorem nd_push2 (U : TS) (k x : Nat) : nd (tPush2 U k) x = if x = k then clN (nd U k) else nd U x := by
  have e : nd (tPush2 U k) x = (tS U x, tlo U x, thi U x, upd (tfa U) k 1 x, upd (tog U) k 0 x) := rfl
  rw [e, upd_at, upd_at]
  by_cases c : x = k
  · subst c; rw [if_pos rfl, if_pos rfl, if_pos rfl]; rfl
  · rw [if_neg c, if_neg c, if_neg c]; rfl
theorem nd_push (T : TS) (k x : Nat) (h : 1 ≤ k) : nd (tPush T k) x = if x = k then clN (nd T k) else if x = 2 * k then mkN (wdF (tF T) (tL T) (2 * k)) (tfa T k) (tog T k) (nd T (2 * k)) else if x = 2 * k + 1 then mkN (wdF (tF T) (tL T) (2 * k + 1)) (tfa T k) (tog T k) (nd T (2 * k + 1)) else nd T x := by
  have n1 := nd_mark T (2 * k) (tfa T k) (tog T k)
  have k1 : nd (tMark T (2 * k) (tfa T k) (tog T k)) k = nd T k := by rw [n1, if_neg (by omega)]
  have f1 : tfa (tMark T (2 * k) (tfa T k) (tog T k)) k = tfa T k := congrArg (fun r : NR => r.2.2.2.1) k1
  have g1 : tog (tMark T (2 * k) (tfa T k) (tog T k)) k = tog T k := congrArg (fun r : NR => r.2.2.2.2) k1
  have n2 := nd_mark (tMark T (2 * k) (tfa T k) (tog T k)) (2 * k + 1) (tfa T k) (tog T k)
  have e := nd_push2 (tMark (tMark T (2 * k) (tfa T k) (tog T k)) (2 * k + 1) (tfa T k) (tog T k)) k x
  have e0 : tPush T k = tPush2 (tMark (tMark T (2 * k) (tfa T k) (tog T k)) (2 * k + 1) (tfa T k) (tog T k)) k := by rw [tPush, tPush1, f1, g1]
  rw [← e0] at e
  rw [e, n2 k, if_neg (show ¬ k = 2 * k + 1 by omega), k1]
  by_cases c : x = k
  · rw [if_pos c, if_pos c]
  · rw [if_neg c, if_neg c, n2 x, n1 (2 * k + 1), if_neg (by omega : ¬ 2 * k + 1 = 2 * k), n1 x, wd_mark]
    by_cases c2 : x = 2 * k
    · rw [if_pos c2, if_neg (by omega), if_pos c2]
    · rw [if_neg c2]
      by_cases c3 : x = 2 * k + 1
      · rw [if_pos c3, if_neg c2]
      · rw [if_neg c3, if_neg c2]
theorem tKp_push (T : TS) (k : Nat) : tKp T (tPush T k) ∧ tp (tPush T k) = tp T + 1 := ⟨⟨rfl, rfl, rfl, rfl, rfl, rfl⟩, rfl⟩
def sv (T : TS) (c : Nat) : VS := (nd T, tp T, c)
theorem sv_pushIf (T : TS) (k c : Nat) (h : 1 ≤ k) : sv (tPushIf T k) c = lst (stP (tF T) (tL T)) k (sv T c) ∧ tKp T (tPushIf T k) := by
  by_cases d : tDo T k
  · have e : tPushIf T k = tPush T k := if_pos d
    have e2 : stP (tF T) (tL T) k (nd T k) (nd T (2 * k)) (nd T (2 * k + 1)) = (clN (nd T k), mkN (wdF (tF T) (tL T) (2 * k)) (tfa T k) (tog T k) (nd T (2 * k)), mkN (wdF (tF T) (tL T) (2 * k + 1)) (tfa T k) (tog T k) (nd T (2 * k + 1)), 1, 0) := if_pos d
    refine ⟨?_, by rw [e]; exact (tKp_push T k).1⟩
    rw [e]
    refine Prod.ext (funext fun x => ?_) (Prod.ext ?_ ?_)
    · show nd (tPush T k) x = if x = k then (stP (tF T) (tL T) k (nd T k) (nd T (2 * k)) (nd T (2 * k + 1))).1 else if x = 2 * k then (stP (tF T) (tL T) k (nd T k) (nd T (2 * k)) (nd T (2 * k + 1))).2.1 else if x = 2 * k + 1 then (stP (tF T) (tL T) k (nd T k) (nd T (2 * k)) (nd T (2 * k + 1))).2.2.1 else nd T x
      rw [e2, nd_push T k x h]
    · show tp T + 1 = tp T + (stP (tF T) (tL T) k (nd T k) (nd T (2 * k)) (nd T (2 * k + 1))).2.2.2.1
      rw [e2]
    · show c = c + (stP (tF T) (tL T) k (nd T k) (nd T (2 * k)) (nd T (2 * k + 1))).2.2.2.2
      rw [e2]
      rfl
  · have e : tPushIf T k = T := if_neg d
    have e2 : stP (tF T) (tL T) k (nd T k) (nd T (2 * k)) (nd T (2 * k + 1)) = (nd T k, nd T (2 * k), nd T (2 * k + 1), 0, 0) := if_neg d
    refine ⟨?_, by rw [e]; exact tKp.rfl' T⟩
    rw [e]
    refine Prod.ext (funext fun x => ?_) (Prod.ext ?_ ?_)
    · show nd T x = if x = k then (stP (tF T) (tL T) k (nd T k) (nd T (2 * k)) (nd T (2 * k + 1))).1 else if x = 2 * k then (stP (tF T) (tL T) k (nd T k) (nd T (2 * k)) (nd T (2 * k + 1))).2.1 else if x = 2 * k + 1 then (stP (tF T) (tL T) k (nd T k) (nd T (2 * k)) (nd T (2 * k + 1))).2.2.1 else nd T x
      rw [e2]
      by_cases c1 : x = k
      · rw [if_pos c1, c1]
      · rw [if_neg c1]
        by_cases c2 : x = 2 * k
        · rw [if_pos c2, c2]
        · rw [if_neg c2]
          by_cases c3 : x = 2 * k + 1
          · rw [if_pos c3, c3]
          · rw [if_neg c3]
    · show tp T = tp T + (stP (tF T) (tL T) k (nd T k) (nd T (2 * k)) (nd T (2 * k + 1))).2.2.2.1
      rw [e2]
      exact (Int32.add_zero _).symm
    · show c = c + (stP (tF T) (tL T) k (nd T k) (nd T (2 * k)) (nd T (2 * k + 1))).2.2.2.2
      rw [e2]
      rfl
theorem lst_id {A : Nat → NR → NR → NR → NR × NR × NR × Int32 × Nat} {k : Nat} {s : VS} (h : A k (s.1 k) (s.1 (2 * k)) (s.1 (2 * k + 1)) = (s.1 k, s.1 (2 * k), s.1 (2 * k + 1), 0, 0)) : lst A k s = s := by
  refine Prod.ext (funext fun x => ?_) (Prod.ext ?_ ?_)
  · show (if x = k then (A k (s.1 k) (s.1 (2 * k)) (s.1 (2 * k + 1))).1 else if x = 2 * k then (A k (s.1 k) (s.1 (2 * k)) (s.1 (2 * k + 1))).2.1 else if x = 2 * k + 1 then (A k (s.1 k) (s.1 (2 * k)) (s.1 (2 * k + 1))).2.2.1 else s.1 x) = s.1 x
    rw [h]
    by_cases c1 : x = k
    · rw [if_pos c1, c1]
    · rw [if_neg c1]
      by_cases c2 : x = 2 * k
      · rw [if_pos c2, c2]
      · rw [if_neg c2]
        by_cases c3 : x = 2 * k + 1
        · rw [if_pos c3, c3]
        · rw [if_neg c3]
  · show s.2.1 + (A k (s.1 k) (s.1 (2 * k)) (s.1 (2 * k + 1))).2.2.2.1 = s.2.1
    rw [h]
    exact Int32.add_zero _
  · show s.2.2 + (A k (s.1 k) (s.1 (2 * k)) (s.1 (2 * k + 1))).2.2.2.2 = s.2.2
    rw [h]
    rfl
theorem lst_1 {A : Nat → NR → NR → NR → NR × NR × NR × Int32 × Nat} {k d : Nat} {s : VS} {r : NR} (h : A k (s.1 k) (s.1 (2 * k)) (s.1 (2 * k + 1)) = (r, s.1 (2 * k), s.1 (2 * k + 1), 0, d)) : lst A k s = (fun x => if x = k then r else s.1 x, s.2.1, s.2.2 + d) := by
  refine Prod.ext (funext fun x => ?_) (Prod.ext ?_ ?_)
  · show (if x = k then (A k (s.1 k) (s.1 (2 * k)) (s.1 (2 * k + 1))).1 else if x = 2 * k then (A k (s.1 k) (s.1 (2 * k)) (s.1 (2 * k + 1))).2.1 else if x = 2 * k + 1 then (A k (s.1 k) (s.1 (2 * k)) (s.1 (2 * k + 1))).2.2.1 else s.1 x) = if x = k then r else s.1 x
    rw [h]
    by_cases c1 : x = k
    · rw [if_pos c1, if_pos c1]
    · rw [if_neg c1, if_neg c1]
      by_cases c2 : x = 2 * k
      · rw [if_pos c2, c2]
      · rw [if_neg c2]
        by_cases c3 : x = 2 * k + 1
        · rw [if_pos c3, c3]
        · rw [if_neg c3]
  · show s.2.1 + (A k (s.1 k) (s.1 (2 * k)) (s.1 (2 * k + 1))).2.2.2.1 = s.2.1
    rw [h]
    exact Int32.add_zero _
  · show s.2.2 + (A k (s.1 k) (s.1 (2 * k)) (s.1 (2 * k + 1))).2.2.2.2 = s.2.2 + d
    rw [h]
theorem sv_upd1 (T : TS) (k c : Nat) (f t : Int32) (h : 1 ≤ k) : sv (tUpd1 f t k T) c = lst (st1 (tF T) (tL T) f t) k (sv T c) ∧ tKp T (tUpd1 f t k T) := by
  by_cases d : tPas T k f t
  · have e : tUpd1 f t k T = tPushIf T k := if_pos d
    have e2 : st1 (tF T) (tL T) f t k (nd T k) (nd T (2 * k)) (nd T (2 * k + 1)) = stP (tF T) (tL T) k (nd T k) (nd T (2 * k)) (nd T (2 * k + 1)) := if_pos d
    rw [e]
    refine ⟨(sv_pushIf T k c h).1.trans ?_, (sv_pushIf T k c h).2⟩
    show lst (stP (tF T) (tL T)) k (nd T, tp T, c) = lst (st1 (tF T) (tL T) f t) k (nd T, tp T, c)
    simp only [lst]
    rw [e2]
  · have e : tUpd1 f t k T = T := if_neg d
    rw [e]
    exact ⟨(lst_id (if_neg d)).symm, tKp.rfl' T⟩
theorem sv_upd2 (T : TS) (k c : Nat) (f t A B : Int32) : sv (tUpd2 f t A B k (T, c)).1 (tUpd2 f t A B k (T, c)).2 = lst (st2 (tF T) (tL T) f t A B) k (sv T c) ∧ tKp T (tUpd2 f t A B k (T, c)).1 := by
  by_cases d : tTak T k f t
  · have e : tUpd2 f t A B k (T, c) = (tMark T k A B, c + 1) := if_pos d
    have e2 : st2 (tF T) (tL T) f t A B k (nd T k) (nd T (2 * k)) (nd T (2 * k + 1)) = (mkN (wdF (tF T) (tL T) k) A B (nd T k), nd T (2 * k), nd T (2 * k + 1), 0, 1) := if_pos d
    rw [e]
    refine ⟨?_, (tKp_mark T k A B).1⟩
    rw [lst_1 (s := sv T c) e2]
    refine Prod.ext (funext fun x => ?_) rfl
    exact nd_mark T k A B x
  · have e : tUpd2 f t A B k (T, c) = if tPas T k f t then (tGat T k, c) else (T, c) := if_neg d
    have e1 : ∀ a b r : NR, st2 (tF T) (tL T) f t A B k a b r = _ := fun a b r => if_neg d
    by_cases d2 : tPas T k f t
    · rw [if_pos d2] at e
      have e2 : ∀ a b r : NR, st2 (tF T) (tL T) f t A B k a b r = ((if k < 64 then jnN a b r else a), b, r, 0, 0) := fun a b r => (e1 a b r).trans (if_pos d2)
      rw [e]
      by_cases d3 : k < 64
      · have e3 : tGat T k = tGather T k := if_pos d3
        have e4 : st2 (tF T) (tL T) f t A B k (nd T k) (nd T (2 * k)) (nd T (2 * k + 1)) = (jnN (nd T k) (nd T (2 * k)) (nd T (2 * k + 1)), nd T (2 * k), nd T (2 * k + 1), 0, 0) := by rw [e2, if_pos d3]
        rw [e3]
        refine ⟨?_, (tKp_gather T k).1⟩
        rw [lst_1 (s := sv T c) e4]
        refine Prod.ext (funext fun x => ?_) rfl
        exact nd_gather T k x
      · have e3 : tGat T k = T := if_neg d3
        rw [e3]
        exact ⟨(lst_id (by rw [e2, if_neg d3])).symm, tKp.rfl' T⟩
    · rw [if_neg d2] at e
      rw [e]
      exact ⟨(lst_id ((e1 _ _ _).trans (if_neg d2))).symm, tKp.rfl' T⟩
theorem sv_up (f t : Int32) (c : Nat) : ∀ (n k : Nat) (T : TS), 1 ≤ k → sv (zup (tUpd1 f t) n k T) c = zup (lst (st1 (tF T) (tL T) f t)) n k (sv T c) ∧ tKp T (zup (tUpd1 f t) n k T) := by
  intro n
  induction n with
  | zero => intro k T _; exact ⟨rfl, tKp.rfl' T⟩
  | succ n ih =>
    intro k T h
    obtain ⟨a1, a2⟩ := sv_upd1 T k c f t h
    obtain ⟨b1, b2⟩ := ih (k + 1) (tUpd1 f t k T) (by omega)
    rw [a2.2.2.2.1, a2.2.2.2.2.1, a1] at b1
    exact ⟨b1, a2.trans b2⟩
theorem sv_dn (f t A B : Int32) : ∀ (n : Nat) (T : TS) (c : Nat), sv (zdn (tUpd2 f t A B) n (T, c)).1 (zdn (tUpd2 f t A B) n (T, c)).2 = zdn (lst (st2 (tF T) (tL T) f t A B)) n (sv T c) ∧ tKp T (zdn (tUpd2 f t A B) n (T, c)).1 := by
  intro n
  induction n with
  | zero => intro T c; exact ⟨rfl, tKp.rfl' T⟩
  | succ n ih =>
    intro T c
    obtain ⟨a1, a2⟩ := sv_upd2 T (n + 1) c f t A B
    obtain ⟨b1, b2⟩ := ih (tUpd2 f t A B (n + 1) (T, c)).1 (tUpd2 f t A B (n + 1) (T, c)).2
    rw [a2.2.2.2.1, a2.2.2.2.2.1, a1] at b1
    exact ⟨b1, a2.trans b2⟩
theorem sv_update (T : TS) (f t A B : Int32) : ∃ T1 c, tUpdate T f t A B = (tReads (tCnt T1 c), c) ∧ tKp T T1 ∧ sv T1 c = zdfs (lst (st1 (tF T) (tL T) f t)) (lst (st2 (tF T) (tL T) f t A B)) 7 1 (sv T 0) := by
  obtain ⟨a1, a2⟩ := sv_up f t 0 127 1 T (Nat.le_refl 1)
  obtain ⟨b1, b2⟩ := sv_dn f t A B 127 (zup (tUpd1 f t) 127 1 T) 0
  rw [a2.2.2.2.1, a2.2.2.2.2.1, a1] at b1
  refine ⟨_, _, rfl, a2.trans b2, b1.trans ?_⟩
  exact z_order _ _ (fun i j s h => lst_comm (i := i) (j := j) (s := s) h) (fun i j s h => lst_comm (i := i) (j := j) (s := s) h) (fun i j s h => lst_comm (i := i) (j := j) (s := s) h) (sv T 0)
