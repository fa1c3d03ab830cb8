variable {sc : SC}
/-! ===== the tree alone: what each change makes of it ===== -/
section TREE
variable {n : Nat} {T : TS} {w : Nat → Int32}
/-- an update -/
theorem RU {f t : Nat} {A B : Int32} (h : Rel n T w) (ht : t < n) (hft : f ≤ t) (hA : f3 A) (hP : ∀ i, f ≤ i → i ≤ t → bd (A * tva T i + B)) : ∃ w', Rel n (tUpdate T (nI f) (nI t) A B).1 w' ∧ ∀ i, i < n → tva (tUpdate T (nI f) (nI t) A B).1 i = if f ≤ i ∧ i ≤ t then A * tva T i + B else tva T i := by
  obtain ⟨S, hS⟩ : ∃ S : ZS, S.2 0 = w := ⟨(fun _ => 0, fun _ => w), rfl⟩
  subst hS
  have hv : ∀ i, i < n → tva T i = el n (S.2 0) 1 i := h.2.2.2.2.2
  have h1 := h.1.1.1
  have h40 := h.1.1.2
  obtain ⟨r, -, -⟩ := Rel_update h ht hft hA (fun i a b => by rw [← hv i (by omega)]; exact hP i a b)
  refine ⟨_, r, fun i hi => ?_⟩
  rw [r.2.2.2.2.2 i hi, upd_el h1 h40 ht hft hi, ← hv i hi]
/-- where there is no inner node there is no mark -/
theorem Rel_m9 (h : Rel n T w) {x : Nat} (q1 : 1 ≤ x) (q2 : x < 128) (q3 : ¬ (gp n x).1 + 2 ≤ (gp n x).2) : tfa T x = 1 ∧ tog T x = 0 := by
  by_cases c : (gp n x).1 < (gp n x).2
  · have hR := h.2.2.2.1 x q1 q2 c
    obtain ⟨z1, z2⟩ := hR.2.2.2.2 q3
    exact ⟨hR.1.1.trans z1, hR.1.2.trans z2⟩
  · exact h.2.2.2.2.1 x q1 q2 c
theorem Rel_in (h : Rel n T w) {k : Nat} (h1 : 1 ≤ k) (h2 : k < 128) : tIn T k ↔ (gp n k).1 + 2 ≤ (gp n k).2 :=
  ⟨fun z => (lay_in h.2.2.1 h.1.1.2 h1 h2).mp z.2, fun c => ⟨gp_near n k h.1.1.2 h2 c, (lay_in h.2.2.1 h.1.1.2 h1 h2).mpr c⟩⟩
/-- a push -/
theorem RP {k : Nat} (h : Rel n T w) (h1 : 1 ≤ k) (h2 : k < 128) : ∃ w', Rel n (tPushIf T k) w' := by
  obtain ⟨S, hS⟩ : ∃ S : ZS, S.2 0 = w := ⟨(fun _ => 0, fun _ => w), rfl⟩
  subst hS
  by_cases c : (gp n k).1 + 2 ≤ (gp n k).2
  · exact ⟨_, (Rel_push h h1 h2 c).1⟩
  · have d : ¬ tDo T k := fun z => c ((Rel_in h h1 h2).mp z.1)
    have eT : tPushIf T k = T := if_neg d
    rw [eT]
    exact ⟨_, h⟩
theorem tva_pushIf (T : TS) (k : Nat) : tva (tPushIf T k) = tva T ∧ tn (tPushIf T k) = tn T := by
  unfold tPushIf
  by_cases d : tDo T k
  · rw [if_pos d]
    have h := (tKp_push T k).1
    exact ⟨h.2.2.2.2.2, h.1⟩
  · rw [if_neg d]
    exact ⟨rfl, rfl⟩
theorem tp_pushIf (T : TS) (k : Nat) : tp (tPushIf T k) = tp T + zb (decide (tDo T k)) := by
  unfold tPushIf
  by_cases d : tDo T k
  · rw [if_pos d, decide_eq_true d]
    exact (tKp_push T k).2
  · rw [if_neg d, decide_eq_false d]
    exact (Int32.add_zero _).symm
theorem mk_pushIf {k : Nat} (h1 : 1 ≤ k) (hin : tIn T k) : tfa (tPushIf T k) k = 1 ∧ tog (tPushIf T k) k = 0 := by
  unfold tPushIf
  by_cases d : tDo T k
  · rw [if_pos d]
    have e : nd (tPush T k) k = clN (nd T k) := by rw [nd_push T k k h1, if_pos rfl]
    exact ⟨congrArg (fun r : NR => r.2.2.2.1) e, congrArg (fun r : NR => r.2.2.2.2) e⟩
  · rw [if_neg d]
    exact ⟨Classical.byContradiction (fun z => d ⟨hin, Or.inl z⟩), Classical.byContradiction (fun z => d ⟨hin, Or.inr z⟩)⟩
theorem lo_pushIf {k j : Nat} (h1 : 1 ≤ k) (hj : j < k) : tfa (tPushIf T k) j = tfa T j ∧ tog (tPushIf T k) j = tog T j := by
  unfold tPushIf
  by_cases d : tDo T k
  · rw [if_pos d]
    have e : nd (tPush T k) j = nd T j := by rw [nd_push T k j h1, if_neg (by omega), if_neg (by omega), if_neg (by omega)]
    exact ⟨congrArg (fun r : NR => r.2.2.2.1) e, congrArg (fun r : NR => r.2.2.2.2) e⟩
  · rw [if_neg d]
    exact ⟨rfl, rfl⟩
/-- no marks -/
def noM (T : TS) : Prop := ∀ j, 1 ≤ j → j < 128 → tfa T j = 1 ∧ tog T j = 0
theorem pe_all : ∀ (fu k c : Nat) (T : TS) (w : Nat → Int32), 1 ≤ k → k + fu = 128 → Rel n T w → (∀ j, 1 ≤ j → j < k → tfa T j = 1 ∧ tog T j = 0) →
    (∃ w', Rel n (zup tPE fu k (T, c)).1 w') ∧ noM (zup tPE fu k (T, c)).1 ∧ tva (zup tPE fu k (T, c)).1 = tva T ∧ tp (zup tPE fu k (T, c)).1 + nI c = tp T + nI (zup tPE fu k (T, c)).2 := by
  intro fu
  induction fu with
  | zero =>
    intro k c T w _ h2 h hm
    exact ⟨⟨w, h⟩, fun j a b => hm j a (by omega), rfl, rfl⟩
  | succ fu ih =>
    intro k c T w h1 h2 h hm
    show (∃ w', Rel n (zup tPE fu (k + 1) (tPushIf T k, if tDo T k then c + 1 else c)).1 w') ∧ noM (zup tPE fu (k + 1) (tPushIf T k, if tDo T k then c + 1 else c)).1 ∧ tva (zup tPE fu (k + 1) (tPushIf T k, if tDo T k then c + 1 else c)).1 = tva T ∧ tp (zup tPE fu (k + 1) (tPushIf T k, if tDo T k then c + 1 else c)).1 + nI c = tp T + nI (zup tPE fu (k + 1) (tPushIf T k, if tDo T k then c + 1 else c)).2
    obtain ⟨w', hw'⟩ := RP h h1 (by omega)
    obtain ⟨r1, r2, r3, r4⟩ := ih (k + 1) (if tDo T k then c + 1 else c) (tPushIf T k) w' (by omega) (by omega) hw' (fun j a b => by
      by_cases z : j = k
      · rw [z]
        by_cases ci : (gp n k).1 + 2 ≤ (gp n k).2
        · exact mk_pushIf h1 ((Rel_in h h1 (by omega)).mpr ci)
        · have d : ¬ tDo T k := fun z => ci ((Rel_in h h1 (by omega)).mp z.1)
          have eT : tPushIf T k = T := if_neg d
          rw [eT]
          exact Rel_m9 h h1 (by omega) ci
      · obtain ⟨e1, e2⟩ := lo_pushIf (T := T) h1 (show j < k by omega)
        rw [e1, e2]
        exact hm j a (by omega))
    refine ⟨r1, r2, r3.trans (tva_pushIf T k).1, ?_⟩
    rw [tp_pushIf] at r4
    by_cases d : tDo T k
    · rw [if_pos d, decide_eq_true d, show zb true = 1 from rfl, ← nI_1] at r4
      rw [if_pos d]
      refine (Int32.add_left_inj 1).mp ?_
      rw [Int32.add_assoc, r4, Int32.add_assoc, Int32.add_assoc, Int32.add_comm 1]
    · rw [if_neg d, decide_eq_false d, show zb false = 0 from rfl, Int32.add_zero] at r4
      rw [if_neg d]
      exact r4
theorem RE (h : Rel n T w) : (∃ w', Rel n (tPushEach T).1 w') ∧ noM (tPushEach T).1 ∧ tva (tPushEach T).1 = tva T ∧ tp (tPushEach T).1 = tp T + nI (tPushEach T).2 := by
  obtain ⟨r1, r2, r3, r4⟩ := pe_all (n := n) 127 1 0 T w (by decide) (by decide) h (fun j a b => by omega)
  exact ⟨r1, r2, r3, (Int32.add_zero _).symm.trans r4⟩
/-- the tree built anew -/
theorem RB {v : Nat → Int32} (n1 : 1 ≤ n) (h40 : n ≤ 40) (hb : ∀ i, i < n → bd (v i)) : (∃ w', Rel n (tBuild (tSz T n v)) w') ∧ noM (tBuild (tSz T n v)) ∧ ∀ i, i < n → tva (tBuild (tSz T n v)) i = v i := by
  obtain ⟨w', hw⟩ : ∃ w' : Nat → Int32, w' = fun y => if y = 0 then nI n else if y = 1 then tu T else if y = 2 then tp T else if y = 3 then ta T else if y < 44 then v (y - 4) else if y < 172 then 1 else 0 := ⟨_, rfl⟩
  have hr : Row n v w' := by
    refine ⟨fun k k1 k2 => ⟨?_, ?_⟩, fun i hi => ?_⟩
    · rw [hw]
      show (if 44 + k = 0 then _ else if 44 + k = 1 then _ else if 44 + k = 2 then _ else if 44 + k = 3 then _ else if 44 + k < 44 then _ else if 44 + k < 172 then (1 : Int32) else 0) = 1
      rw [if_neg (by omega), if_neg (by omega), if_neg (by omega), if_neg (by omega), if_neg (by omega), if_pos (by omega)]
    · rw [hw]
      show (if 172 + k = 0 then _ else if 172 + k = 1 then _ else if 172 + k = 2 then _ else if 172 + k = 3 then _ else if 172 + k < 44 then _ else if 172 + k < 172 then (1 : Int32) else 0) = 0
      rw [if_neg (by omega), if_neg (by omega), if_neg (by omega), if_neg (by omega), if_neg (by omega), if_neg (by omega)]
    · rw [hw]
      show (if 4 + i = 0 then _ else if 4 + i = 1 then _ else if 4 + i = 2 then _ else if 4 + i = 3 then _ else if 4 + i < 44 then v (4 + i - 4) else _) = v i
      rw [if_neg (by omega), if_neg (by omega), if_neg (by omega), if_neg (by omega), if_pos (by omega), Nat.add_sub_cancel_left]
  have h := Rel_build (T := T) n1 h40 hr hb ⟨by rw [hw]; rfl, by rw [hw]; rfl, by rw [hw]; rfl, by rw [hw]; rfl⟩
  generalize tBuild (tSz T n v) = U at h ⊢
  refine ⟨⟨w', h⟩, fun j a b => ?_, fun i hi => ?_⟩
  · by_cases c : (gp n j).1 < (gp n j).2
    · have hR := h.2.2.2.1 j a b c
      exact ⟨hR.1.1.trans (hr.1 j a b).1, hR.1.2.trans (hr.1 j a b).2⟩
    · exact h.2.2.2.2.1 j a b c
  · exact (h.2.2.2.2.2 i hi).trans (el_row hr h40 hi 7 1 (by decide) (by decide))
theorem Rel_bd (h : Rel n T w) {i : Nat} (hi : i < n) : bd (tva T i) := by
  obtain ⟨S, hS⟩ : ∃ S : ZS, S.2 0 = w := ⟨(fun _ => 0, fun _ => w), rfl⟩
  subst hS
  exact el_bd h hi
theorem Rel_leaf (h : Rel n T w) {i : Nat} (hi : i < n) : tLeaf T (nI i) = lf n i := by
  obtain ⟨S, hS⟩ : ∃ S : ZS, S.2 0 = w := ⟨(fun _ => 0, fun _ => w), rfl⟩
  subst hS
  exact tLeaf_eq h hi
theorem Rel_vio (h : Rel n T w) (S X R : ZS) : g_c_6_violations n S X R T = 0 := by
  obtain ⟨M, hM⟩ : ∃ S : ZS, S.2 0 = w := ⟨(fun _ => 0, fun _ => w), rfl⟩
  subst hM
  exact q_vio1 h 127 1 (by decide) (by decide)
theorem noM_mk (h : noM T) (S X R : ZS) : ∀ (fu k : Nat), 1 ≤ k → k + fu = 128 → g_c_6_markedNodes_L n fu 0 k S X R T = 0 := by
  intro fu
  induction fu with
  | zero => intro k _ _; rfl
  | succ fu ih =>
    intro k h1 h2
    obtain ⟨e1, e2⟩ := h k h1 (by omega)
    have d : ¬ (¬ tfa T k = 1 ∨ ¬ tog T k = 0) := fun z => z.elim (fun q => q e1) (fun q => q e2)
    rw [g_c_6_markedNodes_L, decide_eq_false d, if_neg Bool.false_ne_true]
    exact ih (k + 1) (by omega) (by omega)
theorem noM_marked (h : noM T) (S X R : ZS) : g_c_6_markedNodes n S X R T = 0 := noM_mk h S X R 127 1 (by decide) (by decide)
end TREE
