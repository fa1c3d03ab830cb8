variable {sc : SC}
section PEL
variable {n k : Nat} {w : Nat → Int32}
theorem push_el (h40 : n ≤ 40) (h1 : 1 ≤ k) (h2 : k < 128) (c : (gp n k).1 + 2 ≤ (gp n k).2) : ∀ i, (gp n k).1 ≤ i → i < (gp n k).2 → el n (pushW n k w) k i = el n w k i := by
  obtain ⟨m, g1, g2, g3, g4, g5⟩ := gpc h40 h1 h2 c
  have h9 := gp_40 n k h40
  have x1 : (gp n (2 * k)).1 < (gp n (2 * k)).2 := by rw [g3]; exact g1
  have x2 : (gp n (2 * k + 1)).1 < (gp n (2 * k + 1)).2 := by rw [g4]; exact g2
  have r1 : ∀ i, (gp n (2 * k)).1 ≤ i → i < (gp n (2 * k)).2 → (gp n k).1 ≤ i ∧ i < m ∧ el n w k i = w (44 + k) * el n w (2 * k) i + w (172 + k) := fun i a b => by
    have e : gch n k i = 2 * k := if_pos b
    rw [g3] at a b
    exact ⟨a, b, by rw [el_in w i h40 h1 h2 c, e]⟩
  have r2 : ∀ i, (gp n (2 * k + 1)).1 ≤ i → i < (gp n (2 * k + 1)).2 → m ≤ i ∧ i < (gp n k).2 ∧ el n w k i = w (44 + k) * el n w (2 * k + 1) i + w (172 + k) := fun i a b => by
    rw [g4] at a b
    have e : gch n k i = 2 * k + 1 := if_neg (by rw [g3]; simp only; omega)
    exact ⟨a, b, by rw [el_in w i h40 h1 h2 c, e]⟩
  have eL : ∀ i, (gp n (2 * k)).1 ≤ i → i < (gp n (2 * k)).2 → el n (pushW n k w) (2 * k) i = el n (apW n (2 * k) (w (44 + k)) (w (172 + k)) w) (2 * k) i := fun i a b => by
    obtain ⟨q1, q2, q3⟩ := r1 i a b
    refine el_loc h40 i 7 (2 * k) (by omega) (by omega) (fun x hs hx => ?_) ?_
    · have hle := hs.le
      have hn : ¬ x = 2 * k + 1 := fun z => inS.apart h1 hs (z ▸ inS.rfl' _)
      have b1 := apW_m (n := n) (k := 2 * k + 1) (x := x) (F := w (44 + k)) (G := w (172 + k)) (w := apW n (2 * k) (w (44 + k)) (w (172 + k)) w) h40 (by omega) hx x2 hn
      rw [pw_at, pw_at, if_neg (by omega), if_neg (by omega), if_neg (by omega), if_neg (by omega), if_neg (by omega), if_neg (by omega), b1.1, b1.2]
      exact ⟨rfl, rfl⟩
    · rw [pw_at, if_neg (by omega), if_neg (by omega), if_neg (by omega), apW_e (by omega) (by rw [g4]; simp only; omega) x2]
  have eR0 : ∀ i, (gp n (2 * k + 1)).1 ≤ i → i < (gp n (2 * k + 1)).2 → el n (apW n (2 * k) (w (44 + k)) (w (172 + k)) w) (2 * k + 1) i = el n w (2 * k + 1) i := fun i a b => by
    obtain ⟨q1, q2, q3⟩ := r2 i a b
    refine el_loc h40 i 7 (2 * k + 1) (by omega) (by omega) (fun x hs hx => ?_) ?_
    · have hn : ¬ x = 2 * k := fun z => inS.apart h1 (z ▸ inS.rfl' _) hs
      exact apW_m h40 (by omega) hx x1 hn
    · exact apW_e (by omega) (by rw [g3]; simp only; omega) x1
  have eR : ∀ i, (gp n (2 * k + 1)).1 ≤ i → i < (gp n (2 * k + 1)).2 → el n (pushW n k w) (2 * k + 1) i = el n (apW n (2 * k + 1) (w (44 + k)) (w (172 + k)) (apW n (2 * k) (w (44 + k)) (w (172 + k)) w)) (2 * k + 1) i := fun i a b => by
    obtain ⟨q1, q2, q3⟩ := r2 i a b
    refine el_loc h40 i 7 (2 * k + 1) (by omega) (by omega) (fun x hs hx => ?_) ?_
    · have hle := hs.le
      rw [pw_at, pw_at, if_neg (by omega), if_neg (by omega), if_neg (by omega), if_neg (by omega), if_neg (by omega), if_neg (by omega)]
      exact ⟨rfl, rfl⟩
    · rw [pw_at, if_neg (by omega), if_neg (by omega), if_neg (by omega)]
  have pk := pw_k (n := n) (w := w) h1 h2
  intro i a b
  rw [el_in _ i h40 h1 h2 c, pk.1, pk.2, Int32.one_mul, Int32.add_zero]
  by_cases q : i < m
  · have e : gch n k i = 2 * k := if_pos (by rw [g3]; exact q)
    have a2 : (gp n (2 * k)).1 ≤ i := by rw [g3]; exact a
    have b2 : i < (gp n (2 * k)).2 := by rw [g3]; exact q
    rw [e, eL i a2 b2, apW_el h40 (by omega) (by omega) x1 a2 b2, (r1 i a2 b2).2.2]
  · have e : gch n k i = 2 * k + 1 := if_neg (by rw [g3]; exact q)
    have a2 : (gp n (2 * k + 1)).1 ≤ i := by rw [g4]; simp only; omega
    have b2 : i < (gp n (2 * k + 1)).2 := by rw [g4]; exact b
    rw [e, eR i a2 b2, apW_el h40 (by omega) (by omega) x2 a2 b2, eR0 i a2 b2, (r2 i a2 b2).2.2]
end PEL
def eFr (n k : Nat) (w w' : Nat → Int32) : Prop := (∀ x, ¬ inS k x → x < 128 → w' (44 + x) = w (44 + x) ∧ w' (172 + x) = w (172 + x)) ∧ ∀ i, i < 40 → ¬ ((gp n k).1 ≤ i ∧ i < (gp n k).2) → w' (4 + i) = w (4 + i)
theorem eFr.trans {n k : Nat} {w w1 w2 : Nat → Int32} (h : eFr n k w w1) (g : eFr n k w1 w2) : eFr n k w w2 := ⟨fun x a b => ⟨(g.1 x a b).1.trans (h.1 x a b).1, (g.1 x a b).2.trans (h.1 x a b).2⟩, fun i a b => (g.2 i a b).trans (h.2 i a b)⟩
theorem eFr.rfl' (n k : Nat) (w : Nat → Int32) : eFr n k w w := ⟨fun _ _ _ => ⟨rfl, rfl⟩, fun _ _ _ => rfl⟩
theorem eFr.el {n k c i : Nat} {w w' : Nat → Int32} (h : eFr n k w w') (h40 : n ≤ 40) (h1 : 1 ≤ c) (h2 : c < 128) (hd : ∀ x, inS c x → ¬ inS k x) (hi : i < 40) (hn : ¬ ((gp n k).1 ≤ i ∧ i < (gp n k).2)) : elF n w' i 7 c = elF n w i 7 c := el_loc h40 i 7 c h1 h2 (fun x hs hx => h.1 x (hd x hs) hx) (h.2 i hi hn)
section GEL
variable {n f t : Nat} {A B : Int32}
theorem push_fr {k : Nat} (h40 : n ≤ 40) (h1 : 1 ≤ k) (h2 : k < 128) (c : (gp n k).1 + 2 ≤ (gp n k).2) (S : ZS) : eFr n k (S.2 0) ((g_m_pushes n k S).2.2 0) ∧ ((g_m_pushes n k S).2.2 0 (44 + k) = 1 ∧ (g_m_pushes n k S).2.2 0 (172 + k) = 0) ∧ ∀ i, (gp n k).1 ≤ i → i < (gp n k).2 → el n ((g_m_pushes n k S).2.2 0) k i = el n (S.2 0) k i := by
  by_cases mk : ¬ S.2 0 (44 + k) = 1 ∨ ¬ S.2 0 (172 + k) = 0
  · rw [(push_yes h40 h1 h2 c mk).2]
    refine ⟨⟨fun x hs hx => pw_m h40 h1 h2 c hx (fun z => hs (by rw [z]; exact inS.rfl' _)) (fun z => hs (by rw [z]; exact (inS.rfl' _).l)) (fun z => hs (by rw [z]; exact (inS.rfl' _).r)), fun i hi hn => pw_e h40 h1 h2 c hi hn⟩, pw_k h1 h2, push_el h40 h1 h2 c⟩
  · rw [push_no mk]
    refine ⟨eFr.rfl' _ _ _, ⟨?_, ?_⟩, fun _ _ _ => rfl⟩
    · exact Classical.byContradiction (fun z => mk (Or.inl z))
    · exact Classical.byContradiction (fun z => mk (Or.inr z))
theorem goes_el (h40 : n ≤ 40) (ht : t < n) (hft : f ≤ t) : ∀ (d k : Nat) (S : ZS), 1 ≤ k → k < 128 → 128 ≤ k * 2 ^ d → (gp n k).1 < (gp n k).2 → (gp n k).1 ≤ t → f < (gp n k).2 →
    eFr n k (S.2 0) ((g_m_goes d n k f t A B S).2 0) ∧ ∀ i, (gp n k).1 ≤ i → i < (gp n k).2 → el n ((g_m_goes d n k f t A B S).2 0) k i = if f ≤ i ∧ i ≤ t then A * el n (S.2 0) k i + B else el n (S.2 0) k i := by
  intro d
  induction d with
  | zero => intro k S h1 h2 h3; rw [Nat.pow_zero] at h3; omega
  | succ d ih =>
    intro k S h1 h2 h3 hx ha hb
    have h9 := gp_40 n k h40
    have h4b : k * 2 ^ (d + 1) = (2 * k) * 2 ^ d := by rw [Nat.pow_succ, Nat.mul_comm (2 ^ d) 2, ← Nat.mul_assoc, Nat.mul_comm k 2]
    have h5b : (2 * k) * 2 ^ d ≤ (2 * k + 1) * 2 ^ d := Nat.mul_le_mul_right _ (by omega)
    by_cases ct : f ≤ (gp n k).1 ∧ (gp n k).2 ≤ t + 1
    · have eg : g_m_goes (d + 1) n k f t A B S = sI 21 (nI (mc S + 1)) (sA 11 (mc S) (nI (k)) (g_m_applies n k A B (sI 22 ((S.1 22) + 1) S))) := by
        rw [g_m_goes, if_neg (by omega), if_neg (by omega)]
      have ew : (g_m_goes (d + 1) n k f t A B S).2 0 = apW n k A B (S.2 0) := by
        rw [eg]
        show (g_m_applies n k A B (sI 22 ((S.1 22) + 1) S)).2 0 = _
        rw [ap_w h40 hx]
        rfl
      rw [ew]
      refine ⟨⟨fun x hs hx2 => apW_m h40 h2 hx2 hx (fun z => hs (by rw [z]; exact inS.rfl' _)), fun i hi hn => apW_e hi hn hx⟩, fun i a b => ?_⟩
      rw [apW_el h40 h1 h2 hx a b, if_pos ⟨by omega, by omega⟩]
    · have cin : (gp n k).1 + 2 ≤ (gp n k).2 := by omega
      obtain ⟨m, g1, g2, g3, g4, g5⟩ := gpc h40 h1 h2 cin
      obtain ⟨p1, p2, p3⟩ := push_fr h40 h1 h2 cin (sI 22 ((S.1 22) + 1) S)
      obtain ⟨S1, hS1⟩ : ∃ S1, S1 = (g_m_pushes n k (sI 22 ((S.1 22) + 1) S)).2 := ⟨_, rfl⟩
      obtain ⟨S2, hS2⟩ : ∃ S2, S2 = if m ≤ f then S1 else g_m_goes d n (2 * k) f t A B S1 := ⟨_, rfl⟩
      obtain ⟨S3, hS3⟩ : ∃ S3, S3 = if t < m then S2 else g_m_goes d n (2 * k + 1) f t A B S2 := ⟨_, rfl⟩
      have e2k : (gp n (2 * k)).2 = m := by rw [g3]
      have e2l : (gp n (2 * k)).1 = (gp n k).1 := by rw [g3]
      have e3k : (gp n (2 * k + 1)).1 = m := by rw [g4]
      have e3l : (gp n (2 * k + 1)).2 = (gp n k).2 := by rw [g4]
      have eg : g_m_goes (d + 1) n k f t A B S = S3 := by
        have eP : (if (gp n (2 * k)).2 - 1 < f then (if t < (gp n (2 * k + 1)).1 then S1 else g_m_goes d n (2 * k + 1) f t A B S1) else (if t < (gp n (2 * k + 1)).1 then g_m_goes d n (2 * k) f t A B S1 else g_m_goes d n (2 * k + 1) f t A B (g_m_goes d n (2 * k) f t A B S1))) = S3 := by
          rw [e2k, e3k, hS3, hS2]
          by_cases q1 : m ≤ f
          · rw [if_pos (show m - 1 < f by omega), if_pos q1]
          · rw [if_neg (show ¬ m - 1 < f by omega), if_neg q1]
        rw [g_m_goes, ← hS1]
        by_cases q : (gp n k).1 < f
        · rw [if_pos q]; exact eP
        · rw [if_neg q, if_pos (show t < (gp n k).2 - 1 by omega)]; exact eP
      rw [← hS1] at p1 p2 p3
      have q1 : eFr n (2 * k) (S1.2 0) (S2.2 0) ∧ ∀ i, (gp n k).1 ≤ i → i < m → el n (S2.2 0) (2 * k) i = if f ≤ i ∧ i ≤ t then A * el n (S1.2 0) (2 * k) i + B else el n (S1.2 0) (2 * k) i := by
        by_cases q : m ≤ f
        · rw [hS2, if_pos q]
          exact ⟨eFr.rfl' _ _ _, fun i a b => by rw [if_neg (by omega)]⟩
        · rw [hS2, if_neg q]
          have h := ih (2 * k) S1 (by omega) (by omega) (by omega) (by rw [e2k, e2l]; exact g1) (by rw [e2l]; exact ha) (by rw [e2k]; omega)
          rw [e2k, e2l] at h
          exact h
      have q2 : eFr n (2 * k + 1) (S2.2 0) (S3.2 0) ∧ ∀ i, m ≤ i → i < (gp n k).2 → el n (S3.2 0) (2 * k + 1) i = if f ≤ i ∧ i ≤ t then A * el n (S2.2 0) (2 * k + 1) i + B else el n (S2.2 0) (2 * k + 1) i := by
        by_cases q : t < m
        · rw [hS3, if_pos q]
          exact ⟨eFr.rfl' _ _ _, fun i a b => by rw [if_neg (by omega)]⟩
        · rw [hS3, if_neg q]
          have h := ih (2 * k + 1) S2 (by omega) (by omega) (by omega) (by rw [e3k, e3l]; exact g2) (by rw [e3k]; omega) (by rw [e3l]; exact hb)
          rw [e3k, e3l] at h
          exact h
      have nk1 : ¬ inS (2 * k) k := fun z => by have := z.le; omega
      have nk2 : ¬ inS (2 * k + 1) k := fun z => by have := z.le; omega
      have w1 : S3.2 0 (44 + k) = 1 ∧ S3.2 0 (172 + k) = 0 := by
        have a1 := q2.1.1 k nk2 h2
        have a2 := q1.1.1 k nk1 h2
        exact ⟨a1.1.trans (a2.1.trans p2.1), a1.2.trans (a2.2.trans p2.2)⟩
      rw [eg]
      refine ⟨?_, fun i a b => ?_⟩
      · refine p1.trans ⟨fun x hs hx2 => ?_, fun i hi hn => ?_⟩
        · have a1 := q2.1.1 x (fun z => hs z.r) hx2
          have a2 := q1.1.1 x (fun z => hs z.l) hx2
          exact ⟨a1.1.trans a2.1, a1.2.trans a2.2⟩
        · exact (q2.1.2 i hi (by rw [e3k, e3l]; omega)).trans (q1.1.2 i hi (by rw [e2k, e2l]; omega))
      · have z0 : el n (S1.2 0) k i = el n (S.2 0) k i := p3 i a b
        have z1 := el_in (S1.2 0) i h40 h1 h2 cin
        rw [p2.1, p2.2, Int32.one_mul, Int32.add_zero, z0] at z1
        rw [el_in (S3.2 0) i h40 h1 h2 cin, w1.1, w1.2, Int32.one_mul, Int32.add_zero, z1]
        by_cases q : i < m
        · have e : gch n k i = 2 * k := if_pos (by rw [e2k]; exact q)
          have y : el n (S3.2 0) (2 * k) i = el n (S2.2 0) (2 * k) i := q2.1.el h40 (by omega) (by omega) (fun x hs hr => inS.apart h1 hs hr) (by omega) (by rw [e3k]; omega)
          rw [e, y]
          exact q1.2 i a q
        · have e : gch n k i = 2 * k + 1 := if_neg (by rw [e2k]; exact q)
          have y : el n (S2.2 0) (2 * k + 1) i = el n (S1.2 0) (2 * k + 1) i := q1.1.el h40 (by omega) (by omega) (fun x hs hl => inS.apart h1 hl hs) (by omega) (by rw [e2k]; omega)
          rw [e, ← y]
          exact q2.2 i (by omega) b
theorem upd_el {S : ZS} (h1 : 1 ≤ n) (h40 : n ≤ 40) (ht : t < n) (hft : f ≤ t) {i : Nat} (hi : i < n) : el n ((g_m_updates n f t A B S).2.2 0) 1 i = if f ≤ i ∧ i ≤ t then A * el n (S.2 0) 1 i + B else el n (S.2 0) 1 i := by
  have hgr := mEq_grows (n := n) S h1 h40
  obtain ⟨S0, hS0⟩ : ∃ S0, S0 = sI 22 (0) (sI 21 (0) (g_m_grows n S)) := ⟨_, rfl⟩
  have e0 : S0.2 0 = S.2 0 := by rw [hS0]; exact hgr.2 0 (by decide) (by decide) (by decide)
  have hg := gp_1 n
  have key := (goes_el (A := A) (B := B) h40 ht hft 7 1 S0 (by decide) (by decide) (by decide) (by rw [hg]; exact h1) (by rw [hg]; exact Nat.zero_le _) (by rw [hg]; simp only; omega)).2 i (by rw [hg]; exact Nat.zero_le _) (by rw [hg]; exact hi)
  rw [e0] at key
  obtain ⟨S1, hS1⟩ : ∃ S1, S1 = g_m_goes 7 n 1 f t A B S0 := ⟨_, rfl⟩
  rw [← hS1] at key
  have ew : (g_m_updates n f t A B S).2.2 0 = upd (upd (S1.2 0) 1 (S1.2 0 1 + 1)) 3 (S1.2 0 3 + S1.1 21) := by rw [hS1, hS0]; rfl
  have w4 : ∀ k, 4 ≤ k → k < 300 → upd (upd (S1.2 0) 1 (S1.2 0 1 + 1)) 3 (S1.2 0 3 + S1.1 21) k = S1.2 0 k := fun k hk _ => by
    rw [upd_at, upd_at, if_neg (by omega), if_neg (by omega)]
  rw [ew, elF_cong h40 w4 (Nat.le_refl 1) (by decide) (by omega)]
  exact key
end GEL
