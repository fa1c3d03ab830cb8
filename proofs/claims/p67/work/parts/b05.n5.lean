variable {sc : SC}
def pushW (n k : Nat) (w : Nat → Int32) : Nat → Int32 := upd (upd (upd (apW n (2 * k + 1) (w (44 + k)) (w (172 + k)) (apW n (2 * k) (w (44 + k)) (w (172 + k)) w)) (44 + k) 1) (172 + k) 0) 2 (w 2 + 1)
theorem isMk_iff (k : Nat) (S : ZS) : g_m_isMarked k S = true ↔ (¬ S.2 0 (44 + k) = 1 ∨ ¬ S.2 0 (172 + k) = 0) := by
  unfold g_m_isMarked
  by_cases c : S.2 0 (44 + k) = 1
  · by_cases c2 : S.2 0 (172 + k) = 0
    · rw [if_pos c, if_pos c2]
      exact ⟨fun h => absurd h Bool.false_ne_true, fun h => h.elim (fun z => absurd c z) (fun z => absurd c2 z)⟩
    · rw [if_pos c, if_neg c2]
      exact ⟨fun _ => Or.inr c2, fun _ => rfl⟩
  · rw [if_neg c]
    exact ⟨fun _ => Or.inl c, fun _ => rfl⟩
theorem push_no {n k : Nat} {S : ZS} (h : ¬ (¬ S.2 0 (44 + k) = 1 ∨ ¬ S.2 0 (172 + k) = 0)) : g_m_pushes n k S = (false, S) := if_neg (fun z => h ((isMk_iff k S).mp z))
theorem push_yes {n k : Nat} {S : ZS} (h40 : n ≤ 40) (h1 : 1 ≤ k) (h2 : k < 128) (c : (gp n k).1 + 2 ≤ (gp n k).2) (h : ¬ S.2 0 (44 + k) = 1 ∨ ¬ S.2 0 (172 + k) = 0) : (g_m_pushes n k S).1 = true ∧ (g_m_pushes n k S).2.2 0 = pushW n k (S.2 0) := by
  obtain ⟨m, g1, g2, g3, g4, g5⟩ := gpc h40 h1 h2 c
  have e : g_m_pushes n k S = (true, (sA 0 (2) ((((s_m_pushes_1 n k S)).2 0 (2)) + 1) (sA 0 (172 + k) (0) (sA 0 (44 + k) (1) (s_m_pushes_1 n k S))))) := if_pos ((isMk_iff k S).mpr h)
  have e1 : (s_m_pushes_1 n k S).2 0 = apW n (2 * k + 1) (S.2 0 (44 + k)) (S.2 0 (172 + k)) (apW n (2 * k) (S.2 0 (44 + k)) (S.2 0 (172 + k)) (S.2 0)) := by
    rw [s_m_pushes_1, ap_w h40 (by rw [g4]; exact g2), ap_w h40 (by rw [g3]; exact g1)]
  rw [e]
  refine ⟨rfl, ?_⟩
  show upd (upd (upd ((s_m_pushes_1 n k S).2 0) (44 + k) 1) (172 + k) 0) 2 ((s_m_pushes_1 n k S).2 0 2 + 1) = _
  rw [e1, apW_4 (by decide), apW_4 (by decide)]
  rfl
theorem pw_at (n k : Nat) (w : Nat → Int32) (y : Nat) : pushW n k w y = if y = 2 then w 2 + 1 else if y = 172 + k then 0 else if y = 44 + k then 1 else apW n (2 * k + 1) (w (44 + k)) (w (172 + k)) (apW n (2 * k) (w (44 + k)) (w (172 + k)) w) y := rfl
section PWS
variable {n k : Nat} {w : Nat → Int32}
theorem pw_k (h1 : 1 ≤ k) (h2 : k < 128) : pushW n k w (44 + k) = 1 ∧ pushW n k w (172 + k) = 0 := by
  rw [pw_at, pw_at, if_neg (by omega), if_neg (by omega), if_pos rfl, if_neg (by omega), if_pos rfl]
  exact ⟨rfl, rfl⟩
theorem pw_m {x : Nat} (h40 : n ≤ 40) (h1 : 1 ≤ k) (h2 : k < 128) (c : (gp n k).1 + 2 ≤ (gp n k).2) (hx : x < 128) (a1 : ¬ x = k) (a2 : ¬ x = 2 * k) (a3 : ¬ x = 2 * k + 1) : pushW n k w (44 + x) = w (44 + x) ∧ pushW n k w (172 + x) = w (172 + x) := by
  obtain ⟨m, g1, g2, g3, g4, g5⟩ := gpc h40 h1 h2 c
  have b1 := apW_m (n := n) (k := 2 * k + 1) (x := x) (F := w (44 + k)) (G := w (172 + k)) (w := apW n (2 * k) (w (44 + k)) (w (172 + k)) w) h40 (by omega) hx (by rw [g4]; exact g2) a3
  have b2 := apW_m (n := n) (k := 2 * k) (x := x) (F := w (44 + k)) (G := w (172 + k)) (w := w) h40 (by omega) hx (by rw [g3]; exact g1) a2
  rw [pw_at, pw_at, if_neg (by omega), if_neg (by omega), if_neg (by omega), if_neg (by omega), if_neg (by omega), if_neg (by omega), b1.1, b1.2, b2.1, b2.2]
  exact ⟨rfl, rfl⟩
theorem pw_e {i : Nat} (h40 : n ≤ 40) (h1 : 1 ≤ k) (h2 : k < 128) (c : (gp n k).1 + 2 ≤ (gp n k).2) (hi : i < 40) (h : ¬ ((gp n k).1 ≤ i ∧ i < (gp n k).2)) : pushW n k w (4 + i) = w (4 + i) := by
  obtain ⟨m, g1, g2, g3, g4, g5⟩ := gpc h40 h1 h2 c
  rw [pw_at, if_neg (by omega), if_neg (by omega), if_neg (by omega), apW_e hi (by rw [g4]; simp only; omega) (by rw [g4]; exact g2), apW_e hi (by rw [g3]; simp only; omega) (by rw [g3]; exact g1)]
theorem pw_4 : pushW n k w 0 = w 0 ∧ pushW n k w 1 = w 1 ∧ pushW n k w 3 = w 3 ∧ pushW n k w 2 = w 2 + 1 := by
  rw [pw_at, pw_at, pw_at, pw_at, if_neg (by omega), if_neg (by omega), if_neg (by omega), if_neg (by omega), if_neg (by omega), if_neg (by omega), if_neg (by omega), if_neg (by omega), if_neg (by omega), if_pos rfl, apW_4 (by decide), apW_4 (by decide), apW_4 (by decide), apW_4 (by decide), apW_4 (by decide), apW_4 (by decide)]
  exact ⟨rfl, rfl, rfl, rfl⟩
theorem push_R {v v' : Nat → NR} (h40 : n ≤ 40) (h1 : 1 ≤ k) (h2 : k < 128) (c : (gp n k).1 + 2 ≤ (gp n k).2) (hk : Rn n v w k) (hl : Rn n v w (2 * k)) (hr : Rn n v w (2 * k + 1)) (ek : v' k = clN (v k)) (e1 : v' (2 * k) = mkN (gW n (2 * k)) (w (44 + k)) (w (172 + k)) (v (2 * k))) (e2 : v' (2 * k + 1) = mkN (gW n (2 * k + 1)) (w (44 + k)) (w (172 + k)) (v (2 * k + 1))) :
    Rn n v' (pushW n k w) k ∧ Rn n v' (pushW n k w) (2 * k) ∧ Rn n v' (pushW n k w) (2 * k + 1) ∧ ∀ i, (gp n k).1 ≤ i → i < (gp n k).2 → el n (pushW n k w) k i = el n w k i := by
  obtain ⟨m, g1, g2, g3, g4, g5⟩ := gpc h40 h1 h2 c
  have h9 := gp_40 n k h40
  have x1 : (gp n (2 * k)).1 < (gp n (2 * k)).2 := by rw [g3]; exact g1
  have x2 : (gp n (2 * k + 1)).1 < (gp n (2 * k + 1)).2 := by rw [g4]; exact g2
  have r1 : ∀ i, (gp n (2 * k)).1 ≤ i → i < (gp n (2 * k)).2 → (gp n k).1 ≤ i ∧ i < m ∧ el n w k i = w (44 + k) * el n w (2 * k) i + w (172 + k) := fun i a b => by
    have e : gch n k i = 2 * k := if_pos b
    rw [g3] at a b
    exact ⟨a, b, by rw [el_in w i h40 h1 h2 c, e]⟩
  have r2 : ∀ i, (gp n (2 * k + 1)).1 ≤ i → i < (gp n (2 * k + 1)).2 → m ≤ i ∧ i < (gp n k).2 ∧ el n w k i = w (44 + k) * el n w (2 * k + 1) i + w (172 + k) := fun i a b => by
    rw [g4] at a b
    have e : gch n k i = 2 * k + 1 := if_neg (by rw [g3]; simp only; omega)
    exact ⟨a, b, by rw [el_in w i h40 h1 h2 c, e]⟩
  -- the left child
  have L1 : Rn n v' (apW n (2 * k) (w (44 + k)) (w (172 + k)) w) (2 * k) := R_mark h40 (by omega) (by omega) x1 hk.2.1 rfl hl (fun i a b => by
    obtain ⟨q1, q2, q3⟩ := r1 i a b
    rw [← q3]; exact hk.2.2.1 i q1 (by omega)) e1
  have eL : ∀ i, (gp n (2 * k)).1 ≤ i → i < (gp n (2 * k)).2 → el n (pushW n k w) (2 * k) i = el n (apW n (2 * k) (w (44 + k)) (w (172 + k)) w) (2 * k) i := fun i a b => by
    obtain ⟨q1, q2, q3⟩ := r1 i a b
    refine el_loc h40 i 7 (2 * k) (by omega) (by omega) (fun x hs hx => ?_) ?_
    · have hle := hs.le
      have hn : ¬ x = 2 * k + 1 := fun z => inS.apart h1 hs (z ▸ inS.rfl' _)
      have b1 := apW_m (n := n) (k := 2 * k + 1) (x := x) (F := w (44 + k)) (G := w (172 + k)) (w := apW n (2 * k) (w (44 + k)) (w (172 + k)) w) h40 (by omega) hx x2 hn
      rw [pw_at, pw_at, if_neg (by omega), if_neg (by omega), if_neg (by omega), if_neg (by omega), if_neg (by omega), if_neg (by omega), b1.1, b1.2]
      exact ⟨rfl, rfl⟩
    · rw [pw_at, if_neg (by omega), if_neg (by omega), if_neg (by omega), apW_e (by omega) (by rw [g4]; simp only; omega) x2]
  have L2 : Rn n v' (pushW n k w) (2 * k) := by
    refine L1.cong eL rfl ?_ ?_
    · have b1 := apW_m (n := n) (k := 2 * k + 1) (x := 2 * k) (F := w (44 + k)) (G := w (172 + k)) (w := apW n (2 * k) (w (44 + k)) (w (172 + k)) w) h40 (by omega) (by omega) x2 (by omega)
      rw [pw_at, if_neg (by omega), if_neg (by omega), if_neg (by omega), b1.1]
    · have b1 := apW_m (n := n) (k := 2 * k + 1) (x := 2 * k) (F := w (44 + k)) (G := w (172 + k)) (w := apW n (2 * k) (w (44 + k)) (w (172 + k)) w) h40 (by omega) (by omega) x2 (by omega)
      rw [pw_at, if_neg (by omega), if_neg (by omega), if_neg (by omega), b1.2]
  -- the right child
  have eR0 : ∀ i, (gp n (2 * k + 1)).1 ≤ i → i < (gp n (2 * k + 1)).2 → el n (apW n (2 * k) (w (44 + k)) (w (172 + k)) w) (2 * k + 1) i = el n w (2 * k + 1) i := fun i a b => by
    obtain ⟨q1, q2, q3⟩ := r2 i a b
    refine el_loc h40 i 7 (2 * k + 1) (by omega) (by omega) (fun x hs hx => ?_) ?_
    · have hn : ¬ x = 2 * k := fun z => inS.apart h1 (z ▸ inS.rfl' _) hs
      exact apW_m h40 (by omega) hx x1 hn
    · exact apW_e (by omega) (by rw [g3]; simp only; omega) x1
  have m0 := apW_m (n := n) (k := 2 * k) (x := 2 * k + 1) (F := w (44 + k)) (G := w (172 + k)) (w := w) h40 (by omega) (by omega) x1 (by omega)
  have R0 : Rn n v (apW n (2 * k) (w (44 + k)) (w (172 + k)) w) (2 * k + 1) := hr.cong eR0 rfl m0.1 m0.2
  have R1 : Rn n v' (apW n (2 * k + 1) (w (44 + k)) (w (172 + k)) (apW n (2 * k) (w (44 + k)) (w (172 + k)) w)) (2 * k + 1) := R_mark h40 (by omega) (by omega) x2 hk.2.1 rfl R0 (fun i a b => by
    obtain ⟨q1, q2, q3⟩ := r2 i a b
    rw [eR0 i a b, ← q3]; exact hk.2.2.1 i (by omega) q2) e2
  have eR : ∀ i, (gp n (2 * k + 1)).1 ≤ i → i < (gp n (2 * k + 1)).2 → el n (pushW n k w) (2 * k + 1) i = el n (apW n (2 * k + 1) (w (44 + k)) (w (172 + k)) (apW n (2 * k) (w (44 + k)) (w (172 + k)) w)) (2 * k + 1) i := fun i a b => by
    obtain ⟨q1, q2, q3⟩ := r2 i a b
    refine el_loc h40 i 7 (2 * k + 1) (by omega) (by omega) (fun x hs hx => ?_) ?_
    · have hle := hs.le
      rw [pw_at, pw_at, if_neg (by omega), if_neg (by omega), if_neg (by omega), if_neg (by omega), if_neg (by omega), if_neg (by omega)]
      exact ⟨rfl, rfl⟩
    · rw [pw_at, if_neg (by omega), if_neg (by omega), if_neg (by omega)]
  have R2 : Rn n v' (pushW n k w) (2 * k + 1) := by
    refine R1.cong eR rfl ?_ ?_
    · rw [pw_at, if_neg (by omega), if_neg (by omega), if_neg (by omega)]
    · rw [pw_at, if_neg (by omega), if_neg (by omega), if_neg (by omega)]
  -- the node itself
  have pk := pw_k (n := n) (w := w) h1 h2
  have eK : ∀ i, (gp n k).1 ≤ i → i < (gp n k).2 → el n (pushW n k w) k i = el n w k i := fun i a b => by
    rw [el_in _ i h40 h1 h2 c, pk.1, pk.2, Int32.one_mul, Int32.add_zero]
    by_cases q : i < m
    · have e : gch n k i = 2 * k := if_pos (by rw [g3]; exact q)
      have a2 : (gp n (2 * k)).1 ≤ i := by rw [g3]; exact a
      have b2 : i < (gp n (2 * k)).2 := by rw [g3]; exact q
      rw [e, eL i a2 b2, apW_el h40 (by omega) (by omega) x1 a2 b2, (r1 i a2 b2).2.2]
    · have e : gch n k i = 2 * k + 1 := if_neg (by rw [g3]; exact q)
      have a2 : (gp n (2 * k + 1)).1 ≤ i := by rw [g4]; simp only; omega
      have b2 : i < (gp n (2 * k + 1)).2 := by rw [g4]; exact b
      rw [e, eR i a2 b2, apW_el h40 (by omega) (by omega) x2 a2 b2, eR0 i a2 b2, (r2 i a2 b2).2.2]
  refine ⟨⟨by rw [ek, pk.1, pk.2]; exact ⟨rfl, rfl⟩, by rw [pk.1]; exact Or.inr (Or.inr rfl), fun i a b => by rw [eK i a b]; exact hk.2.2.1 i a b, ?_, fun z => absurd c z⟩, L2, R2, eK⟩
  rw [ek]
  exact hk.2.2.2.1.cong eK
end PWS
