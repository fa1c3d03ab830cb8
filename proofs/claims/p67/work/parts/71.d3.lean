variable {sc : SC}
abbrev zs3 (m a b : Nat) : Nat → Nat := fun i => if i < m then a + i else if i < 1000000 then b + (i - m) else i
theorem zs3_fix {m : Nat} (a b i : Nat) (h : m ≤ 1000000) : zs3 m a b (1000000 + i) = 1000000 + i := by
  show (if 1000000 + i < m then _ else if 1000000 + i < 1000000 then _ else _) = _
  rw [if_neg (by omega), if_neg (by omega)]
theorem zs3_lo {m a b i : Nat} (h : i < m) : zs3 m a b (0 + i) = a + i := by
  show (if 0 + i < m then a + (0 + i) else _) = _
  rw [if_pos (by omega), Nat.zero_add]
theorem zs3_hi {m a b i : Nat} (h : m + i < 1000000) : zs3 m a b (m + i) = b + i := by
  show (if m + i < m then _ else if m + i < 1000000 then b + (m + i - m) else _) = _
  rw [if_neg (by omega), if_pos h, Nat.add_sub_cancel_left]
theorem zs3_inj {m a b n : Nat} (h : n ≤ 1000000) (hm : m ≤ n) (g : a + m ≤ b ∨ b + (n - m) ≤ a) : ∀ i j, i < n → j < n → zs3 m a b i = zs3 m a b j → i = j := fun i j hi hj e => by
  have e1 : ∀ k, k < n → zs3 m a b k = if k < m then a + k else b + (k - m) := fun k hk => by
    show (if k < m then _ else if k < 1000000 then _ else _) = _
    by_cases c : k < m
    · rw [if_pos c, if_pos c]
    · rw [if_neg c, if_neg c, if_pos (by omega)]
  rw [e1 i hi, e1 j hj] at e
  split at e <;> split at e <;> omega
theorem zfit_seg {ρ : Nat → Nat} : ∀ (hc : List zO) (k : Nat) (A C : List zO), (∀ i, i < hc.length → ρ (k + i) = A.length + i) → zfit ρ k (A ++ (hc.map (zren ρ) ++ C)) hc := by
  intro hc
  induction hc with
  | nil => intro k A C _; exact trivial
  | cons x t ih =>
    intro k A C h
    have h0 := h 0 (by simp)
    rw [Nat.add_zero, Nat.add_zero] at h0
    refine ⟨?_, ?_⟩
    · rw [h0, List.getElem?_append_right (Nat.le_refl _), Nat.sub_self]
      rfl
    · have e : A ++ ((x :: t).map (zren ρ) ++ C) = (A ++ [zren ρ x]) ++ (t.map (zren ρ) ++ C) := by simp
      rw [e]
      refine ih (k + 1) (A ++ [zren ρ x]) C (fun i hi => ?_)
      have h9 := h (i + 1) (by simp only [List.length_cons]; omega)
      rw [List.length_append, List.length_singleton, show k + 1 + i = k + (i + 1) by omega, h9]
      omega
theorem zplug_seg {ρ : Nat → Nat} : ∀ (hc : List zO) (k : Nat) (A B C : List zO), B.length = hc.length → (∀ i, i < hc.length → ρ (k + i) = A.length + i) → zplug ρ k (A ++ (B ++ C)) hc = A ++ (hc.map (zren ρ) ++ C) := by
  intro hc
  induction hc with
  | nil =>
    intro k A B C hB _
    have e : B = [] := List.length_eq_zero_iff.mp hB
    rw [e]
    rfl
  | cons x t ih =>
    intro k A B C hB h
    have h0 := h 0 (by simp)
    rw [Nat.add_zero, Nat.add_zero] at h0
    match B, hB with
    | y :: B, hB =>
      show zplug ρ (k + 1) ((A ++ (y :: B ++ C)).set (ρ k) (zren ρ x)) t = _
      have e : (A ++ (y :: B ++ C)).set (ρ k) (zren ρ x) = (A ++ [zren ρ x]) ++ (B ++ C) := by
        rw [h0, List.set_append_right _ _ (Nat.le_refl _), Nat.sub_self]
        simp
      rw [e, ih (k + 1) (A ++ [zren ρ x]) B C (by simpa using hB) (fun i hi => by
        have h9 := h (i + 1) (by simp only [List.length_cons]; omega)
        rw [List.length_append, List.length_singleton, show k + 1 + i = k + (i + 1) by omega, h9]
        omega)]
      simp
theorem zfit_app {ρ : Nat → Nat} {h : List zO} : ∀ (a b : List zO) (k : Nat), zfit ρ k h a → zfit ρ (k + a.length) h b → zfit ρ k h (a ++ b) := by
  intro a
  induction a with
  | nil => intro b k _ h2; exact h2
  | cons x t ih =>
    intro b k h1 h2
    refine ⟨h1.1, ih b (k + 1) h1.2 ?_⟩
    rw [show k + 1 + t.length = k + (x :: t).length by simp only [List.length_cons]; omega]
    exact h2
theorem zplug_app {ρ : Nat → Nat} : ∀ (a b : List zO) (k : Nat) (h : List zO), zplug ρ k h (a ++ b) = zplug ρ (k + a.length) (zplug ρ k h a) b := by
  intro a
  induction a with
  | nil => intro b k h; rfl
  | cons x t ih =>
    intro b k h
    show zplug ρ (k + 1) (h.set (ρ k) (zren ρ x)) (t ++ b) = _
    rw [ih b (k + 1), show k + 1 + t.length = k + (x :: t).length by simp only [List.length_cons]; omega]
    rfl
theorem zfit_two {m a b : Nat} {c1 c2 A M C B1 B2 : List zO} (hm : c1.length = m) (hn : m + c2.length ≤ 1000000) (hA : A.length = a) (hB : a + m + M.length = b) (e1 : c1.map (zren (zs3 m a b)) = B1) (e2 : c2.map (zren (zs3 m a b)) = B2) : zfit (zs3 m a b) 0 (A ++ (B1 ++ (M ++ (B2 ++ C)))) (c1 ++ c2) := by
  subst hm; subst hA; subst e1; subst e2
  refine zfit_app _ _ _ (zfit_seg c1 0 A _ (fun i hi => zs3_lo hi)) ?_
  have e : A ++ (c1.map (zren (zs3 c1.length A.length b)) ++ (M ++ (c2.map (zren (zs3 c1.length A.length b)) ++ C))) = (A ++ (c1.map (zren (zs3 c1.length A.length b)) ++ M)) ++ (c2.map (zren (zs3 c1.length A.length b)) ++ C) := by simp
  rw [e]
  refine zfit_seg c2 _ _ C (fun i hi => ?_)
  rw [Nat.zero_add, zs3_hi (by omega), List.length_append, List.length_append, List.length_map]
  omega
theorem zplug_two {m a b : Nat} {c1 c2 A M C B1 B2 D1 D2 : List zO} (hm : c1.length = m) (hn : m + c2.length ≤ 1000000) (hA : A.length = a) (hB : a + m + M.length = b) (g1 : B1.length = c1.length) (g2 : B2.length = c2.length) (e1 : c1.map (zren (zs3 m a b)) = D1) (e2 : c2.map (zren (zs3 m a b)) = D2) : zplug (zs3 m a b) 0 (A ++ (B1 ++ (M ++ (B2 ++ C)))) (c1 ++ c2) = A ++ (D1 ++ (M ++ (D2 ++ C))) := by
  subst hm; subst hA; subst e1; subst e2
  rw [zplug_app, zplug_seg c1 0 A B1 _ g1 (fun i hi => zs3_lo hi)]
  have e : A ++ (c1.map (zren (zs3 c1.length A.length b)) ++ (M ++ (B2 ++ C))) = (A ++ (c1.map (zren (zs3 c1.length A.length b)) ++ M)) ++ (B2 ++ C) := by simp
  rw [e, zplug_seg c2 _ _ B2 C g2 (fun i hi => by
    rw [Nat.zero_add, zs3_hi (by omega), List.length_append, List.length_append, List.length_map]
    omega)]
  simp
theorem zfit_owt {m a b : Nat} {c1 c2 A M C B1 B2 : List zO} (hm : c1.length = m) (hn : m + c2.length ≤ 1000000) (hA : A.length = b) (hB : b + c2.length + M.length = a) (e1 : c1.map (zren (zs3 m a b)) = B1) (e2 : c2.map (zren (zs3 m a b)) = B2) : zfit (zs3 m a b) 0 (A ++ (B2 ++ (M ++ (B1 ++ C)))) (c1 ++ c2) := by
  subst hm; subst hA; subst e1; subst e2
  refine zfit_app _ _ _ ?_ ?_
  · have e : A ++ (c2.map (zren (zs3 c1.length a A.length)) ++ (M ++ (c1.map (zren (zs3 c1.length a A.length)) ++ C))) = (A ++ (c2.map (zren (zs3 c1.length a A.length)) ++ M)) ++ (c1.map (zren (zs3 c1.length a A.length)) ++ C) := by simp
    rw [e]
    refine zfit_seg c1 _ _ C (fun i hi => ?_)
    rw [zs3_lo hi, List.length_append, List.length_append, List.length_map]
    omega
  · refine zfit_seg c2 _ A _ (fun i hi => ?_)
    rw [Nat.zero_add, zs3_hi (by omega)]
theorem zplug_owt {m a b : Nat} {c1 c2 A M C B1 B2 D1 D2 : List zO} (hm : c1.length = m) (hn : m + c2.length ≤ 1000000) (hA : A.length = b) (hB : b + c2.length + M.length = a) (g1 : B1.length = c1.length) (g2 : B2.length = c2.length) (e1 : c1.map (zren (zs3 m a b)) = D1) (e2 : c2.map (zren (zs3 m a b)) = D2) : zplug (zs3 m a b) 0 (A ++ (B2 ++ (M ++ (B1 ++ C)))) (c1 ++ c2) = A ++ (D2 ++ (M ++ (D1 ++ C))) := by
  subst hm; subst hA; subst e1; subst e2
  have e : A ++ (B2 ++ (M ++ (B1 ++ C))) = (A ++ (B2 ++ M)) ++ (B1 ++ C) := by simp
  rw [zplug_app, e, zplug_seg c1 0 _ B1 C g1 (fun i hi => by
    rw [zs3_lo hi, List.length_append, List.length_append]
    omega)]
  have e3 : (A ++ (B2 ++ M)) ++ (c1.map (zren (zs3 c1.length a A.length)) ++ C) = A ++ (B2 ++ (M ++ (c1.map (zren (zs3 c1.length a A.length)) ++ C))) := by simp
  rw [e3, zplug_seg c2 _ A B2 _ g2 (fun i hi => by rw [Nat.zero_add, zs3_hi (by omega)])]
def setG (G : Nat → TS) (j : Nat) (U : TS) : Nat → TS := fun i => if i = j then U else G i
theorem setG_same (G : Nat → TS) (j : Nat) (U : TS) : setG G j U j = U := if_pos rfl
theorem setG_ne (G : Nat → TS) {i j : Nat} (U : TS) (h : ¬ i = j) : setG G j U i = G i := if_neg h
theorem hho_split (S : ZS) (r : Nat) (G : Nat → TS) (j : Nat) (hj : j < 8) : ∃ A C, hho 0 S r G = A ++ (tho (2 + 9 * j) (G j) ++ C) ∧ A.length = 2 + 9 * j ∧ 2 + 9 * j + 9 + C.length = 74 ∧ ∀ U, hho 0 S r (setG G j U) = A ++ (tho (2 + 9 * j) U ++ C) := by
  match j, hj with
  | 0, _ => exact ⟨.inr (0, [.ref (0 + 1), .int (S.1 1)]) :: .inl (5, 8, .inr (.inr (.inr (.inr (hrow r 0))))) :: ([]), tho (0 + 11) (G 1) ++ (tho (0 + 20) (G 2) ++ (tho (0 + 29) (G 3) ++ (tho (0 + 38) (G 4) ++ (tho (0 + 47) (G 5) ++ (tho (0 + 56) (G 6) ++ (tho (0 + 65) (G 7))))))), rfl, rfl, rfl, fun U => by simp only [hho, setG_same, setG_ne G U (show ¬ 1 = 0 by decide), setG_ne G U (show ¬ 2 = 0 by decide), setG_ne G U (show ¬ 3 = 0 by decide), setG_ne G U (show ¬ 4 = 0 by decide), setG_ne G U (show ¬ 5 = 0 by decide), setG_ne G U (show ¬ 6 = 0 by decide), setG_ne G U (show ¬ 7 = 0 by decide)]; rfl⟩
  | 1, _ => exact ⟨.inr (0, [.ref (0 + 1), .int (S.1 1)]) :: .inl (5, 8, .inr (.inr (.inr (.inr (hrow r 0))))) :: (tho (0 + 2) (G 0)), tho (0 + 20) (G 2) ++ (tho (0 + 29) (G 3) ++ (tho (0 + 38) (G 4) ++ (tho (0 + 47) (G 5) ++ (tho (0 + 56) (G 6) ++ (tho (0 + 65) (G 7)))))), rfl, rfl, rfl, fun U => by simp only [hho, setG_same, setG_ne G U (show ¬ 2 = 1 by decide), setG_ne G U (show ¬ 0 = 1 by decide), setG_ne G U (show ¬ 3 = 1 by decide), setG_ne G U (show ¬ 4 = 1 by decide), setG_ne G U (show ¬ 5 = 1 by decide), setG_ne G U (show ¬ 6 = 1 by decide), setG_ne G U (show ¬ 7 = 1 by decide)]; rfl⟩
  | 2, _ => exact ⟨.inr (0, [.ref (0 + 1), .int (S.1 1)]) :: .inl (5, 8, .inr (.inr (.inr (.inr (hrow r 0))))) :: (tho (0 + 2) (G 0) ++ tho (0 + 11) (G 1)), tho (0 + 29) (G 3) ++ (tho (0 + 38) (G 4) ++ (tho (0 + 47) (G 5) ++ (tho (0 + 56) (G 6) ++ (tho (0 + 65) (G 7))))), rfl, rfl, rfl, fun U => by simp only [hho, setG_same, setG_ne G U (show ¬ 3 = 2 by decide), setG_ne G U (show ¬ 0 = 2 by decide), setG_ne G U (show ¬ 1 = 2 by decide), setG_ne G U (show ¬ 4 = 2 by decide), setG_ne G U (show ¬ 5 = 2 by decide), setG_ne G U (show ¬ 6 = 2 by decide), setG_ne G U (show ¬ 7 = 2 by decide)]; rfl⟩
  | 3, _ => exact ⟨.inr (0, [.ref (0 + 1), .int (S.1 1)]) :: .inl (5, 8, .inr (.inr (.inr (.inr (hrow r 0))))) :: (tho (0 + 2) (G 0) ++ tho (0 + 11) (G 1) ++ tho (0 + 20) (G 2)), tho (0 + 38) (G 4) ++ (tho (0 + 47) (G 5) ++ (tho (0 + 56) (G 6) ++ (tho (0 + 65) (G 7)))), rfl, rfl, rfl, fun U => by simp only [hho, setG_same, setG_ne G U (show ¬ 4 = 3 by decide), setG_ne G U (show ¬ 0 = 3 by decide), setG_ne G U (show ¬ 1 = 3 by decide), setG_ne G U (show ¬ 2 = 3 by decide), setG_ne G U (show ¬ 5 = 3 by decide), setG_ne G U (show ¬ 6 = 3 by decide), setG_ne G U (show ¬ 7 = 3 by decide)]; rfl⟩
  | 4, _ => exact ⟨.inr (0, [.ref (0 + 1), .int (S.1 1)]) :: .inl (5, 8, .inr (.inr (.inr (.inr (hrow r 0))))) :: (tho (0 + 2) (G 0) ++ tho (0 + 11) (G 1) ++ tho (0 + 20) (G 2) ++ tho (0 + 29) (G 3)), tho (0 + 47) (G 5) ++ (tho (0 + 56) (G 6) ++ (tho (0 + 65) (G 7))), rfl, rfl, rfl, fun U => by simp only [hho, setG_same, setG_ne G U (show ¬ 5 = 4 by decide), setG_ne G U (show ¬ 0 = 4 by decide), setG_ne G U (show ¬ 1 = 4 by decide), setG_ne G U (show ¬ 2 = 4 by decide), setG_ne G U (show ¬ 3 = 4 by decide), setG_ne G U (show ¬ 6 = 4 by decide), setG_ne G U (show ¬ 7 = 4 by decide)]; rfl⟩
  | 5, _ => exact ⟨.inr (0, [.ref (0 + 1), .int (S.1 1)]) :: .inl (5, 8, .inr (.inr (.inr (.inr (hrow r 0))))) :: (tho (0 + 2) (G 0) ++ tho (0 + 11) (G 1) ++ tho (0 + 20) (G 2) ++ tho (0 + 29) (G 3) ++ tho (0 + 38) (G 4)), tho (0 + 56) (G 6) ++ (tho (0 + 65) (G 7)), rfl, rfl, rfl, fun U => by simp only [hho, setG_same, setG_ne G U (show ¬ 6 = 5 by decide), setG_ne G U (show ¬ 0 = 5 by decide), setG_ne G U (show ¬ 1 = 5 by decide), setG_ne G U (show ¬ 2 = 5 by decide), setG_ne G U (show ¬ 3 = 5 by decide), setG_ne G U (show ¬ 4 = 5 by decide), setG_ne G U (show ¬ 7 = 5 by decide)]; rfl⟩
  | 6, _ => exact ⟨.inr (0, [.ref (0 + 1), .int (S.1 1)]) :: .inl (5, 8, .inr (.inr (.inr (.inr (hrow r 0))))) :: (tho (0 + 2) (G 0) ++ tho (0 + 11) (G 1) ++ tho (0 + 20) (G 2) ++ tho (0 + 29) (G 3) ++ tho (0 + 38) (G 4) ++ tho (0 + 47) (G 5)), tho (0 + 65) (G 7), rfl, rfl, rfl, fun U => by simp only [hho, setG_same, setG_ne G U (show ¬ 7 = 6 by decide), setG_ne G U (show ¬ 0 = 6 by decide), setG_ne G U (show ¬ 1 = 6 by decide), setG_ne G U (show ¬ 2 = 6 by decide), setG_ne G U (show ¬ 3 = 6 by decide), setG_ne G U (show ¬ 4 = 6 by decide), setG_ne G U (show ¬ 5 = 6 by decide)]; rfl⟩
  | 7, _ => exact ⟨.inr (0, [.ref (0 + 1), .int (S.1 1)]) :: .inl (5, 8, .inr (.inr (.inr (.inr (hrow r 0))))) :: (tho (0 + 2) (G 0) ++ tho (0 + 11) (G 1) ++ tho (0 + 20) (G 2) ++ tho (0 + 29) (G 3) ++ tho (0 + 38) (G 4) ++ tho (0 + 47) (G 5) ++ tho (0 + 56) (G 6)), [], rfl, rfl, rfl, fun U => by simp only [hho, setG_same, setG_ne G U (show ¬ 0 = 7 by decide), setG_ne G U (show ¬ 1 = 7 by decide), setG_ne G U (show ¬ 2 = 7 by decide), setG_ne G U (show ¬ 3 = 7 by decide), setG_ne G U (show ¬ 4 = 7 by decide), setG_ne G U (show ¬ 5 = 7 by decide), setG_ne G U (show ¬ 6 = 7 by decide)]; rfl⟩
theorem tho_len (o : Nat) (T : TS) : (tho o T).length = 9 := rfl
theorem k_remember_lt (S : ZS) (r : Nat) (G : Nat → TS) (T : TS) (c : Nat) (hc : S.1 1 = nI c) (h8 : c < 8) : zM sc yX0_remember cX0_remember 3 none 2 0 0 [.ref 0, .ref 74] (hho 0 S r G ++ tho 74 T) (.inl none) (hho 0 (sI 1 (nI (c + 1)) S) r (setG G ((c + r) % 8) (tCopy T (G ((c + r) % 8)))) ++ tho 74 T) := by
  refine zM.at (ls := [some (.ref 0), some (.ref 74), none]) zy_X0_remember.2.2.2.2.2 (Nat.le_of_ble_eq_true rfl) rfl ?_
  refine z_aload_0 dX0_remember_0 ?_
  refine z_get (k := 1) dX0_remember_1 rfl rfl rfl (by decide) zf_X0_17 zw_in0 ?_
  refine z_topi (w := nI c) hc ?_
  refine z_bipush (v := 8) dX0_remember_4 rfl ?_
  refine z_icmpN_lt_t (tgt := 13) dX0_remember_6 (by decide) (x := c) (z := 8) (by omega) (by decide) (by omega) ?_
  refine z_aload_0 dX0_remember_13 ?_
  refine z_aload_0 dX0_remember_14 ?_
  refine z_get (k := 1) dX0_remember_15 rfl rfl rfl (by decide) zf_X0_17 zw_in0 ?_
  refine z_topi (w := nI c) hc ?_
  refine Z.callPs (zRun.V (ρ := fun i => i) (k_treeAt S r G c (by omega)) dX0_remember_18 zy_X0_treeAt zm_X0_25 rfl rfl rfl rfl (Nat.le_of_ble_eq_true rfl) (by decide) (by decide)) (zlen2 74 rfl rfl) ?_
  have hj : (c + r) % 8 < 8 := Nat.mod_lt _ (by decide)
  generalize (c + r) % 8 = j at hj ⊢
  refine z_astore_2 (x := 2 + 9 * j) dX0_remember_21 rfl (by decide) ?_
  refine z_aload_2 dX0_remember_22 ?_
  refine z_ifnull dX0_remember_23 ?_
  refine z_aload_2 dX0_remember_26 ?_
  refine z_aload_1 dX0_remember_27 ?_
  obtain ⟨A, C, eh, hA, hC, hs⟩ := hho_split S r G j hj
  have e9 : hho 0 S r G ++ tho 74 T = A ++ (tho (2 + 9 * j) (G j) ++ (C ++ (tho 74 T ++ []))) := by rw [eh, List.append_nil, List.append_assoc, List.append_assoc]
  have hf : zfit (zs3 9 (2 + 9 * j) 74) 0 (hho 0 S r G ++ tho 74 T) (th (G j) ++ tho 9 T) := by rw [e9]; exact zfit_two rfl (Nat.le_of_ble_eq_true rfl) hA (by omega) rfl rfl
  refine Z.shn (hho 0 S r (setG G j (tCopy T (G j))) ++ tho 74 T) (zRun.V (ρ := zs3 9 (2 + 9 * j) 74) (k_copyFrom (G j) T) dX0_remember_28 zy_X5_copyFrom zm_X0_29 rfl hf.1 rfl rfl (Nat.le_of_ble_eq_true rfl) (by decide) (by decide) (fun i => zs3_fix _ _ i (by decide))) (zs3_inj (Nat.le_of_ble_eq_true rfl) (Nat.le_of_ble_eq_true rfl) (Or.inl (by omega))) hf (zlen2 18 rfl rfl) (by rw [e9, zplug_two (m := 9) (a := 2 + 9 * j) (b := 74) (c1 := th (tCopy T (G j))) (c2 := tho 9 T) (A := A) (M := C) (C := []) (B1 := tho (2 + 9 * j) (G j)) (B2 := tho 74 T) (D1 := tho (2 + 9 * j) (tCopy T (G j))) (D2 := tho 74 T) rfl (Nat.le_of_ble_eq_true rfl) hA (by omega) rfl rfl rfl rfl, hs, List.append_nil, List.append_assoc, List.append_assoc]) ?_
  refine z_aload_0 dX0_remember_31 ?_
  refine z_dup dX0_remember_32 rfl ?_
  refine z_get (k := 1) dX0_remember_33 rfl rfl rfl (by decide) zf_X0_17 zw_in0 ?_
  refine z_topi (w := nI c) hc ?_
  refine z_iconst (v := 1) dX0_remember_36 rfl ?_
  refine z_iadd dX0_remember_37 ?_
  refine z_topi (w := nI (c + 1)) (zq1 _) ?_
  refine z_put (k := 1) (ty := tyX0) dX0_remember_38 rfl rfl (by decide) zf_X0_17 zw_in0 tyX0_ok nmX0 rfl (fun _ => ⟨rfl, rfl⟩) (Nat.le_of_ble_eq_true rfl) ?_
  exact z_vret dX0_remember_41 rfl rfl rfl
theorem k_remember_8 (S : ZS) (r : Nat) (G : Nat → TS) (T : TS) (c : Nat) (hc : S.1 1 = nI c) (h8 : c = 8) : zM sc yX0_remember cX0_remember 3 none 2 0 0 [.ref 0, .ref 74] (hho 0 S r G ++ tho 74 T) (.inl none) (hho 0 (sI 1 (nI (7 + 1)) S) (r + 1) (setG G ((7 + (r + 1)) % 8) (tCopy T (G ((7 + (r + 1)) % 8)))) ++ tho 74 T) := by
  refine zM.at (ls := [some (.ref 0), some (.ref 74), none]) zy_X0_remember.2.2.2.2.2 (Nat.le_of_ble_eq_true rfl) rfl ?_
  refine z_aload_0 dX0_remember_0 ?_
  refine z_get (k := 1) dX0_remember_1 rfl rfl rfl (by decide) zf_X0_17 zw_in0 ?_
  refine z_topi (w := nI c) hc ?_
  refine z_bipush (v := 8) dX0_remember_4 rfl ?_
  refine z_icmpN_lt_f (tgt := 13) dX0_remember_6 (by decide) (x := c) (z := 8) (by omega) (by decide) (by omega) ?_
  refine z_aload_0 dX0_remember_9 ?_
  refine Z.callPn (zRun.V (ρ := fun i => i) (k_dropOldest S r G) dX0_remember_10 zy_X0_dropOldest zm_X0_22 rfl rfl rfl rfl (Nat.le_of_ble_eq_true rfl) (by decide) (by decide)) (zlen2 74 rfl rfl) ?_
  refine z_aload_0 dX0_remember_13 ?_
  refine z_aload_0 dX0_remember_14 ?_
  refine z_get (k := 1) dX0_remember_15 rfl rfl rfl (by decide) zf_X0_17 zw_in0 ?_
  refine z_topi (w := nI 7) rfl ?_
  refine Z.callPs (zRun.V (ρ := fun i => i) (k_treeAt (sI 1 7 S) (r + 1) G 7 (by omega)) dX0_remember_18 zy_X0_treeAt zm_X0_25 rfl rfl rfl rfl (Nat.le_of_ble_eq_true rfl) (by decide) (by decide)) (zlen2 74 rfl rfl) ?_
  have hj : (7 + (r + 1)) % 8 < 8 := Nat.mod_lt _ (by decide)
  generalize (7 + (r + 1)) % 8 = j at hj ⊢
  refine z_astore_2 (x := 2 + 9 * j) dX0_remember_21 rfl (by decide) ?_
  refine z_aload_2 dX0_remember_22 ?_
  refine z_ifnull dX0_remember_23 ?_
  refine z_aload_2 dX0_remember_26 ?_
  refine z_aload_1 dX0_remember_27 ?_
  obtain ⟨A, C, eh, hA, hC, hs⟩ := hho_split (sI 1 7 S) (r + 1) G j hj
  have e9 : hho 0 (sI 1 7 S) (r + 1) G ++ tho 74 T = A ++ (tho (2 + 9 * j) (G j) ++ (C ++ (tho 74 T ++ []))) := by rw [eh, List.append_nil, List.append_assoc, List.append_assoc]
  have hf : zfit (zs3 9 (2 + 9 * j) 74) 0 (hho 0 (sI 1 7 S) (r + 1) G ++ tho 74 T) (th (G j) ++ tho 9 T) := by rw [e9]; exact zfit_two rfl (Nat.le_of_ble_eq_true rfl) hA (by omega) rfl rfl
  refine Z.shn (hho 0 (sI 1 7 S) (r + 1) (setG G j (tCopy T (G j))) ++ tho 74 T) (zRun.V (ρ := zs3 9 (2 + 9 * j) 74) (k_copyFrom (G j) T) dX0_remember_28 zy_X5_copyFrom zm_X0_29 rfl hf.1 rfl rfl (Nat.le_of_ble_eq_true rfl) (by decide) (by decide) (fun i => zs3_fix _ _ i (by decide))) (zs3_inj (Nat.le_of_ble_eq_true rfl) (Nat.le_of_ble_eq_true rfl) (Or.inl (by omega))) hf (zlen2 18 rfl rfl) (by rw [e9, zplug_two (m := 9) (a := 2 + 9 * j) (b := 74) (c1 := th (tCopy T (G j))) (c2 := tho 9 T) (A := A) (M := C) (C := []) (B1 := tho (2 + 9 * j) (G j)) (B2 := tho 74 T) (D1 := tho (2 + 9 * j) (tCopy T (G j))) (D2 := tho 74 T) rfl (Nat.le_of_ble_eq_true rfl) hA (by omega) rfl rfl rfl rfl, hs, List.append_nil, List.append_assoc, List.append_assoc]) ?_
  refine z_aload_0 dX0_remember_31 ?_
  refine z_dup dX0_remember_32 rfl ?_
  refine z_get (k := 1) dX0_remember_33 rfl rfl rfl (by decide) zf_X0_17 zw_in0 ?_
  refine z_topi (w := nI 7) rfl ?_
  refine z_iconst (v := 1) dX0_remember_36 rfl ?_
  refine z_iadd dX0_remember_37 ?_
  refine z_topi (w := nI (7 + 1)) (zq1 _) ?_
  refine z_put (k := 1) (ty := tyX0) dX0_remember_38 rfl rfl (by decide) zf_X0_17 zw_in0 tyX0_ok nmX0 rfl (fun _ => ⟨rfl, rfl⟩) (Nat.le_of_ble_eq_true rfl) ?_
  exact z_vret dX0_remember_41 rfl rfl rfl
theorem k_takeBack_ok (S : ZS) (r : Nat) (G : Nat → TS) (T : TS) (c : Nat) (hc : S.1 1 = nI (c + 1)) (h8 : c < 8) : zM sc yX0_takeBack cX0_takeBack 3 (some .boolean) 2 0 0 [.ref 0, .ref 74] (hho 0 S r G ++ tho 74 T) (.inl (some (.int 1))) (hho 0 (sI 1 (nI c) S) r G ++ tho 74 (tCopy (G ((c + r) % 8)) T)) := by
  refine zM.at (ls := [some (.ref 0), some (.ref 74), none]) zy_X0_takeBack.2.2.2.2.2 (Nat.le_of_ble_eq_true rfl) rfl ?_
  refine z_aload_0 dX0_takeBack_0 ?_
  refine z_aload_0 dX0_takeBack_1 ?_
  refine z_get (k := 1) dX0_takeBack_2 rfl rfl rfl (by decide) zf_X0_17 zw_in0 ?_
  refine z_topi (w := nI (c + 1)) hc ?_
  refine z_iconst (v := 1) dX0_takeBack_5 rfl ?_
  refine z_isub dX0_takeBack_6 ?_
  refine z_topi (w := nI c) (zsubE c 1) ?_
  refine Z.callPs (zRun.V (ρ := fun i => i) (k_treeAt S r G c h8) dX0_takeBack_7 zy_X0_treeAt zm_X0_25 rfl rfl rfl rfl (Nat.le_of_ble_eq_true rfl) (by decide) (by decide)) (zlen2 74 rfl rfl) ?_
  have hj : (c + r) % 8 < 8 := Nat.mod_lt _ (by decide)
  generalize (c + r) % 8 = j at hj ⊢
  refine z_astore_2 (x := 2 + 9 * j) dX0_takeBack_10 rfl (by decide) ?_
  refine z_aload_2 dX0_takeBack_11 ?_
  refine z_ifnull dX0_takeBack_12 ?_
  refine z_aload_1 dX0_takeBack_15 ?_
  refine z_ifnonnull (tgt := 21) dX0_takeBack_16 (by decide) ?_
  refine z_aload_1 dX0_takeBack_21 ?_
  refine z_aload_2 dX0_takeBack_22 ?_
  obtain ⟨A, C, eh, hA, hC, hs⟩ := hho_split S r G j hj
  have e9 : hho 0 S r G ++ tho 74 T = A ++ (tho (2 + 9 * j) (G j) ++ (C ++ (tho 74 T ++ []))) := by rw [eh, List.append_nil, List.append_assoc, List.append_assoc]
  have hf : zfit (zs3 9 74 (2 + 9 * j)) 0 (hho 0 S r G ++ tho 74 T) (th T ++ tho 9 (G j)) := by rw [e9]; exact zfit_owt rfl (Nat.le_of_ble_eq_true rfl) hA (by show 2 + 9 * j + 9 + C.length = 74; omega) rfl rfl
  refine Z.shn (hho 0 S r G ++ tho 74 (tCopy (G j) T)) (zRun.V (ρ := zs3 9 74 (2 + 9 * j)) (k_copyFrom T (G j)) dX0_takeBack_23 zy_X5_copyFrom zm_X0_29 rfl hf.1 rfl rfl (Nat.le_of_ble_eq_true rfl) (by decide) (by decide) (fun i => zs3_fix _ _ i (by decide))) (zs3_inj (Nat.le_of_ble_eq_true rfl) (Nat.le_of_ble_eq_true rfl) (Or.inr (by show 2 + 9 * j + (18 - 9) ≤ 74; omega))) hf (zlen2 18 rfl rfl) (by rw [e9, zplug_owt (m := 9) (a := 74) (b := 2 + 9 * j) (c1 := th (tCopy (G j) T)) (c2 := tho 9 (G j)) (A := A) (M := C) (C := []) (B1 := tho 74 T) (B2 := tho (2 + 9 * j) (G j)) (D1 := tho 74 (tCopy (G j) T)) (D2 := tho (2 + 9 * j) (G j)) rfl (Nat.le_of_ble_eq_true rfl) hA (by show 2 + 9 * j + 9 + C.length = 74; omega) rfl rfl rfl rfl, eh, List.append_nil, List.append_assoc, List.append_assoc]) ?_
  refine z_aload_0 dX0_takeBack_26 ?_
  refine z_dup dX0_takeBack_27 rfl ?_
  refine z_get (k := 1) dX0_takeBack_28 rfl rfl rfl (by decide) zf_X0_17 zw_in0 ?_
  refine z_topi (w := nI (c + 1)) hc ?_
  refine z_iconst (v := 1) dX0_takeBack_31 rfl ?_
  refine z_isub dX0_takeBack_32 ?_
  refine z_topi (w := nI c) (zsubE c 1) ?_
  refine z_put (k := 1) (ty := tyX0) dX0_takeBack_33 rfl rfl (by decide) zf_X0_17 zw_in0 tyX0_ok nmX0 rfl (fun _ => ⟨rfl, rfl⟩) (Nat.le_of_ble_eq_true rfl) ?_
  refine z_iconst (v := 1) dX0_takeBack_36 rfl ?_
  exact z_iret dX0_takeBack_37 rfl rfl rfl rfl
