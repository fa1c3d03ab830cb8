variable {sc : SC}
/-! ===== the picture's bounds; cell and copy ===== -/
theorem hho_bG (S : ZS) (r : Nat) (G : Nat → TS) : zbh 74 (hho 0 S r G) := by
  intro o ho
  rcases List.mem_cons.mp ho with rfl | ho
  · exact zbo_of rfl
  · rcases List.mem_cons.mp ho with rfl | ho
    · intro j a e
      have e2 : (if j < 8 then some (0 + 2 + 9 * ((j + r) % 8)) else none) = some a := e
      by_cases c : j < 8
      · rw [if_pos c] at e2
        injection e2 with e2
        omega
      · rw [if_neg c] at e2
        cases e2
    · exact (zbh_app (zbh_tho (by decide)) (zbh_app (zbh_tho (by decide)) (zbh_app (zbh_tho (by decide)) (zbh_app (zbh_tho (by decide)) (zbh_app (zbh_tho (by decide)) (zbh_app (zbh_tho (by decide)) (zbh_app (zbh_tho (by decide)) (zbh_tho (by decide))))))))) o ho
theorem hist_b (S : ZS) (r : Nat) (G : Nat → TS) : zbh 115 (hist S r G) := by
  have e : hist S r G = (hho 0 S r G).map (zren (zs1 32)) := List.map_congr_left (fun x hx => by
    have h1 := zren_seg (f := zs3 74 32 1) (g := fun i => i) (k := zs1 32) (hho_bG S r G x hx) (fun i hi => by
      rw [zs1_lo (by omega)]
      exact if_pos hi)
    rw [zren_id] at h1
    exact h1)
  rw [e]
  exact zbh_ren (hho_bG S r G) (by decide) (by decide)
theorem FH_b (S X R : ZS) (T : TS) (P : ZS) (TU : TS) (q : Nat) (G : Nat → TS) (TN : TS) : zbh 115 (FH S X R T P TU q G TN) := by
  rw [FH, fr]
  exact zbh_app (zbh_of rfl) (zbh_app (zbh_of rfl) (zbh_app (hist_b S q G) (zbh_tho (by decide))))
theorem lwH_b {S X R : ZS} {T : TS} {P : ZS} {TU : TS} {q : Nat} {G : Nat → TS} {TN : TS} {fs : List (Nat → Int32)} : zbh (lwH S X R T P TU q G TN fs).length (lwH S X R T P TU q G TN fs) := by
  rw [lwH_len]
  refine zbh_app (fun o ho => zbo_mono (by omega) (FH_b S X R T P TU q G TN o ho)) (fun o ho => ?_)
  obtain ⟨f, -, rfl⟩ := List.mem_map.mp ho
  trivial
theorem k_cell {h : List zO} {k : Nat} (hn : sc.1 < 2 ^ 31) (hk : k < 2 ^ 31) : zM sc yL_cell cL_cell 2 (some .int) 0 0 0 [.ref 1000202, .int (nI k)] h (.inl (some (.int (if k < sc.1 then sc.2 k else 0)))) h := by
  refine zM.at (ls := [some (.ref 1000202), some (.int (nI k))]) zy_L_cell.2.2.2.2 (Nat.le_of_ble_eq_true rfl) rfl ?_
  refine z_iload_1 dL_cell_0 ?_
  refine z_aload_0 dL_cell_1 ?_
  refine z_scrLen dL_cell_2 rfl ?_
  by_cases c : k < sc.1
  · refine z_icmp_ge_f 12 dL_cell_3 (by decide) (fun z => by have := (nI_leI hn hk).mp z; omega) ?_
    refine z_aload_0 dL_cell_6 ?_
    refine z_iload_1 dL_cell_7 ?_
    refine z_scrInt dL_cell_8 c hn ?_
    refine z_goto (tgt := 13) dL_cell_9 (by decide) ?_
    rw [if_pos c]
    exact z_iret dL_cell_13 rfl rfl rfl rfl
  · refine z_icmp_ge_t (tgt := 12) dL_cell_3 (by decide) ((nI_leI hn hk).mpr (by omega)) ?_
    refine z_iconst (v := 0) dL_cell_12 rfl ?_
    rw [if_neg c]
    exact z_iret dL_cell_13 rfl rfl rfl rfl
def cpF (f : Nat → Int32) (k : Nat) : Nat → Int32 := fun j => if j < k then f j else 0
theorem cpF_up (f : Nat → Int32) (k : Nat) : upd (cpF f k) k (f k) = cpF f (k + 1) := by
  funext j
  show (if j = k then f k else if j < k then f j else 0) = if j < k + 1 then f j else 0
  by_cases c : j = k
  · rw [if_pos c, if_pos (by omega), c]
  · rw [if_neg c]
    by_cases c2 : j < k
    · rw [if_pos c2, if_pos (by omega)]
    · rw [if_neg c2, if_neg (by omega)]
theorem l_copy {h : List zO} {a : Nat} {f : Nat → Int32} (ha : h[a]? = some (.inl (0, 40, .inl f))) : ∀ m k, k + m = 40 → Z sc yL_copy cL_copy 3 (some (.array .int)) 0 0 0 7 [some (.ref a), some (.ref h.length), some (.int (nI k))] [] (h ++ [.inl (0, 40, .inl (cpF f k))]) (.inl (some (.ref h.length))) (h ++ [.inl (0, 40, .inl (cpF f 40))]) := by
  have hal := (List.getElem?_eq_some_iff.mp ha).1
  intro m
  induction m with
  | zero =>
    intro k hk
    have : k = 40 := by omega
    subst this
    refine z_iload_2 dL_copy_7 ?_
    refine z_bipush (v := 40) dL_copy_8 rfl ?_
    refine z_icmp_ge_t (tgt := 25) dL_copy_10 (by decide) (Int32.le_refl _) ?_
    refine z_aload_1 dL_copy_25 ?_
    exact z_aret (v := some h.length) dL_copy_26 rfl (Or.inr ⟨_, rfl⟩) rfl rfl
  | succ m ih =>
    intro k hk
    refine z_iload_2 dL_copy_7 ?_
    refine z_bipush (v := 40) dL_copy_8 rfl ?_
    refine z_icmp_ge_f 25 dL_copy_10 (by decide) (fun z => by have := (nI_leI (a := 40) (b := k) (by decide) (by omega)).mp z; omega) ?_
    refine z_aload_1 dL_copy_13 ?_
    refine z_iload_2 dL_copy_14 ?_
    refine z_aload_0 dL_copy_15 ?_
    refine z_iload_2 dL_copy_16 ?_
    refine z_ialdN dL_copy_17 (by rw [List.getElem?_append_left hal]; exact ha) (by omega) (by decide) ?_
    refine z_iastN (n := 40) (f := cpF f k) dL_copy_18 (by rw [List.getElem?_append_right (Nat.le_refl _), Nat.sub_self]; rfl) (by omega) (by decide) ?_
    refine Z.heap (h2 := h ++ [.inl (0, 40, .inl (cpF f (k + 1)))]) (by rw [List.set_append_right _ _ (Nat.le_refl _), Nat.sub_self, cpF_up]; rfl) ?_
    refine z_iinc_2 (v := nI (k + 1)) dL_copy_19 (zinc _) rfl (by decide) ?_
    refine z_goto (tgt := 7) dL_copy_22 (by decide) ?_
    exact ih (k + 1) (by omega)
theorem k_copy {h : List zO} {a : Nat} {f : Nat → Int32} (ha : h[a]? = some (.inl (0, 40, .inl f))) (hb : zbh h.length h) (hN : h.length < 1000000) : zM sc yL_copy cL_copy 3 (some (.array .int)) 0 1 40 [.ref a] h (.inl (some (.ref h.length))) (h ++ [.inl (0, 40, .inl (cpF f 40))]) := by
  have hal := (List.getElem?_eq_some_iff.mp ha).1
  refine zM.at (ls := [some (.ref a), none, none]) zy_L_copy.2.2.2.2 (Nat.le_of_ble_eq_true rfl) rfl ?_
  refine z_bipush (v := 40) dL_copy_0 rfl ?_
  refine z_newa (mc := 0) (ms := 0) (t := 0) (x := (40, .inl (fun _ => 0))) (N := 40) dL_copy_2 zar_int rfl (fun _ z => by cases z) (fun _ => rfl) (fun _ => rfl) (fun _ => rfl) (by decide) (by decide) (by decide) hb (fun _ => trivial) ?_ (fun v hv => by cases hv) (by rw [List.length_append]; exact Nat.lt_succ_self _) hN ?_
  · intro v hv b e
    simp only [List.mem_cons, List.not_mem_nil, or_false] at hv
    rcases hv with hv | hv | hv
    · cases hv
      injection e with e
      exact Or.inl (e ▸ hal)
    · cases hv
    · cases hv
  refine z_astore_1 dL_copy_4 rfl (by decide) ?_
  refine z_iconst (v := 0) dL_copy_5 rfl ?_
  refine z_istore_2 dL_copy_6 rfl (by decide) ?_
  refine Z.heap (h2 := h ++ [.inl (0, 40, .inl (cpF f 0))]) ?_ (l_copy ha 40 0 (by decide))
  have e : cpF f 0 = fun _ => 0 := funext fun j => if_neg (Nat.not_lt_zero j)
  rw [e]
