variable {sc : SC}
def hfil (m : Nat) : Nat → Option Nat := fun p => if p < m then some (2 + 9 * p) else none
theorem hfil_0 : (fun _ => none : Nat → Option Nat) = hfil 0 := by
  funext p
  exact (if_neg (Nat.not_lt_zero p)).symm
theorem hfil_up (m : Nat) : va_up (hfil m) m (some (2 + 9 * m)) = hfil (m + 1) := by
  funext p
  simp only [va_up, hfil]
  by_cases e : p = m
  · subst e
    rw [if_pos rfl, if_pos (Nat.lt_succ_self p)]
  · rw [if_neg e]
    by_cases c : p < m
    · rw [if_pos c, if_pos (by omega)]
    · rw [if_neg c, if_neg (by omega)]
theorem hfil_8 : hfil 8 = hrow 0 0 := by
  funext p
  simp only [hfil, hrow]
  by_cases c : p < 8
  · rw [if_pos c, if_pos c]
    congr 1
    omega
  · rw [if_neg c, if_neg c]
theorem hfil_b {n m : Nat} (h : 9 * m ≤ n + 6) : zbo n (.inl (5, 8, .inr (.inr (.inr (.inr (hfil m)))))) := by
  intro j a e
  have e2 : (if j < m then some (2 + 9 * j) else none) = some a := e
  split at e2
  · have := Option.some.inj e2
    omega
  · cases e2
theorem zbh_tho {n b : Nat} {T : TS} (h : b + 9 ≤ n) : zbh n (tho b T) := zbh_ren (l := th T) (m := 9) (zbh_of rfl) (by decide) h
def trs : Nat → List zO
  | 0 => []
  | m + 1 => trs m ++ tho (2 + 9 * m) tZ
theorem trs_len : ∀ m, (trs m).length = 9 * m
  | 0 => rfl
  | m + 1 => by rw [trs, List.length_append, trs_len m, tho_len]; omega
theorem trs_b : ∀ m n, 2 + 9 * m ≤ n → zbh n (trs m)
  | 0, _, _ => zbh_nil
  | m + 1, n, h => zbh_app (trs_b m n (by omega)) (zbh_tho (by omega))
def hP (m : Nat) : List zO := .inr (0, [.ref 1, .int 0]) :: .inl (5, 8, .inr (.inr (.inr (.inr (hfil m))))) :: trs m
theorem hP_len (m : Nat) : (hP m).length = 2 + 9 * m := by
  rw [hP, List.length_cons, List.length_cons, trs_len]
  omega
theorem hP_b (m : Nat) : zbh (hP m).length (hP m) := by
  rw [hP_len]
  exact zbh_cons (zbo_mono (n := 2) (by omega) (zbo_of rfl)) (zbh_cons (hfil_b (by omega)) (trs_b m _ (Nat.le_refl _)))
theorem hP_ci (m : Nat) : ∃ vs, (hP m ++ tho (2 + 9 * m) tZ)[2 + 9 * m]? = some (.inr (5, vs)) := by
  rw [List.getElem?_append_right (by rw [hP_len]; exact Nat.le_refl _), hP_len, Nat.sub_self]
  exact ⟨_, rfl⟩
theorem hP_8 : hP 8 = hho 0 iZ 0 (fun _ => tZ) := by
  rw [hP, hfil_8]
  rfl
theorem l_X0init : ∀ (fu m : Nat), m + fu = 8 → Z sc yX0_init cX0_init 2 none 2 (9 * fu) (948 * fu) 20 [some (.ref 0), some (.int (nI m))] [] (hP m) (.inl none) (hP 8) := by
  intro fu
  induction fu with
  | zero =>
    intro m hm
    have e8 : m = 8 := by omega
    subst e8
    refine z_iload_1 dX0_init_20 ?_
    refine z_bipush (v := 8) dX0_init_21 rfl ?_
    refine z_icmpN_ge_t (tgt := 45) dX0_init_23 (by decide) (x := 8) (z := 8) (by decide) (by decide) (by decide) ?_
    exact z_vret dX0_init_45 rfl rfl rfl
  | succ fu ih =>
    intro m hm
    rw [show 9 * (fu + 1) = 9 * fu + 8 + 1 by omega, show 948 * (fu + 1) = 948 * fu + 936 + 12 by omega]
    refine z_iload_1 dX0_init_20 ?_
    refine z_bipush (v := 8) dX0_init_21 rfl ?_
    refine z_icmpN_ge_f (tgt := 45) dX0_init_23 (by decide) (x := m) (z := 8) (by omega) (by decide) (by omega) ?_
    refine z_aload_0 dX0_init_26 ?_
    refine z_get (k := 0) (v := .ref 1) dX0_init_27 rfl rfl rfl (by decide) zf_X0_11 zw_in0 ?_
    refine z_iload_1 dX0_init_30 ?_
    refine z_mkX5 dX0_init_31 dX0_init_34 dX0_init_35 zcl_X0_9 znl_X0_21 (by decide) (Nat.le_of_ble_eq_true rfl) (hP_b m) (zbl_mono (n := 1) (zbl_of rfl) (by rw [hP_len]; omega)) (zbs_mono (n := 2) (zbs_of rfl) (by rw [hP_len]; omega)) (by rw [hP_len, hP_len]; omega) (by rw [hP_len]; omega) ?_
    rw [hP_len]
    refine Z.heap (h2 := hP m ++ tho (2 + 9 * m) tZ) rfl ?_
    obtain ⟨vs, hv⟩ := hP_ci m
    refine z_aastN (k := m) (v := 2 + 9 * m) (f := hfil m) (n := 8) dX0_init_38 rfl hv (by omega) (by decide) ?_
    rw [hfil_up]
    refine Z.heap (h2 := hP (m + 1)) rfl ?_
    refine z_iinc_1 (v := nI (m + 1)) dX0_init_39 (zinc m) rfl (by decide) ?_
    refine z_goto (tgt := 20) dX0_init_42 (by decide) ?_
    exact ih (m + 1) (by omega)
theorem k_init_X0 : zM sc yX0_init cX0_init 2 none 2 73 7592 [.ref 0] [.inr (0, [.null, .int 0])] (.inl none) (hho 0 iZ 0 (fun _ => tZ)) := by
  refine zM.at (ls := [some (.ref 0), none]) zy_X0_init.2.2.2.2.2 (Nat.le_of_ble_eq_true rfl) rfl ?_
  rw [← hP_8]
  refine z_aload_0 dX0_init_0 ?_
  refine z_objI dX0_init_1 zoi_X0 (by decide) (Nat.le_of_ble_eq_true rfl) ?_
  refine z_aload_0 dX0_init_4 ?_
  refine z_bipush (v := 8) dX0_init_5 rfl ?_
  refine z_newq (N := 8) dX0_init_7 zcl_X0_9 (by decide) (by decide) (by decide) (zbh_of rfl) (zbl_of rfl) (zbs_of rfl) (by rw [hP_len]; decide) (by decide) ?_
  rw [hfil_0]
  refine Z.heap (h2 := [.inr (0, [.null, .int 0]), .inl (5, 8, .inr (.inr (.inr (.inr (hfil 0)))))]) rfl ?_
  show Z sc _ _ _ _ _ _ _ _ _ (.ref 1 :: .ref 0 :: []) _ _ _
  refine z_putF (k := 0) (ty := tyX0) dX0_init_10 rfl rfl (by decide) zf_X0_11 zw_in0 tyX0_ok nmX0 rfl rfl rfl (fun _ => ⟨rfl, rfl⟩) (Nat.le_of_ble_eq_true rfl) ?_
  refine z_aload_0 dX0_init_13 ?_
  refine z_iconst (v := 0) dX0_init_14 rfl ?_
  refine z_put (k := 1) (ty := tyX0) dX0_init_15 rfl rfl (by decide) zf_X0_17 zw_in0 tyX0_ok nmX0 rfl (fun _ => ⟨rfl, rfl⟩) (Nat.le_of_ble_eq_true rfl) ?_
  refine Z.heap (h2 := hP 0) rfl ?_
  refine z_iconst (v := 0) dX0_init_18 rfl ?_
  refine z_istore_1 dX0_init_19 rfl (by decide) ?_
  exact l_X0init 8 0 rfl
theorem hho_b : zbh 74 (hho 0 iZ 0 (fun _ => tZ)) := by
  rw [← hP_8]
  have h := hP_b 8
  rw [hP_len] at h
  exact h
section ZMK2
variable {y : MethodName} {cc : ByteArray} {nL : Nat} {ret : Option FieldType} {d mc ms pc : Nat} {ls : List (Option Value)} {st : List Value} {h : List zO} {r : zR} {h' : List zO}
theorem z_mkX0n {ik ic : Nat} (d0 : decode cc pc = .ok (.new ik, 3)) (d3 : decode cc (pc + 3) = .ok (.dup, 1)) (d4 : decode cc (pc + 4) = .ok (.invokespecial ic, 3)) (hk : Cond.classLink y.cls ik RX0 ∈ zT) (hlk : Cond.methodLink y.cls ic yX0_init ∈ zT) (hd : 3 ≤ d) (hcat : (st.map fun v => v.category).sum ≤ 7) (hb : zbh h.length h) (hl : ∀ v, some v ∈ ls → zbw h.length v) (hs : ∀ v ∈ st, zbw h.length v) (hg : h.length + 74 ≤ h'.length) (hN : h.length < 999000)
    (k : Z sc y cc nL ret d mc ms (pc + 7) ls (.ref h.length :: st) (h ++ (hho 0 iZ 0 (fun _ => tZ)).map (zren (zs1 h.length))) r h') : Z sc y cc nL ret d (mc + 73 + 1) (ms + 7592 + 2) pc ls st h r h' := by
  refine z_new (fs := [.null, .int 0]) (ty := tyX0) d0 hk zns_X0 zini_RX0 (ci := 0) rfl zw_in0 tyX0_ok (by decide) (by intro v hv a e; simp only [List.mem_cons, List.not_mem_nil, or_false] at hv; rcases hv with rfl | rfl <;> cases e) hb hl hs (by omega) (by omega) ?_
  refine z_dup d3 rfl ?_
  have hc : ((hho 0 iZ 0 (fun _ => tZ))).length = 74 := rfl
  refine Z.callG (A0 := h) (x := .inr (0, [.null, .int 0])) (hc' := (hho 0 iZ 0 (fun _ => tZ))) (zRun.I (b := 0) (As := []) k_init_X0 d4 zy_X0_init hlk rfl ?_ ?_ (by omega) (by decide) (zs1_fix _)) (by rw [hc]; decide) (by rw [hc]; omega) hho_b hb (zbl_mono hl (Nat.le_succ _)) ?_ (by omega) k
  · show Value.ref h.length :: Value.ref h.length :: st = Value.ref (zs1 h.length 0) :: Value.ref h.length :: st
    rw [zs1_lo (by decide)]
    rfl
  · simp only [List.map_cons, List.sum_cons]
    show 1 + _ ≤ 8
    omega
  · intro v hv a e
    rcases List.mem_cons.mp hv with rfl | hv
    · injection e with e
      exact Or.inl (Nat.lt_of_le_of_lt (Nat.le_of_eq e.symm) (Nat.lt_succ_self _))
    · exact (hs v hv a e).imp (fun z => Nat.lt_succ_of_lt z) id
end ZMK2
