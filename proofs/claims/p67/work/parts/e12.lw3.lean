variable {sc : SC}
section LW5
variable {S X R : ZS} {T : TS} {P : ZS} {TU : TS} {q : Nat} {G : Nat → TS} {TN : TS} {gs : List (Nat → Int32)} {n k p c0 a b l : Nat} {v x6 x7 : Int32} {w f : Nat → Int32} {NB : Int}
theorem d_push (h : Rel n T w) (hc : S.1 1 = nI c0) (h8 : c0 ≤ 8) (hab : a ≤ b) (hbn : b < n) (hv : bN 1024 v) (hp : gs[p]? = some f) (hm : ∀ i, i < n → tva T i = f i) (hb : ∀ i, i < n → bN NB (tva T i)) (h0 : 0 ≤ NB) (hNB : NB ≤ 900000) : ∃ (n' : Nat) (S' : ZS) (T' : TS) (q' : Nat) (G' : Nat → TS) (f' : Nat → Int32) (chg : Int32), Deed NB n c0 T q G S f n' S' T' q' G' f' chg ∧ ∀ {mc ms : Nat} {r : zR} {h' : List zO},
      (∀ x20 x21 : Option Value, Z sc yL_law cL_law 22 (some .boolean) 5 mc ms 626 [some (.ref (1000202)), some (.ref (0)), some (.int (nI n')), some (.ref (115 + p)), some (.int (nI k)), some (.int (cw sc k)), some (.int (x6)), some (.int (x7)), some (.int (nI a)), some (.int (nI b)), some (.int (v)), some (.int (nI c0)), some (.int (nI n)), some (.int (tu T)), some (.int (tp T)), some (.int (ta T)), some (.long (gS n S X R T)), none, some (.ref (115 + l)), some (.int (chg)), x20, x21] [] (lwH S' X R T' P TU q' G' TN (gs.set p f')) r h') →
      Z sc yL_law cL_law 22 (some .boolean) 5 mc ms 424 [some (.ref (1000202)), some (.ref (0)), some (.int (nI n)), some (.ref (115 + p)), some (.int (nI k)), some (.int (cw sc k)), some (.int (x6)), some (.int (x7)), some (.int (nI a)), some (.int (nI b)), some (.int (v)), some (.int (nI c0)), some (.int (nI n)), some (.int (tu T)), some (.int (tp T)), some (.int (ta T)), some (.long (gS n S X R T)), none, some (.ref (115 + l)), some (.int (1)), none, none] [] (lwH S X R T P TU q G TN gs) r h' := by
  have h1 := h.1.1.1
  have h40 := h.1.1.2
  have hn := h.1.2.1
  have hvv : -9999 ≤ v ∧ v ≤ 9999 := v_ok hv
  have hl := lf_gp h40 (show a < n by omega)
  by_cases c0n : lf n a / 2 = 0
  · refine ⟨n, S, T, q, G, f, 0, ⟨⟨w, h⟩, hm, fun i hi => (hb i hi).mono (by omega), Or.inl ⟨rfl, rfl, rfl, rfl, rfl, rfl, rfl⟩⟩, ?_⟩
    intro mc ms r h' K
    refine z_aload_1 dL_law_424 ?_
    refine z_iload_8 dL_law_425 ?_
    refine z_ql (As := [.int (nI a)]) (k_c_6_leafOf n a S X R T hn h40 (by omega)) dL_law_427 zy_X6_leafOf zm_L_52 rfl rfl (Nat.le_of_ble_eq_true rfl) (by decide) (by decide) ?_
    refine z_topi (w := nI (lf n a)) (by rw [g_c_6_leafOf, Rel_leaf h (by omega)]) ?_
    refine z_iconst (v := 2) dL_law_430 rfl ?_
    refine z_idiv dL_law_431 (by decide) ?_
    refine z_topi (w := nI (lf n a / 2)) (pk_div (d := 2) (by omega) (by decide) (by decide)) ?_
    refine z_istore_20 dL_law_432 rfl (by decide) ?_
    refine z_iload_20 dL_law_434 ?_
    refine z_if_ne_f 445 dL_law_436 (by decide) (by rw [c0n]; rfl) ?_
    refine z_iconst (v := 0) dL_law_439 rfl ?_
    refine z_istore_19 dL_law_440 rfl (by decide) ?_
    refine z_goto (tgt := 626) dL_law_442 (by decide) ?_
    refine Z.heap (by rw [set_id hp]) (K _ _)
  · have k1 : 1 ≤ lf n a / 2 := by omega
    have k2 : lf n a / 2 < 128 := by omega
    have cin : (gp n (lf n a / 2)).1 + 2 ≤ (gp n (lf n a / 2)).2 := (gp_par h40 (by omega) hl.2.2 (by rw [hl.1]; exact Nat.lt_succ_self _)).1
    generalize ek : lf n a / 2 = nd at c0n k1 k2 cin
    have hin := (Rel_in h k1 k2).mpr cin
    have h3 : ¬ tF T nd = -1 := fun z => by
      have h9 := gp_40 n nd h40
      rw [((h.2.2.1 nd k1 k2).1 (by omega)).1] at z
      exact nI_m1 (a := (gp n nd).1) (by omega) (by rw [z]; exact Int32.le_refl _)
    obtain ⟨w', r1⟩ := RP h k1 k2
    have hn' := r1.1.2.1
    obtain ⟨v1, -⟩ := tva_pushIf T nd
    obtain ⟨e1, e2⟩ := mk_pushIf k1 hin
    have e3 := tp_pushIf T nd
    have h3' : ¬ tF (tPushIf T nd) nd = -1 := by
      have e9 : tF (tPushIf T nd) = tF T := (sv_pushIf T nd 0 k1).2.2.2.2.1
      rw [e9]; exact h3
    have kc : zM sc yX6_pushDown cX6_pushDown 2 (some .boolean) 3 0 0 [.ref 0, .int (nI nd)] (FH S X R T P TU q G TN) (.inl (some (.int (zb (decide (tDo T nd)))))) (FH (remS c0 S) X R (tPushIf T nd) P TU (remR c0 q) (remG c0 q G T) TN) := k_f_pushDown S X R T P TU q G TN c0 hc h8 nd k1 k2 h3 hin
    generalize eU : tPushIf T nd = U at r1 hn' v1 e1 e2 e3 h3' kc
    have hD : tDo T nd ↔ (¬ tfa T nd = 1 ∨ ¬ tog T nd = 0) := ⟨fun z => z.2, fun z => ⟨hin, z⟩⟩
    refine ⟨n, remS c0 S, U, remR c0 q, remG c0 q G T, f, 1, ⟨⟨w', r1⟩, fun i hi => by rw [v1]; exact hm i hi, fun i hi => by rw [v1]; exact (hb i hi).mono (by omega), Or.inr ⟨rfl, rfl, rfl, rfl⟩⟩, ?_⟩
    intro mc ms r h' K
    refine z_aload_1 dL_law_424 ?_
    refine z_iload_8 dL_law_425 ?_
    refine z_ql (As := [.int (nI a)]) (k_c_6_leafOf n a S X R T hn h40 (by omega)) dL_law_427 zy_X6_leafOf zm_L_52 rfl rfl (Nat.le_of_ble_eq_true rfl) (by decide) (by decide) ?_
    refine z_topi (w := nI (lf n a)) (by rw [g_c_6_leafOf, Rel_leaf h (by omega)]) ?_
    refine z_iconst (v := 2) dL_law_430 rfl ?_
    refine z_idiv dL_law_431 (by decide) ?_
    refine z_topi (w := nI nd) (by rw [← ek]; exact pk_div (d := 2) (by omega) (by decide) (by decide)) ?_
    refine z_istore_20 dL_law_432 rfl (by decide) ?_
    refine z_iload_20 dL_law_434 ?_
    refine z_if_ne_t (tgt := 445) dL_law_436 (by decide) (fun z => by have := (nI_leI (a := nd) (b := 0) (by omega) (by decide)).mp (by rw [z]; exact Int32.le_refl _); omega) ?_
    have K2 : Z sc yL_law cL_law 22 (some .boolean) 5 mc ms 469 [some (.ref (1000202)), some (.ref (0)), some (.int (nI n)), some (.ref (115 + p)), some (.int (nI k)), some (.int (cw sc k)), some (.int (x6)), some (.int (x7)), some (.int (nI a)), some (.int (nI b)), some (.int (v)), some (.int (nI c0)), some (.int (nI n)), some (.int (tu T)), some (.int (tp T)), some (.int (ta T)), some (.long (gS n S X R T)), none, some (.ref (115 + l)), some (.int (1)), some (.int (nI nd)), none] [.int (zb (decide (tDo T nd)))] (lwH S X R T P TU q G TN gs) r h' := by
      refine z_istore_21 dL_law_469 rfl (by decide) ?_
      refine z_aload_1 dL_law_471 ?_
      refine z_iload_20 dL_law_472 ?_
      refine z_fl (As := [.int (nI nd)]) kc dL_law_474 zy_X6_pushDown zm_L_105 rfl rfl (Nat.le_of_ble_eq_true rfl) (by decide) (by decide) ?_
      refine z_iload_21 dL_law_477 ?_
      refine z_icmp_ne_f 521 dL_law_479 (by decide) rfl ?_
      refine z_aload_1 dL_law_482 ?_
      refine z_iload_20 dL_law_483 ?_
      refine z_ql (As := [.int (nI nd)]) (v := .int (tfa U nd)) (k_c_6_markFactor nd (remS c0 S) X R U k1 k2 h3') dL_law_485 zy_X6_markFactor zm_L_61 rfl rfl (Nat.le_of_ble_eq_true rfl) (by decide) (by decide) ?_
      refine z_iconst (v := 1) dL_law_488 rfl ?_
      refine z_icmp_ne_f 521 dL_law_489 (by decide) e1 ?_
      refine z_aload_1 dL_law_492 ?_
      refine z_iload_20 dL_law_493 ?_
      refine z_ql (As := [.int (nI nd)]) (v := .int (tog U nd)) (k_c_6_markOffset nd (remS c0 S) X R U k1 k2 h3') dL_law_495 zy_X6_markOffset zm_L_66 rfl rfl (Nat.le_of_ble_eq_true rfl) (by decide) (by decide) ?_
      refine z_if_ne_f 521 dL_law_498 (by decide) e2 ?_
      refine z_aload_1 dL_law_501 ?_
      refine z_ql (As := []) (v := .int (tp U)) (k_c_6_pushCount n (remS c0 S) X R U hn' h40) dL_law_502 zy_X6_pushCount zm_L_32 rfl rfl (Nat.le_of_ble_eq_true rfl) (by decide) (by decide) ?_
      refine z_iload_14 dL_law_505 ?_
      refine z_iload_21 dL_law_507 ?_
      by_cases cD : tDo T nd
      · rw [decide_eq_true cD] at e3 ⊢
        refine z_if_eq_f 516 dL_law_509 (by decide) (by decide) ?_
        refine z_iconst (v := 1) dL_law_512 rfl ?_
        refine z_goto (tgt := 517) dL_law_513 (by decide) ?_
        refine z_iadd dL_law_517 ?_
        refine z_icmp_eq_t (tgt := 626) dL_law_518 (by decide) e3 ?_
        exact Z.heap (by rw [set_id hp]) (K _ _)
      · rw [decide_eq_false cD] at e3 ⊢
        refine z_if_eq_t (tgt := 516) dL_law_509 (by decide) rfl ?_
        refine z_iconst (v := 0) dL_law_516 rfl ?_
        refine z_iadd dL_law_517 ?_
        refine z_icmp_eq_t (tgt := 626) dL_law_518 (by decide) e3 ?_
        exact Z.heap (by rw [set_id hp]) (K _ _)
    refine z_aload_1 dL_law_445 ?_
    refine z_iload_20 dL_law_446 ?_
    refine z_ql (As := [.int (nI nd)]) (v := .int (tfa T nd)) (k_c_6_markFactor nd S X R T k1 k2 h3) dL_law_448 zy_X6_markFactor zm_L_61 rfl rfl (Nat.le_of_ble_eq_true rfl) (by decide) (by decide) ?_
    refine z_iconst (v := 1) dL_law_451 rfl ?_
    refine z_icmp_ne (tgt := 464) dL_law_452 (by decide) (fun c1 => ?_) (fun c1 => ?_)
    · refine z_iconst (v := 1) dL_law_464 rfl ?_
      refine z_goto (tgt := 469) dL_law_465 (by decide) ?_
      rw [decide_eq_true (hD.mpr (Or.inl c1))] at K2
      exact K2
    · refine z_aload_1 dL_law_455 ?_
      refine z_iload_20 dL_law_456 ?_
      refine z_ql (As := [.int (nI nd)]) (v := .int (tog T nd)) (k_c_6_markOffset nd S X R T k1 k2 h3) dL_law_458 zy_X6_markOffset zm_L_66 rfl rfl (Nat.le_of_ble_eq_true rfl) (by decide) (by decide) ?_
      refine z_if_eq (tgt := 468) dL_law_461 (by decide) (fun c2 => ?_) (fun c2 => ?_)
      · refine z_iconst (v := 0) dL_law_468 rfl ?_
        rw [decide_eq_false (fun z => (hD.mp z).elim (fun y => y c1) (fun y => y c2))] at K2
        exact K2
      · refine z_iconst (v := 1) dL_law_464 rfl ?_
        refine z_goto (tgt := 469) dL_law_465 (by decide) ?_
        rw [decide_eq_true (hD.mpr (Or.inr c2))] at K2
        exact K2
theorem d_all (h : Rel n T w) (hc : S.1 1 = nI c0) (h8 : c0 ≤ 8) (hab : a ≤ b) (hbn : b < n) (hv : bN 1024 v) (hp : gs[p]? = some f) (hm : ∀ i, i < n → tva T i = f i) (hb : ∀ i, i < n → bN NB (tva T i)) (h0 : 0 ≤ NB) (hNB : NB ≤ 900000) : ∃ (n' : Nat) (S' : ZS) (T' : TS) (q' : Nat) (G' : Nat → TS) (f' : Nat → Int32) (chg : Int32), Deed NB n c0 T q G S f n' S' T' q' G' f' chg ∧ ∀ {mc ms : Nat} {r : zR} {h' : List zO},
      (∀ x20 x21 : Option Value, Z sc yL_law cL_law 22 (some .boolean) 5 mc ms 626 [some (.ref (1000202)), some (.ref (0)), some (.int (nI n')), some (.ref (115 + p)), some (.int (nI k)), some (.int (cw sc k)), some (.int (x6)), some (.int (x7)), some (.int (nI a)), some (.int (nI b)), some (.int (v)), some (.int (nI c0)), some (.int (nI n)), some (.int (tu T)), some (.int (tp T)), some (.int (ta T)), some (.long (gS n S X R T)), none, some (.ref (115 + l)), some (.int (chg)), x20, x21] [] (lwH S' X R T' P TU q' G' TN (gs.set p f')) r h') →
      Z sc yL_law cL_law 22 (some .boolean) 5 mc ms 523 [some (.ref (1000202)), some (.ref (0)), some (.int (nI n)), some (.ref (115 + p)), some (.int (nI k)), some (.int (cw sc k)), some (.int (x6)), some (.int (x7)), some (.int (nI a)), some (.int (nI b)), some (.int (v)), some (.int (nI c0)), some (.int (nI n)), some (.int (tu T)), some (.int (tp T)), some (.int (ta T)), some (.long (gS n S X R T)), none, some (.ref (115 + l)), some (.int (1)), none, none] [] (lwH S X R T P TU q G TN gs) r h' := by
  have h1 := h.1.1.1
  have h40 := h.1.1.2
  have hn := h.1.2.1
  have hvv : -9999 ≤ v ∧ v ≤ 9999 := v_ok hv
  obtain ⟨⟨w', r1⟩, r2, r3, r4⟩ := RE h
  have kc := k_f_pushAll (sc := sc) S X R T P TU q G TN c0 hc h8
  generalize tPushEach T = Uc at r1 r2 r3 r4 kc
  have hn' := r1.1.2.1
  refine ⟨n, remS c0 S, Uc.1, remR c0 q, remG c0 q G T, f, 1, ⟨⟨w', r1⟩, fun i hi => by rw [r3]; exact hm i hi, fun i hi => by rw [r3]; exact (hb i hi).mono (by omega), Or.inr ⟨rfl, rfl, rfl, rfl⟩⟩, ?_⟩
  intro mc ms r h' K
  refine z_aload_1 dL_law_523 ?_
  refine z_fl (As := []) kc dL_law_524 zy_X6_pushAll zm_L_109 rfl rfl (Nat.le_of_ble_eq_true rfl) (by decide) (by decide) ?_
  refine z_istore_20 dL_law_527 rfl (by decide) ?_
  refine z_aload_1 dL_law_529 ?_
  refine z_ql (As := []) (v := .int (tp Uc.1)) (k_c_6_pushCount n (remS c0 S) X R Uc.1 hn' h40) dL_law_530 zy_X6_pushCount zm_L_32 rfl rfl (Nat.le_of_ble_eq_true rfl) (by decide) (by decide) ?_
  refine z_iload_14 dL_law_533 ?_
  refine z_iload_20 dL_law_535 ?_
  refine z_iadd dL_law_537 ?_
  refine z_icmp_ne_f 548 dL_law_538 (by decide) r4 ?_
  refine z_aload_1 dL_law_541 ?_
  refine z_ql (As := []) (k_c_6_markedNodes n (remS c0 S) X R Uc.1 hn' h40) dL_law_542 zy_X6_markedNodes zm_L_42 rfl rfl (Nat.le_of_ble_eq_true rfl) (by decide) (by decide) ?_
  refine z_if_eq_t (tgt := 626) dL_law_545 (by decide) (noM_marked r2 _ _ _) ?_
  exact Z.heap (by rw [set_id hp]) (K _ _)
theorem d_app (h : Rel n T w) (hc : S.1 1 = nI c0) (h8 : c0 ≤ 8) (hab : a ≤ b) (hbn : b < n) (hv : bN 1024 v) (hp : gs[p]? = some f) (hm : ∀ i, i < n → tva T i = f i) (hb : ∀ i, i < n → bN NB (tva T i)) (h0 : 0 ≤ NB) (hNB : NB ≤ 900000) : ∃ (n' : Nat) (S' : ZS) (T' : TS) (q' : Nat) (G' : Nat → TS) (f' : Nat → Int32) (chg : Int32), Deed NB n c0 T q G S f n' S' T' q' G' f' chg ∧ ∀ {mc ms : Nat} {r : zR} {h' : List zO},
      (∀ x20 x21 : Option Value, Z sc yL_law cL_law 22 (some .boolean) 5 mc ms 626 [some (.ref (1000202)), some (.ref (0)), some (.int (nI n')), some (.ref (115 + p)), some (.int (nI k)), some (.int (cw sc k)), some (.int (x6)), some (.int (x7)), some (.int (nI a)), some (.int (nI b)), some (.int (v)), some (.int (nI c0)), some (.int (nI n)), some (.int (tu T)), some (.int (tp T)), some (.int (ta T)), some (.long (gS n S X R T)), none, some (.ref (115 + l)), some (.int (chg)), x20, x21] [] (lwH S' X R T' P TU q' G' TN (gs.set p f')) r h') →
      Z sc yL_law cL_law 22 (some .boolean) 5 mc ms 550 [some (.ref (1000202)), some (.ref (0)), some (.int (nI n)), some (.ref (115 + p)), some (.int (nI k)), some (.int (cw sc k)), some (.int (x6)), some (.int (x7)), some (.int (nI a)), some (.int (nI b)), some (.int (v)), some (.int (nI c0)), some (.int (nI n)), some (.int (tu T)), some (.int (tp T)), some (.int (ta T)), some (.long (gS n S X R T)), none, some (.ref (115 + l)), some (.int (1)), none, none] [] (lwH S X R T P TU q G TN gs) r h' := by
  have h1 := h.1.1.1
  have h40 := h.1.1.2
  have hn := h.1.2.1
  have hvv : -9999 ≤ v ∧ v ≤ 9999 := v_ok hv
  by_cases c40 : n = 40
  · refine ⟨n, S, T, q, G, f, 0, ⟨⟨w, h⟩, hm, fun i hi => (hb i hi).mono (by omega), Or.inl ⟨rfl, rfl, rfl, rfl, rfl, rfl, rfl⟩⟩, ?_⟩
    intro mc ms r h' K
    refine z_iload_2 dL_law_550 ?_
    refine z_bipush (v := 40) dL_law_551 rfl ?_
    refine z_icmp_ne_f 562 dL_law_553 (by decide) (by rw [c40]; rfl) ?_
    refine z_iconst (v := 0) dL_law_556 rfl ?_
    refine z_istore_19 dL_law_557 rfl (by decide) ?_
    refine z_goto (tgt := 626) dL_law_559 (by decide) ?_
    exact Z.heap (by rw [set_id hp]) (K _ _)
  · have hbn' : ∀ i, i < n + 1 → bN (NB + 1024) (upd (tva T) n v i) := fun i hi => by
      rw [upd_at]
      by_cases z : i = n
      · rw [if_pos z]; exact hv.mono (by omega)
      · rw [if_neg z]; exact (hb i (by omega)).mono (by omega)
    obtain ⟨⟨w', r1⟩, r2, r3⟩ := RB (n := n + 1) (T := T) (v := upd (tva T) n v) (by omega) (by omega) (fun i hi => (hbn' i hi).bd (by omega))
    have kc := k_f_appendElement (sc := sc) S X R T P TU q G TN c0 hc h8 n hn (by omega) v hvv
    generalize tBuild (tSz T (n + 1) (upd (tva T) n v)) = U at r1 r2 r3 kc
    have hn' := r1.1.2.1
    refine ⟨n + 1, remS c0 S, U, remR c0 q, remG c0 q G T, upd f n v, 1, ⟨⟨w', r1⟩, fun i hi => ?_, fun i hi => by rw [r3 i hi]; exact hbn' i hi, Or.inr ⟨rfl, rfl, rfl, rfl⟩⟩, ?_⟩
    · rw [r3 i hi, upd_at, upd_at]
      by_cases z : i = n
      · rw [if_pos z, if_pos z]
      · rw [if_neg z, if_neg z]; exact hm i (by omega)
    intro mc ms r h' K
    refine z_iload_2 dL_law_550 ?_
    refine z_bipush (v := 40) dL_law_551 rfl ?_
    refine z_icmp_ne_t (tgt := 562) dL_law_553 (by decide) (fun z => by have e1 := (nI_leI (a := n) (b := 40) (by omega) (by decide)).mp (by rw [z]; exact Int32.le_refl _); have e2 := (nI_leI (a := 40) (b := n) (by decide) (by omega)).mp (by rw [z]; exact Int32.le_refl _); omega) ?_
    refine z_aload_3 dL_law_562 ?_
    refine z_iload_2 dL_law_563 ?_
    refine z_iload_10 dL_law_564 ?_
    refine z_iastN (n := 40) (k := n) (f := f) dL_law_566 (lwH_at hp) (by omega) (by decide) ?_
    refine Z.heap lwH_set ?_
    refine z_aload_1 dL_law_567 ?_
    refine z_iload_10 dL_law_568 ?_
    refine z_fl (As := [.int v]) kc dL_law_570 zy_X6_appendElement zm_L_112 rfl rfl (Nat.le_of_ble_eq_true rfl) (by decide) (by decide) ?_
    refine z_iinc_2 (v := nI (n + 1)) dL_law_573 (zinc _) rfl (by decide) ?_
    refine z_iload_2 dL_law_576 ?_
    refine z_icmp_ne_f 587 dL_law_577 (by decide) rfl ?_
    refine z_aload_1 dL_law_580 ?_
    refine z_ql (As := []) (k_c_6_markedNodes (n + 1) (remS c0 S) X R U hn' (by omega)) dL_law_581 zy_X6_markedNodes zm_L_42 rfl rfl (Nat.le_of_ble_eq_true rfl) (by decide) (by decide) ?_
    refine z_if_eq_t (tgt := 626) dL_law_584 (by decide) (noM_marked r2 _ _ _) ?_
    exact K _ _
theorem d_rem (h : Rel n T w) (hc : S.1 1 = nI c0) (h8 : c0 ≤ 8) (hab : a ≤ b) (hbn : b < n) (hv : bN 1024 v) (hp : gs[p]? = some f) (hm : ∀ i, i < n → tva T i = f i) (hb : ∀ i, i < n → bN NB (tva T i)) (h0 : 0 ≤ NB) (hNB : NB ≤ 900000) : ∃ (n' : Nat) (S' : ZS) (T' : TS) (q' : Nat) (G' : Nat → TS) (f' : Nat → Int32) (chg : Int32), Deed NB n c0 T q G S f n' S' T' q' G' f' chg ∧ ∀ {mc ms : Nat} {r : zR} {h' : List zO},
      (∀ x20 x21 : Option Value, Z sc yL_law cL_law 22 (some .boolean) 5 mc ms 626 [some (.ref (1000202)), some (.ref (0)), some (.int (nI n')), some (.ref (115 + p)), some (.int (nI k)), some (.int (cw sc k)), some (.int (x6)), some (.int (x7)), some (.int (nI a)), some (.int (nI b)), some (.int (v)), some (.int (nI c0)), some (.int (nI n)), some (.int (tu T)), some (.int (tp T)), some (.int (ta T)), some (.long (gS n S X R T)), none, some (.ref (115 + l)), some (.int (chg)), x20, x21] [] (lwH S' X R T' P TU q' G' TN (gs.set p f')) r h') →
      Z sc yL_law cL_law 22 (some .boolean) 5 mc ms 589 [some (.ref (1000202)), some (.ref (0)), some (.int (nI n)), some (.ref (115 + p)), some (.int (nI k)), some (.int (cw sc k)), some (.int (x6)), some (.int (x7)), some (.int (nI a)), some (.int (nI b)), some (.int (v)), some (.int (nI c0)), some (.int (nI n)), some (.int (tu T)), some (.int (tp T)), some (.int (ta T)), some (.long (gS n S X R T)), none, some (.ref (115 + l)), some (.int (1)), none, none] [] (lwH S X R T P TU q G TN gs) r h' := by
  have h1 := h.1.1.1
  have h40 := h.1.1.2
  have hn := h.1.2.1
  have hvv : -9999 ≤ v ∧ v ≤ 9999 := v_ok hv
  by_cases c1 : n = 1
  · refine ⟨n, S, T, q, G, f, 0, ⟨⟨w, h⟩, hm, fun i hi => (hb i hi).mono (by omega), Or.inl ⟨rfl, rfl, rfl, rfl, rfl, rfl, rfl⟩⟩, ?_⟩
    intro mc ms r h' K
    refine z_iload_2 dL_law_589 ?_
    refine z_iconst (v := 1) dL_law_590 rfl ?_
    refine z_icmp_ne_f 600 dL_law_591 (by decide) (by rw [c1]; rfl) ?_
    refine z_iconst (v := 0) dL_law_594 rfl ?_
    refine z_istore_19 dL_law_595 rfl (by decide) ?_
    refine z_goto (tgt := 626) dL_law_597 (by decide) ?_
    exact Z.heap (by rw [set_id hp]) (K _ _)
  · obtain ⟨m, em⟩ : ∃ m, n = m + 1 := ⟨n - 1, by omega⟩
    have hm1 : 1 ≤ m := by omega
    obtain ⟨⟨w', r1⟩, r2, r3⟩ := RB (n := m) (T := T) (v := tva T) hm1 (by omega) (fun i hi => (hb i (by omega)).bd (by omega))
    have kc := k_f_removeLast (sc := sc) S X R T P TU q G TN c0 hc h8 m (by rw [hn, em]) hm1 (by omega)
    generalize tBuild (tSz T m (tva T)) = U at r1 r2 r3 kc
    have hn' := r1.1.2.1
    refine ⟨m, remS c0 S, U, remR c0 q, remG c0 q G T, upd f m 0, 1, ⟨⟨w', r1⟩, fun i hi => ?_, fun i hi => by rw [r3 i hi]; exact (hb i (by omega)).mono (by omega), Or.inr ⟨rfl, rfl, rfl, rfl⟩⟩, ?_⟩
    · rw [r3 i hi, upd_at, if_neg (by omega)]
      exact hm i (by omega)
    intro mc ms r h' K
    refine z_iload_2 dL_law_589 ?_
    refine z_iconst (v := 1) dL_law_590 rfl ?_
    refine z_icmp_ne_t (tgt := 600) dL_law_591 (by decide) (fun z => by have e1 := (nI_leI (a := n) (b := 1) (by omega) (by decide)).mp (by rw [z]; exact Int32.le_refl _); omega) ?_
    refine z_iinc_2 (v := nI m) dL_law_600 (by rw [em]; exact zdec m) rfl (by decide) ?_
    refine z_aload_1 dL_law_603 ?_
    refine z_fl (As := []) kc dL_law_604 zy_X6_removeLast zm_L_115 rfl rfl (Nat.le_of_ble_eq_true rfl) (by decide) (by decide) ?_
    refine z_aload_3 dL_law_607 ?_
    refine z_iload_2 dL_law_608 ?_
    refine z_ialdN (n := 40) (k := m) (f := f) dL_law_609 (lwH_at hp) (by omega) (by decide) ?_
    refine z_icmp_ne_f 620 dL_law_610 (by decide) (hm m (by omega)) ?_
    refine z_aload_1 dL_law_613 ?_
    refine z_ql (As := []) (k_c_6_markedNodes m (remS c0 S) X R U hn' (by omega)) dL_law_614 zy_X6_markedNodes zm_L_42 rfl rfl (Nat.le_of_ble_eq_true rfl) (by decide) (by decide) ?_
    refine z_if_eq_t (tgt := 622) dL_law_617 (by decide) (noM_marked r2 _ _ _) ?_
    refine z_aload_3 dL_law_622 ?_
    refine z_iload_2 dL_law_623 ?_
    refine z_iconst (v := 0) dL_law_624 rfl ?_
    refine z_iastN (n := 40) (k := m) (f := f) dL_law_625 (lwH_at hp) (by omega) (by decide) ?_
    refine Z.heap lwH_set ?_
    exact K _ _
theorem d_case (h : Rel n T w) (hc : S.1 1 = nI c0) (h8 : c0 ≤ 8) (hab : a ≤ b) (hbn : b < n) (hv : bN 1024 v) (hp : gs[p]? = some f) (hm : ∀ i, i < n → tva T i = f i) (hb : ∀ i, i < n → bN NB (tva T i)) (h0 : 0 ≤ NB) (hNB : NB ≤ 900000) {j : Nat} (hj : j < 16) : ∃ (n' : Nat) (S' : ZS) (T' : TS) (q' : Nat) (G' : Nat → TS) (f' : Nat → Int32) (chg : Int32), Deed NB n c0 T q G S f n' S' T' q' G' f' chg ∧ ∀ {mc ms : Nat} {r : zR} {h' : List zO},
      (∀ x20 x21 : Option Value, Z sc yL_law cL_law 22 (some .boolean) 5 mc ms 626 [some (.ref (1000202)), some (.ref (0)), some (.int (nI n')), some (.ref (115 + p)), some (.int (nI k)), some (.int (cw sc k)), some (.int (x6)), some (.int (x7)), some (.int (nI a)), some (.int (nI b)), some (.int (v)), some (.int (nI c0)), some (.int (nI n)), some (.int (tu T)), some (.int (tp T)), some (.int (ta T)), some (.long (gS n S X R T)), none, some (.ref (115 + l)), some (.int (chg)), x20, x21] [] (lwH S' X R T' P TU q' G' TN (gs.set p f')) r h') →
      Z sc yL_law cL_law 22 (some .boolean) 5 mc ms 164 [some (.ref (1000202)), some (.ref (0)), some (.int (nI n)), some (.ref (115 + p)), some (.int (nI k)), some (.int (cw sc k)), some (.int (x6)), some (.int (x7)), some (.int (nI a)), some (.int (nI b)), some (.int (v)), some (.int (nI c0)), some (.int (nI n)), some (.int (tu T)), some (.int (tp T)), some (.int (ta T)), some (.long (gS n S X R T)), none, some (.ref (115 + l)), some (.int (1)), none, none] [.int (nI j)] (lwH S X R T P TU q G TN gs) r h' := by
  rcases (by omega : j = 0 ∨ j = 1 ∨ j = 2 ∨ j = 3 ∨ j = 4 ∨ j = 5 ∨ j = 6 ∨ j = 7 ∨ j = 8 ∨ j = 9 ∨ j = 10 ∨ j = 11 ∨ j = 12 ∨ j = 13 ∨ j = 14 ∨ j = 15) with rfl | rfl | rfl | rfl | rfl | rfl | rfl | rfl | rfl | rfl | rfl | rfl | rfl | rfl | rfl | rfl
  · obtain ⟨n2, S2, T2, q2, G2, f2, g2, D2, W2⟩ := d_assign (X := X) (R := R) (P := P) (TU := TU) (TN := TN) (k := k) (l := l) (x6 := x6) (x7 := x7) (sc := sc) h hc h8 hab hbn hv hp hm hb h0 hNB
    exact ⟨n2, S2, T2, q2, G2, f2, g2, D2, fun K => z_tabIn (off := 76) (tgt := 240) dL_law_164 (by decide) (by decide) (by decide) (by decide) (W2 K)⟩
  · obtain ⟨n2, S2, T2, q2, G2, f2, g2, D2, W2⟩ := d_assign (X := X) (R := R) (P := P) (TU := TU) (TN := TN) (k := k) (l := l) (x6 := x6) (x7 := x7) (sc := sc) h hc h8 hab hbn hv hp hm hb h0 hNB
    exact ⟨n2, S2, T2, q2, G2, f2, g2, D2, fun K => z_tabIn (off := 76) (tgt := 240) dL_law_164 (by decide) (by decide) (by decide) (by decide) (W2 K)⟩
  · obtain ⟨n2, S2, T2, q2, G2, f2, g2, D2, W2⟩ := d_assign (X := X) (R := R) (P := P) (TU := TU) (TN := TN) (k := k) (l := l) (x6 := x6) (x7 := x7) (sc := sc) h hc h8 hab hbn hv hp hm hb h0 hNB
    exact ⟨n2, S2, T2, q2, G2, f2, g2, D2, fun K => z_tabIn (off := 76) (tgt := 240) dL_law_164 (by decide) (by decide) (by decide) (by decide) (W2 K)⟩
  · obtain ⟨n2, S2, T2, q2, G2, f2, g2, D2, W2⟩ := d_add (X := X) (R := R) (P := P) (TU := TU) (TN := TN) (k := k) (l := l) (x6 := x6) (x7 := x7) (sc := sc) h hc h8 hab hbn hv hp hm hb h0 hNB
    exact ⟨n2, S2, T2, q2, G2, f2, g2, D2, fun K => z_tabIn (off := 136) (tgt := 300) dL_law_164 (by decide) (by decide) (by decide) (by decide) (W2 K)⟩
  · obtain ⟨n2, S2, T2, q2, G2, f2, g2, D2, W2⟩ := d_add (X := X) (R := R) (P := P) (TU := TU) (TN := TN) (k := k) (l := l) (x6 := x6) (x7 := x7) (sc := sc) h hc h8 hab hbn hv hp hm hb h0 hNB
    exact ⟨n2, S2, T2, q2, G2, f2, g2, D2, fun K => z_tabIn (off := 136) (tgt := 300) dL_law_164 (by decide) (by decide) (by decide) (by decide) (W2 K)⟩
  · obtain ⟨n2, S2, T2, q2, G2, f2, g2, D2, W2⟩ := d_add (X := X) (R := R) (P := P) (TU := TU) (TN := TN) (k := k) (l := l) (x6 := x6) (x7 := x7) (sc := sc) h hc h8 hab hbn hv hp hm hb h0 hNB
    exact ⟨n2, S2, T2, q2, G2, f2, g2, D2, fun K => z_tabIn (off := 136) (tgt := 300) dL_law_164 (by decide) (by decide) (by decide) (by decide) (W2 K)⟩
  · obtain ⟨n2, S2, T2, q2, G2, f2, g2, D2, W2⟩ := d_add (X := X) (R := R) (P := P) (TU := TU) (TN := TN) (k := k) (l := l) (x6 := x6) (x7 := x7) (sc := sc) h hc h8 hab hbn hv hp hm hb h0 hNB
    exact ⟨n2, S2, T2, q2, G2, f2, g2, D2, fun K => z_tabIn (off := 136) (tgt := 300) dL_law_164 (by decide) (by decide) (by decide) (by decide) (W2 K)⟩
  · obtain ⟨n2, S2, T2, q2, G2, f2, g2, D2, W2⟩ := d_negate (X := X) (R := R) (P := P) (TU := TU) (TN := TN) (k := k) (l := l) (x6 := x6) (x7 := x7) (sc := sc) h hc h8 hab hbn hv hp hm hb h0 hNB
    exact ⟨n2, S2, T2, q2, G2, f2, g2, D2, fun K => z_tabIn (off := 199) (tgt := 363) dL_law_164 (by decide) (by decide) (by decide) (by decide) (W2 K)⟩
  · obtain ⟨n2, S2, T2, q2, G2, f2, g2, D2, W2⟩ := d_negate (X := X) (R := R) (P := P) (TU := TU) (TN := TN) (k := k) (l := l) (x6 := x6) (x7 := x7) (sc := sc) h hc h8 hab hbn hv hp hm hb h0 hNB
    exact ⟨n2, S2, T2, q2, G2, f2, g2, D2, fun K => z_tabIn (off := 199) (tgt := 363) dL_law_164 (by decide) (by decide) (by decide) (by decide) (W2 K)⟩
  · obtain ⟨n2, S2, T2, q2, G2, f2, g2, D2, W2⟩ := d_negate (X := X) (R := R) (P := P) (TU := TU) (TN := TN) (k := k) (l := l) (x6 := x6) (x7 := x7) (sc := sc) h hc h8 hab hbn hv hp hm hb h0 hNB
    exact ⟨n2, S2, T2, q2, G2, f2, g2, D2, fun K => z_tabIn (off := 199) (tgt := 363) dL_law_164 (by decide) (by decide) (by decide) (by decide) (W2 K)⟩
  · obtain ⟨n2, S2, T2, q2, G2, f2, g2, D2, W2⟩ := d_push (X := X) (R := R) (P := P) (TU := TU) (TN := TN) (k := k) (l := l) (x6 := x6) (x7 := x7) (sc := sc) h hc h8 hab hbn hv hp hm hb h0 hNB
    exact ⟨n2, S2, T2, q2, G2, f2, g2, D2, fun K => z_tabIn (off := 260) (tgt := 424) dL_law_164 (by decide) (by decide) (by decide) (by decide) (W2 K)⟩
  · obtain ⟨n2, S2, T2, q2, G2, f2, g2, D2, W2⟩ := d_push (X := X) (R := R) (P := P) (TU := TU) (TN := TN) (k := k) (l := l) (x6 := x6) (x7 := x7) (sc := sc) h hc h8 hab hbn hv hp hm hb h0 hNB
    exact ⟨n2, S2, T2, q2, G2, f2, g2, D2, fun K => z_tabIn (off := 260) (tgt := 424) dL_law_164 (by decide) (by decide) (by decide) (by decide) (W2 K)⟩
  · obtain ⟨n2, S2, T2, q2, G2, f2, g2, D2, W2⟩ := d_all (X := X) (R := R) (P := P) (TU := TU) (TN := TN) (k := k) (l := l) (x6 := x6) (x7 := x7) (sc := sc) h hc h8 hab hbn hv hp hm hb h0 hNB
    exact ⟨n2, S2, T2, q2, G2, f2, g2, D2, fun K => z_tabIn (off := 359) (tgt := 523) dL_law_164 (by decide) (by decide) (by decide) (by decide) (W2 K)⟩
  · obtain ⟨n2, S2, T2, q2, G2, f2, g2, D2, W2⟩ := d_app (X := X) (R := R) (P := P) (TU := TU) (TN := TN) (k := k) (l := l) (x6 := x6) (x7 := x7) (sc := sc) h hc h8 hab hbn hv hp hm hb h0 hNB
    exact ⟨n2, S2, T2, q2, G2, f2, g2, D2, fun K => z_tabIn (off := 386) (tgt := 550) dL_law_164 (by decide) (by decide) (by decide) (by decide) (W2 K)⟩
  · obtain ⟨n2, S2, T2, q2, G2, f2, g2, D2, W2⟩ := d_app (X := X) (R := R) (P := P) (TU := TU) (TN := TN) (k := k) (l := l) (x6 := x6) (x7 := x7) (sc := sc) h hc h8 hab hbn hv hp hm hb h0 hNB
    exact ⟨n2, S2, T2, q2, G2, f2, g2, D2, fun K => z_tabIn (off := 386) (tgt := 550) dL_law_164 (by decide) (by decide) (by decide) (by decide) (W2 K)⟩
  · obtain ⟨n2, S2, T2, q2, G2, f2, g2, D2, W2⟩ := d_rem (X := X) (R := R) (P := P) (TU := TU) (TN := TN) (k := k) (l := l) (x6 := x6) (x7 := x7) (sc := sc) h hc h8 hab hbn hv hp hm hb h0 hNB
    exact ⟨n2, S2, T2, q2, G2, f2, g2, D2, fun K => z_tabOut (tgt := 589) dL_law_164 (by decide) (by decide) (W2 K)⟩
end LW5
