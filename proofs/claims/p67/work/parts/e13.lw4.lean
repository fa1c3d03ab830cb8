variable {sc : SC}
/-! ===== the comparison, the undo, the loop ===== -/
section LW6
variable {d mc ms pc : Nat} {st : List Value} {h : List zO} {r : zR} {h' : List zO}
theorem Z.fgt {x0 x1 x2 x3 x4 : Option Value} {t : List (Option Value)} (k : Z sc yL_law cL_law 22 (some .boolean) 5 mc ms pc [x0, x1, x2, x3, x4, none, none, none, none, none, none, none, none, none, none, none, none, none, none, none, none, none] st h r h') : Z sc yL_law cL_law 22 (some .boolean) 5 mc ms pc (x0 :: x1 :: x2 :: x3 :: x4 :: t) st h r h' :=
  Z.sub (ls2 := [x0, x1, x2, x3, x4, none, none, none, none, none, none, none, none, none, none, none, none, none, none, none, none, none]) (fun i v hi => by
    match i, hi with
    | 0, hi => exact hi
    | 1, hi => exact hi
    | 2, hi => exact hi
    | 3, hi => exact hi
    | 4, hi => exact hi
    | i + 5, hi =>
      have h2 : ([none, none, none, none, none, none, none, none, none, none, none, none, none, none, none, none, none] : List (Option Value))[i]? = some (some v) := hi
      exact absurd (List.mem_of_getElem? h2) (by simp)) k
end LW6
theorem remS_1 {c0 : Nat} {S : ZS} (h8 : c0 ≤ 8) : (remS c0 S).1 1 = nI (min 8 (c0 + 1)) := by
  unfold remS
  by_cases c : c0 < 8
  · rw [if_pos c, Nat.min_eq_right (by omega)]
    rfl
  · rw [if_neg c, Nat.min_eq_left (by omega)]
    rfl
theorem remG_at {c0 q : Nat} {G : Nat → TS} {T : TS} (h8 : c0 ≤ 8) : ∃ U, remG c0 q G T ((min 8 (c0 + 1) - 1 + remR c0 q) % 8) = tCopy T U := by
  unfold remG remR
  by_cases c : c0 < 8
  · refine ⟨G ((c0 + q) % 8), ?_⟩
    rw [if_pos c, if_pos c, Nat.min_eq_right (show c0 + 1 ≤ 8 by omega), Nat.add_sub_cancel]
    exact if_pos rfl
  · refine ⟨G ((7 + (q + 1)) % 8), ?_⟩
    rw [if_neg c, if_neg c, Nat.min_eq_left (show 8 ≤ c0 + 1 by omega)]
    exact if_pos rfl
/-- between two rounds -/
def Rnd (k n : Nat) (S : ZS) (T : TS) (fs : List (Nat → Int32)) (p : Nat) (f : Nat → Int32) (c0 : Nat) : Prop :=
  (∃ w, Rel n T w) ∧ (S.1 1 = nI c0 ∧ c0 ≤ 8) ∧ (fs.length = k + 1 ∧ fs[p]? = some f) ∧ (∀ i, i < n → tva T i = f i) ∧ ∀ i, i < n → bN (2000 + 1024 * (k : Int)) (tva T i)
def bit1 (sc : SC) (k : Nat) : Prop := ((cw sc k).toUInt32 >>> ((29 : Int32).toUInt32 &&& Int32.toUInt32 31)).toInt32 &&& 3 = 1
section LW7
variable {S X R : ZS} {T : TS} {P : ZS} {TU : TS} {q : Nat} {G : Nat → TS} {TN : TS} {gs : List (Nat → Int32)} {n k p c0 a b l : Nat} {v x6 x7 : Int32} {w f : Nat → Int32} {NB : Int}
/-- from the comparison to the next round -/
theorem l_post {fs : List (Nat → Int32)} {n' : Nat} {S' : ZS} {T' : TS} {q' : Nat} {G' : Nat → TS} {f' : Nat → Int32} {chg : Int32} (h : Rel n T w) (hc : S.1 1 = nI c0) (h8 : c0 ≤ 8) (hf : fs.length = k + 1) (hp : fs[p]? = some f) (hm : ∀ i, i < n → tva T i = f i) (hb : ∀ i, i < n → bN (2000 + 1024 * (k : Int)) (tva T i)) (D : Deed (2000 + 1024 * (k : Int)) n c0 T q G S f n' S' T' q' G' f' chg) :
    ∃ (n2 : Nat) (S2 : ZS) (T2 : TS) (q2 : Nat) (G2 : Nat → TS) (fs2 : List (Nat → Int32)) (p2 : Nat) (f2 : Nat → Int32) (c2 : Nat), Rnd (k + 1) n2 S2 T2 fs2 p2 f2 c2 ∧ ∀ {mc ms : Nat} {r : zR} {h' : List zO},
      Z sc yL_law cL_law 22 (some .boolean) 5 mc ms 46 [some (.ref (1000202)), some (.ref (0)), some (.int (nI n2)), some (.ref (115 + p2)), some (.int (nI (k + 1))), none, none, none, none, none, none, none, none, none, none, none, none, none, none, none, none, none] [] (lwH S2 X R T2 P TU q2 G2 TN fs2) r h' →
      ∀ x20 x21 : Option Value, Z sc yL_law cL_law 22 (some .boolean) 5 mc ms 626 [some (.ref (1000202)), some (.ref (0)), some (.int (nI n')), some (.ref (115 + p)), some (.int (nI k)), some (.int (cw sc k)), some (.int (x6)), some (.int (x7)), some (.int (nI a)), some (.int (nI b)), some (.int (v)), some (.int (nI c0)), some (.int (nI n)), some (.int (tu T)), some (.int (tp T)), some (.int (ta T)), some (.long (gS n S X R T)), none, some (.ref (115 + fs.length)), some (.int (chg)), x20, x21] [] (lwH S' X R T' P TU q' G' TN ((fs ++ [cpF f 40]).set p f')) r h' := by
  have h40 := h.1.1.2
  have hpl := (List.getElem?_eq_some_iff.mp hp).1
  have hpg : (fs ++ [cpF f 40])[p]? = some f := by rw [List.getElem?_append_left hpl]; exact hp
  obtain ⟨⟨w', hw'⟩, hm', hb', hD⟩ := D
  have hlen : ((fs ++ [cpF f 40]).set p f').length = k + 1 + 1 := by rw [List.length_set, List.length_append, hf]; rfl
  rcases hD with ⟨rfl, rfl, rfl, rfl, rfl, rfl, rfl⟩ | ⟨rfl, rfl, rfl, rfl⟩
  · have hc' := hc
    refine ⟨n', S', T', q', G', (fs ++ [cpF f' 40]).set p f', p, f', c0, ⟨⟨w', hw'⟩, ⟨hc, h8⟩, ⟨hlen, set_at hpg⟩, hm', fun i hi => (hb' i hi).mono (by omega)⟩, ?_⟩
    intro mc ms r h' K x20 x21
    refine z_aload_1 dL_law_626 ?_
    refine z_aload_3 dL_law_627 ?_
    refine z_iload_2 dL_law_628 ?_
    refine z_own (av := [.ref 0, .ref (115 + p), .int (nI n')]) (lw_same hw' (set_at hpg) hm') dL_law_629 zy_L_isSame zm_L_118 rfl (Nat.le_of_ble_eq_true rfl) (by decide) (by decide) ?_
    refine z_if_eq_f 660 dL_law_632 (by decide) (by decide) ?_
    refine z_aload_1 dL_law_635 ?_
    refine z_fl (As := []) (k_f_undoCount S' X R T' P TU q' G' TN) dL_law_636 zy_X6_undoCount zm_L_85 rfl rfl (Nat.le_of_ble_eq_true rfl) (by decide) (by decide) ?_
    refine z_topi hc' ?_
    refine z_bipush (v := 8) dL_law_639 rfl ?_
    refine z_iload_11 dL_law_641 ?_
    refine z_iload_19 dL_law_643 ?_
    refine z_if_eq_t (tgt := 652) dL_law_645 (by decide) rfl ?_
    refine z_iconst (v := 0) dL_law_652 rfl ?_
    refine z_iadd dL_law_653 ?_
    refine z_topi (w := nI c0) (Int32.add_zero _) ?_
    refine z_mn dL_law_654 zm_L_76 (by decide) (Nat.le_of_ble_eq_true rfl) ?_
    refine z_topi (w := nI (min 8 c0)) (mnI (a := 8) (by decide) (by omega)) ?_
    refine z_icmp_eq_t (tgt := 662) dL_law_657 (by decide) (by rw [Nat.min_eq_right h8]) ?_
    refine z_iload_19 dL_law_662 ?_
    refine z_if_eq_t (tgt := 725) dL_law_664 (by decide) rfl ?_
    refine z_iinc_4 (v := nI (k + 1)) dL_law_725 (zinc _) rfl (by decide) ?_
    refine z_goto (tgt := 46) dL_law_728 (by decide) ?_
    exact Z.fgt K
  · have hc' := remS_1 (S := S) h8
    by_cases cb : bit1 sc k
    · obtain ⟨U, hU⟩ := remG_at (q := q) (G := G) (T := T) h8
      have hq : TQ T (tCopy (tCopy T U) T') := (TQ_copy T U).trans (TQ_copy (tCopy T U) T')
      have hw2 : Rel n (tCopy (tCopy T U) T') w := (h.copy (U := U)).copy (U := T')
      have hc9 : (remS c0 S).1 1 = nI (min 8 (c0 + 1) - 1 + 1) := by rw [hc']; congr 1; omega
      have ku := k_f_undo_ok (sc := sc) (remS c0 S) X R T' P TU (remR c0 q) (remG c0 q G T) TN (min 8 (c0 + 1) - 1) hc9 (by omega)
      rw [hU] at ku
      have hpo : ((fs ++ [cpF f 40]).set p f')[fs.length]? = some (cpF f 40) := by
        rw [List.getElem?_set_ne (by omega), List.getElem?_append_right (Nat.le_refl _), Nat.sub_self]
        rfl
      have hmo : ∀ i, i < n → tva (tCopy (tCopy T U) T') i = cpF f 40 i := fun i hi => by
        rw [hq.2.2 i (by omega), hm i hi]
        exact (if_pos (by omega)).symm
      have hbo : ∀ i, i < n → bN (2000 + 1024 * ((k + 1 : Nat) : Int)) (tva (tCopy (tCopy T U) T') i) := fun i hi => by
        rw [hq.2.2 i (by omega)]
        exact (hb i hi).mono (by omega)
      have hsum : gS n (sI 1 (nI (min 8 (c0 + 1) - 1)) (remS c0 S)) X R (tCopy (tCopy T U) T') = gS n S X R T := hq.gS h hw2
      generalize tCopy (tCopy T U) T' = T2 at hw2 ku hmo hbo hsum
      refine ⟨n, sI 1 (nI (min 8 (c0 + 1) - 1)) (remS c0 S), T2, remR c0 q, remG c0 q G T, (fs ++ [cpF f 40]).set p f', fs.length, cpF f 40, min 8 (c0 + 1) - 1, ⟨⟨w, hw2⟩, ⟨rfl, by omega⟩, ⟨hlen, hpo⟩, hmo, hbo⟩, ?_⟩
      intro mc ms r h' K x20 x21
      refine z_aload_1 dL_law_626 ?_
      refine z_aload_3 dL_law_627 ?_
      refine z_iload_2 dL_law_628 ?_
      refine z_own (av := [.ref 0, .ref (115 + p), .int (nI n')]) (lw_same hw' (set_at hpg) hm') dL_law_629 zy_L_isSame zm_L_118 rfl (Nat.le_of_ble_eq_true rfl) (by decide) (by decide) ?_
      refine z_if_eq_f 660 dL_law_632 (by decide) (by decide) ?_
      refine z_aload_1 dL_law_635 ?_
      refine z_fl (As := []) (k_f_undoCount (remS c0 S) X R T' P TU (remR c0 q) (remG c0 q G T) TN) dL_law_636 zy_X6_undoCount zm_L_85 rfl rfl (Nat.le_of_ble_eq_true rfl) (by decide) (by decide) ?_
      refine z_topi hc' ?_
      refine z_bipush (v := 8) dL_law_639 rfl ?_
      refine z_iload_11 dL_law_641 ?_
      refine z_iload_19 dL_law_643 ?_
      refine z_if_eq_f 652 dL_law_645 (by decide) (by decide) ?_
      refine z_iconst (v := 1) dL_law_648 rfl ?_
      refine z_goto (tgt := 653) dL_law_649 (by decide) ?_
      refine z_iadd dL_law_653 ?_
      refine z_topi (w := nI (c0 + 1)) (nI_1 c0) ?_
      refine z_mn dL_law_654 zm_L_76 (by decide) (Nat.le_of_ble_eq_true rfl) ?_
      refine z_topi (w := nI (min 8 (c0 + 1))) (mnI (a := 8) (by decide) (by omega)) ?_
      refine z_icmp_eq_t (tgt := 662) dL_law_657 (by decide) rfl ?_
      refine z_iload_19 dL_law_662 ?_
      refine z_if_eq_f 725 dL_law_664 (by decide) (by decide) ?_
      refine z_iload_5 dL_law_667 ?_
      refine z_bipush (v := 29) dL_law_669 rfl ?_
      refine z_iushr dL_law_671 rfl ?_
      refine z_iconst (v := 3) dL_law_672 rfl ?_
      refine z_iand dL_law_673 ?_
      refine z_iconst (v := 1) dL_law_674 rfl ?_
      refine z_icmp_ne_f 725 dL_law_675 (by decide) cb ?_
      refine z_aload_1 dL_law_678 ?_
      refine z_fl (As := []) ku dL_law_679 zy_X6_undo zm_L_122 rfl rfl (Nat.le_of_ble_eq_true rfl) (by decide) (by decide) ?_
      refine z_bipush (v := 8) dL_law_682 rfl ?_
      refine z_iload_11 dL_law_684 ?_
      refine z_iconst (v := 1) dL_law_686 rfl ?_
      refine z_iadd dL_law_687 ?_
      refine z_topi (w := nI (c0 + 1)) (nI_1 c0) ?_
      refine z_mn dL_law_688 zm_L_76 (by decide) (Nat.le_of_ble_eq_true rfl) ?_
      refine z_topi (w := nI (min 8 (c0 + 1))) (mnI (a := 8) (by decide) (by omega)) ?_
      refine z_iconst (v := 1) dL_law_691 rfl ?_
      refine z_isub dL_law_692 ?_
      refine z_icmp_ne_f 706 dL_law_693 (by decide) (pk_sub (b := 1) (by omega)).symm ?_
      refine z_aload_1 dL_law_696 ?_
      refine z_own (av := [.ref 0]) (lw_sum hw2) dL_law_697 zy_L_sum zm_L_88 rfl (Nat.le_of_ble_eq_true rfl) (by decide) (by decide) ?_
      refine z_lload_16 dL_law_700 ?_
      refine z_lcmp dL_law_702 ?_
      refine z_if_eq_t (tgt := 708) dL_law_703 (by decide) ((lg_cmp_eq _ _).mpr hsum) ?_
      refine z_aload_18 dL_law_708 ?_
      refine z_astore_3 dL_law_710 rfl (by decide) ?_
      refine z_iload_12 dL_law_711 ?_
      refine z_istore_2 dL_law_713 rfl (by decide) ?_
      refine z_aload_1 dL_law_714 ?_
      refine z_aload_3 dL_law_715 ?_
      refine z_iload_2 dL_law_716 ?_
      refine z_own (av := [.ref 0, .ref (115 + fs.length), .int (nI n)]) (lw_same hw2 hpo hmo) dL_law_717 zy_L_isSame zm_L_118 rfl (Nat.le_of_ble_eq_true rfl) (by decide) (by decide) ?_
      refine z_if_ne_t (tgt := 725) dL_law_720 (by decide) (by decide) ?_
      refine z_iinc_4 (v := nI (k + 1)) dL_law_725 (zinc _) rfl (by decide) ?_
      refine z_goto (tgt := 46) dL_law_728 (by decide) ?_
      exact Z.fgt K
    · refine ⟨n', remS c0 S, T', remR c0 q, remG c0 q G T, (fs ++ [cpF f 40]).set p f', p, f', min 8 (c0 + 1), ⟨⟨w', hw'⟩, ⟨hc', by omega⟩, ⟨hlen, set_at hpg⟩, hm', fun i hi => (hb' i hi).mono (by omega)⟩, ?_⟩
      intro mc ms r h' K x20 x21
      refine z_aload_1 dL_law_626 ?_
      refine z_aload_3 dL_law_627 ?_
      refine z_iload_2 dL_law_628 ?_
      refine z_own (av := [.ref 0, .ref (115 + p), .int (nI n')]) (lw_same hw' (set_at hpg) hm') dL_law_629 zy_L_isSame zm_L_118 rfl (Nat.le_of_ble_eq_true rfl) (by decide) (by decide) ?_
      refine z_if_eq_f 660 dL_law_632 (by decide) (by decide) ?_
      refine z_aload_1 dL_law_635 ?_
      refine z_fl (As := []) (k_f_undoCount (remS c0 S) X R T' P TU (remR c0 q) (remG c0 q G T) TN) dL_law_636 zy_X6_undoCount zm_L_85 rfl rfl (Nat.le_of_ble_eq_true rfl) (by decide) (by decide) ?_
      refine z_topi hc' ?_
      refine z_bipush (v := 8) dL_law_639 rfl ?_
      refine z_iload_11 dL_law_641 ?_
      refine z_iload_19 dL_law_643 ?_
      refine z_if_eq_f 652 dL_law_645 (by decide) (by decide) ?_
      refine z_iconst (v := 1) dL_law_648 rfl ?_
      refine z_goto (tgt := 653) dL_law_649 (by decide) ?_
      refine z_iadd dL_law_653 ?_
      refine z_topi (w := nI (c0 + 1)) (nI_1 c0) ?_
      refine z_mn dL_law_654 zm_L_76 (by decide) (Nat.le_of_ble_eq_true rfl) ?_
      refine z_topi (w := nI (min 8 (c0 + 1))) (mnI (a := 8) (by decide) (by omega)) ?_
      refine z_icmp_eq_t (tgt := 662) dL_law_657 (by decide) rfl ?_
      refine z_iload_19 dL_law_662 ?_
      refine z_if_eq_f 725 dL_law_664 (by decide) (by decide) ?_
      refine z_iload_5 dL_law_667 ?_
      refine z_bipush (v := 29) dL_law_669 rfl ?_
      refine z_iushr dL_law_671 rfl ?_
      refine z_iconst (v := 3) dL_law_672 rfl ?_
      refine z_iand dL_law_673 ?_
      refine z_iconst (v := 1) dL_law_674 rfl ?_
      refine z_icmp_ne_t (tgt := 725) dL_law_675 (by decide) cb ?_
      refine z_iinc_4 (v := nI (k + 1)) dL_law_725 (zinc _) rfl (by decide) ?_
      refine z_goto (tgt := 46) dL_law_728 (by decide) ?_
      exact Z.fgt K
/-- every round, and the end -/
theorem l_loop (hsc : sc.1 < 2 ^ 31) : ∀ (m k n : Nat) (S : ZS) (T : TS) (q : Nat) (G : Nat → TS) (fs : List (Nat → Int32)) (p : Nat) (f : Nat → Int32) (c0 : Nat), k + m = 10 → Rnd k n S T fs p f c0 →
    ∃ h' : List zO, h'.length = 126 ∧ zbh 126 h' ∧ Z sc yL_law cL_law 22 (some .boolean) 5 m (40 * m) 46 [some (.ref (1000202)), some (.ref (0)), some (.int (nI n)), some (.ref (115 + p)), some (.int (nI k)), none, none, none, none, none, none, none, none, none, none, none, none, none, none, none, none, none] [] (lwH S X R T P TU q G TN fs) (.inl (some (.int 1))) h' := by
  intro m
  induction m with
  | zero =>
    intro k n S T q G fs p f c0 hk hR
    have : k = 10 := by omega
    subst this
    obtain ⟨⟨w, h⟩, ⟨hc, h8⟩, ⟨hf, hp⟩, hm, hb⟩ := hR
    have h40 := h.1.1.2
    obtain ⟨⟨w', r1⟩, r2, r3, r4⟩ := RE h
    have kc := k_f_pushAll (sc := sc) S X R T P TU q G TN c0 hc h8
    generalize tPushEach T = Uc at r1 r2 r3 r4 kc
    have hn' := r1.1.2.1
    have hlen : (lwH (remS c0 S) X R Uc.1 P TU (remR c0 q) (remG c0 q G T) TN fs).length = 126 := by rw [lwH_len, hf]
    refine ⟨lwH (remS c0 S) X R Uc.1 P TU (remR c0 q) (remG c0 q G T) TN fs, hlen, by rw [← hlen]; exact lwH_b, ?_⟩
    refine z_iload_4 dL_law_46 ?_
    refine z_bipush (v := 10) dL_law_48 rfl ?_
    refine z_icmp_ge_t (tgt := 731) dL_law_50 (by decide) (Int32.le_refl _) ?_
    refine z_aload_1 dL_law_731 ?_
    refine z_fl (As := []) kc dL_law_732 zy_X6_pushAll zm_L_109 rfl rfl (Nat.le_of_ble_eq_true rfl) (by decide) (by decide) ?_
    refine z_pop dL_law_735 rfl ?_
    refine z_aload_1 dL_law_736 ?_
    refine z_ql (As := []) (k_c_6_markedNodes n (remS c0 S) X R Uc.1 hn' h40) dL_law_737 zy_X6_markedNodes zm_L_42 rfl rfl (Nat.le_of_ble_eq_true rfl) (by decide) (by decide) ?_
    refine z_if_ne_f 756 dL_law_740 (by decide) (noM_marked r2 _ _ _) ?_
    refine z_aload_1 dL_law_743 ?_
    refine z_aload_3 dL_law_744 ?_
    refine z_iload_2 dL_law_745 ?_
    refine z_own (av := [.ref 0, .ref (115 + p), .int (nI n)]) (lw_same r1 hp (fun i hi => by rw [r3]; exact hm i hi)) dL_law_746 zy_L_isSame zm_L_118 rfl (Nat.le_of_ble_eq_true rfl) (by decide) (by decide) ?_
    refine z_if_eq_f 756 dL_law_749 (by decide) (by decide) ?_
    refine z_iconst (v := 1) dL_law_752 rfl ?_
    refine z_goto (tgt := 757) dL_law_753 (by decide) ?_
    exact z_iret dL_law_757 rfl rfl rfl rfl
  | succ m ih =>
    intro k n S T q G fs p f c0 hk hR
    obtain ⟨⟨w, h⟩, ⟨hc, h8⟩, ⟨hf, hp⟩, hm, hb⟩ := hR
    have hpl := (List.getElem?_eq_some_iff.mp hp).1
    have hpg : (fs ++ [cpF f 40])[p]? = some f := by rw [List.getElem?_append_left hpl]; exact hp
    obtain ⟨a, b, j, v, x6, x7, ⟨hab, hbn⟩, ⟨hv, hj⟩, W1⟩ := l_pre (X := X) (R := R) (P := P) (TU := TU) (q := q) (G := G) (TN := TN) h hc (show k < 10 by omega) hsc hf hp
    obtain ⟨n1, S1, T1, q1, G1, f1, chg, D1, W2⟩ := d_case (X := X) (R := R) (P := P) (TU := TU) (q := q) (G := G) (TN := TN) (k := k) (l := fs.length) (x6 := x6) (x7 := x7) (sc := sc) h hc h8 hab hbn hv hpg hm hb (by omega) (by omega) hj
    obtain ⟨n2, S2, T2, q2, G2, fs2, p2, f2, c2, D2, W3⟩ := l_post (X := X) (R := R) (P := P) (TU := TU) (TN := TN) (a := a) (b := b) (v := v) (x6 := x6) (x7 := x7) (sc := sc) h hc h8 hf hp hm hb D1
    obtain ⟨h', e1, e2, W4⟩ := ih (k + 1) n2 S2 T2 q2 G2 fs2 p2 f2 c2 (by omega) D2
    exact ⟨h', e1, e2, Z.more (Nat.le_refl _) (by omega) (W1 e1 (W2 (W3 W4)))⟩
end LW7

section LW8
variable {w : Nat → Int32} {mc ms : Nat} {r : zR} {h' : List zO}
noncomputable abbrev lw0 (g : Nat → Int32) : List zO := lwH iZ iZ iZ iT4 iZ tZ 0 (fun _ => tZ) tZ [g]
/-- the sequence is copied -/
theorem l_fil67 (h : Rel 10 iT4 w) (K : Z sc yL_law cL_law 22 (some .boolean) 5 mc ms 43 [some (.ref (1000202)), some (.ref (0)), some (.int (nI 10)), some (.ref (115)), some (.int (nI 10)), none, none, none, none, none, none, none, none, none, none, none, none, none, none, none, none, none] [] (lw0 (cpF (tva iT4) 10)) r h') : ∀ m i, i + m = 10 →
    Z sc yL_law cL_law 22 (some .boolean) 5 mc ms 21 [some (.ref (1000202)), some (.ref (0)), some (.int (nI 10)), some (.ref (115)), some (.int (nI i)), none, none, none, none, none, none, none, none, none, none, none, none, none, none, none, none, none] [] (lw0 (cpF (tva iT4) i)) r h' := by
  intro m
  induction m with
  | zero =>
    intro i hi
    have : i = 10 := by omega
    subst this
    refine z_iload_4 dL_law_21 ?_
    refine z_iload_2 dL_law_23 ?_
    refine z_icmp_ge_t (tgt := 43) dL_law_24 (by decide) (Int32.le_refl _) ?_
    exact K
  | succ m ih =>
    intro i hi
    refine z_iload_4 dL_law_21 ?_
    refine z_iload_2 dL_law_23 ?_
    refine z_icmp_ge_f 43 dL_law_24 (by decide) (fun z => by have := (nI_leI (a := 10) (b := i) (by decide) (by omega)).mp z; omega) ?_
    refine z_aload_3 dL_law_27 ?_
    refine z_iload_4 dL_law_28 ?_
    refine z_aload_1 dL_law_30 ?_
    refine z_iload_4 dL_law_31 ?_
    refine z_ql (As := [.int (nI i)]) (v := .int (tva iT4 i)) (k_c_6_element 10 i iZ iZ iZ iT4 h.1.2.1 (by decide) (by omega)) dL_law_33 zy_X6_element zm_L_19 rfl rfl (Nat.le_of_ble_eq_true rfl) (by decide) (by decide) ?_
    refine z_iastN (n := 40) (k := i) (f := cpF (tva iT4) i) dL_law_36 (lwH_at (p := 0) rfl) (by omega) (by decide) ?_
    refine Z.heap (h2 := lw0 (cpF (tva iT4) (i + 1))) ((lwH_set (p := 0)).trans (by rw [cpF_up]; rfl)) ?_
    refine z_iinc_4 (v := nI (i + 1)) dL_law_37 (zinc _) rfl (by decide) ?_
    refine z_goto (tgt := 21) dL_law_40 (by decide) ?_
    exact ih (i + 1) (by omega)
theorem l_run (hsc : sc.1 < 2 ^ 31) : ∃ h' : List zO, Z sc yL_law cL_law 22 (some .boolean) 5 (10 + 1 + 114 + 1) (400 + 40 + 13269 + 7) 0 ([some (.ref 1000202)] ++ List.replicate 21 none) [] ([] : List zO) (.inl (some (.int 1))) h' := by
  obtain ⟨w, h, hb⟩ := RS
  have hR : Rnd 0 10 iZ iT4 [cpF (tva iT4) 10] 0 (cpF (tva iT4) 10) 0 := ⟨⟨w, h⟩, ⟨rfl, by decide⟩, ⟨rfl, rfl⟩, fun i hi => (if_pos hi).symm, fun i hi => (hb i hi).mono (by decide)⟩
  obtain ⟨h2, e1, e2, W⟩ := l_loop (X := iZ) (R := iZ) (P := iZ) (TU := tZ) (TN := tZ) hsc 10 0 10 iZ iT4 0 (fun _ => tZ) [cpF (tva iT4) 10] 0 (cpF (tva iT4) 10) 0 (by decide) hR
  refine ⟨lback h2, l_new (mc := 11) (ms := 440) e1 e2 ?_⟩
  refine Z.heap (h2 := lwH iZ iZ iZ iT4 iZ tZ 0 (fun _ => tZ) tZ []) (by rw [lwH, List.map_nil, List.append_nil]; rfl) ?_
  refine z_aload_1 dL_law_8 ?_
  refine z_ql (As := []) (v := .int (nI 10)) (k_c_6_elementCount 10 iZ iZ iZ iT4 h.1.2.1 (by decide)) dL_law_9 zy_X6_elementCount zm_L_7 rfl rfl (Nat.le_of_ble_eq_true rfl) (by decide) (by decide) ?_
  refine z_istore_2 dL_law_12 rfl (by decide) ?_
  refine z_bipush (v := 40) dL_law_13 rfl ?_
  refine z_newa (mc := 10) (ms := 400) (h := lwH iZ iZ iZ iT4 iZ tZ 0 (fun _ => tZ) tZ []) (t := 0) (x := (40, .inl (fun _ => 0))) (N := 40) dL_law_15 zar_int rfl (fun _ z => by cases z) (fun _ => rfl) (fun _ => rfl) (fun _ => rfl) (by decide) (by decide) (by decide) lwH_b (fun _ => trivial) ?_ (fun v hv => by cases hv) (by rw [lwH_len, e1]; decide) (by rw [lwH_len]; decide) ?_
  · rw [lwH_len]
    exact zb_r (Or.inr (by decide)) (zb_r (Or.inl (by decide)) (zb_i (zb_n (zb_n (zb_n (zb_n (zb_n (zb_n (zb_n (zb_n (zb_n (zb_n (zb_n (zb_n (zb_n (zb_n (zb_n (zb_n (zb_n (zb_n (zb_n zb_nil)))))))))))))))))))))
  refine Z.heap lwH_app ?_
  rw [lwH_len]
  have e0 : cpF (tva iT4) 0 = fun _ => 0 := funext fun j => if_neg (Nat.not_lt_zero j)
  refine z_astore_3 dL_law_17 rfl (by decide) ?_
  refine z_iconst (v := nI 0) dL_law_18 (by decide) ?_
  refine z_istore_4 dL_law_19 rfl (by decide) ?_
  refine Z.heap (h2 := lw0 (cpF (tva iT4) 0)) (by rw [e0]; rfl) ?_
  refine l_fil67 h ?_ 10 0 (by decide)
  refine z_iconst (v := nI 0) dL_law_43 (by decide) ?_
  refine z_istore_4 dL_law_44 rfl (by decide) ?_
  exact W
end LW8
