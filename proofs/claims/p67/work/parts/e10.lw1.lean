variable {sc : SC}
/-! ===== the law's walk: questions, and the beginning of a round ===== -/
def cw (sc : SC) (k : Nat) : Int32 := if k < sc.1 then sc.2 k else 0
theorem mnI {a b : Nat} (ha : a < 2 ^ 31) (hb : b < 2 ^ 31) : (if nI b < nI a then nI b else nI a) = nI (min a b) := by
  by_cases c : b < a
  · rw [if_pos ((nI_ltI hb ha).mpr c), Nat.min_eq_right (by omega)]
  · rw [if_neg (fun z => c ((nI_ltI hb ha).mp z)), Nat.min_eq_left (by omega)]
theorem mxI {a b : Nat} (ha : a < 2 ^ 31) (hb : b < 2 ^ 31) : (if nI a < nI b then nI b else nI a) = nI (max a b) := by
  by_cases c : a < b
  · rw [if_pos ((nI_ltI ha hb).mpr c), Nat.max_eq_right (by omega)]
  · rw [if_neg (fun z => c ((nI_ltI ha hb).mp z)), Nat.max_eq_left (by omega)]
section ZB
variable {n : Nat} {t : List (Option Value)}
theorem zb_nil : ∀ v, some v ∈ ([] : List (Option Value)) → zbw n v := fun v hv => by cases hv
theorem zb_n (h : ∀ v, some v ∈ t → zbw n v) : ∀ v, some v ∈ (none :: t : List (Option Value)) → zbw n v := fun v hv => by
  rcases List.mem_cons.mp hv with e | hv
  · cases e
  · exact h v hv
theorem zb_i {x : Int32} (h : ∀ v, some v ∈ t → zbw n v) : ∀ v, some v ∈ (some (.int x) :: t : List (Option Value)) → zbw n v := fun v hv => by
  rcases List.mem_cons.mp hv with e | hv
  · cases e
    exact fun a e9 => by cases e9
  · exact h v hv
theorem zb_l {x : Int64} (h : ∀ v, some v ∈ t → zbw n v) : ∀ v, some v ∈ (some (.long x) :: t : List (Option Value)) → zbw n v := fun v hv => by
  rcases List.mem_cons.mp hv with e | hv
  · cases e
    exact fun a e9 => by cases e9
  · exact h v hv
theorem zb_r {a : Nat} (ha : a < n ∨ 1000000 ≤ a) (h : ∀ v, some v ∈ t → zbw n v) : ∀ v, some v ∈ (some (.ref a) :: t : List (Option Value)) → zbw n v := fun v hv => by
  rcases List.mem_cons.mp hv with e | hv
  · cases e
    exact fun b e9 => by injection e9 with e9; exact e9 ▸ ha
  · exact h v hv
end ZB
section LW1
variable {y : MethodName} {cc : ByteArray} {nL : Nat} {ret : Option FieldType} {d mc ms pc : Nat} {ls : List (Option Value)} {st : List Value} {r : zR} {h' : List zO} {y2 : MethodName} {cc2 : ByteArray} {nL2 : Nat} {ret2 : Option FieldType} {d2 n9 idx : Nat} {As : List Value} {v : Value}
variable {S X R : ZS} {T : TS} {P : ZS} {TU : TS} {q : Nat} {G : Nat → TS} {TN : TS} {S' X' R' : ZS} {T' : TS} {P' : ZS} {TU' : TS} {q' : Nat} {G' : Nat → TS} {TN' : TS} {fs : List (Nat → Int32)}
theorem z_ql (hM : zM sc y2 cc2 nL2 ret2 d2 0 0 (.ref 0 :: As) (qh S X R T) (.inl (some v)) (qh S X R T)) (hd : decode cc pc = .ok (.invokevirtual idx, 3)) (hY : zYV y2 cc2 nL2 ret2 n9) (hlk : Cond.methodLink y.cls idx y2 ∈ zT) (hn : As.length = n9) (hcl : y2.cls = RX6) (hcat : (st.map fun v => v.category).sum ≤ 8) (hd2 : d2 + 1 ≤ d) (hnL : nL2 ≤ 61)
    (k : Z sc y cc nL ret d mc ms (pc + 3) ls (v :: st) (lwH S X R T P TU q G TN fs) r h') : Z sc y cc nL ret d mc ms pc ls (As.reverse ++ .ref 0 :: st) (lwH S X R T P TU q G TN fs) r h' :=
  z_qF (rest := fs.map zF) hM hd hY hlk hn hcl hcat hd2 hnL k
theorem z_fl (hM : zM sc y2 cc2 nL2 ret2 d2 0 0 (.ref 0 :: As) (FH S X R T P TU q G TN) (.inl (some v)) (FH S' X' R' T' P' TU' q' G' TN')) (hd : decode cc pc = .ok (.invokevirtual idx, 3)) (hY : zYV y2 cc2 nL2 ret2 n9) (hlk : Cond.methodLink y.cls idx y2 ∈ zT) (hn : As.length = n9) (hcl : y2.cls = RX6) (hcat : (st.map fun v => v.category).sum ≤ 8) (hd2 : d2 + 1 ≤ d) (hnL : nL2 ≤ 61)
    (k : Z sc y cc nL ret d mc ms (pc + 3) ls (v :: st) (lwH S' X' R' T' P' TU' q' G' TN' fs) r h') : Z sc y cc nL ret d mc ms pc ls (As.reverse ++ .ref 0 :: st) (lwH S X R T P TU q G TN fs) r h' :=
  z_fF (rest := fs.map zF) hM hd hY hlk hn hcl hcat hd2 hnL k
theorem lw_same {n p : Nat} {w f : Nat → Int32} (h : Rel n T w) (hp : fs[p]? = some f) (hv : ∀ i, i < n → tva T i = f i) : zM sc yL_isSame cL_isSame 6 (some .boolean) 4 0 0 [.ref 0, .ref (115 + p), .int (nI n)] (lwH S X R T P TU q G TN fs) (.inl (some (.int 1))) (lwH S X R T P TU q G TN fs) := by
  have hr := lwH_at (S := S) (X := X) (R := R) (T := T) (P := P) (TU := TU) (q := q) (G := G) (TN := TN) hp
  rw [lwH, FH_qh] at hr ⊢
  exact k_isSame h hr hv
theorem lw_sum {n : Nat} {w : Nat → Int32} (h : Rel n T w) : zM sc yL_sum cL_sum 5 (some .long) 3 0 0 [.ref 0] (lwH S X R T P TU q G TN fs) (.inl (some (.long (gS n S X R T)))) (lwH S X R T P TU q G TN fs) := by
  rw [lwH, FH_qh]
  exact k_sum h
end LW1
section LW2
variable {S X R : ZS} {T : TS} {P : ZS} {TU : TS} {q : Nat} {G : Nat → TS} {TN : TS} {fs : List (Nat → Int32)}
/-- the beginning of a round, up to the switch -/
theorem l_pre {n k p c0 : Nat} {w f : Nat → Int32} (h : Rel n T w) (hc : S.1 1 = nI c0) (hk : k < 10) (hsc : sc.1 < 2 ^ 31) (hf : fs.length = k + 1) (hp : fs[p]? = some f) :
    ∃ (a b j : Nat) (v x6 x7 : Int32), (a ≤ b ∧ b < n) ∧ (bN 1024 v ∧ j < 16) ∧ ∀ {mc ms : Nat} {r : zR} {h' : List zO}, h'.length = 126 →
      Z sc yL_law cL_law 22 (some .boolean) 5 mc ms 164 [some (.ref (1000202)), some (.ref (0)), some (.int (nI n)), some (.ref (115 + p)), some (.int (nI k)), some (.int (cw sc k)), some (.int (x6)), some (.int (x7)), some (.int (nI a)), some (.int (nI b)), some (.int (v)), some (.int (nI c0)), some (.int (nI n)), some (.int (tu T)), some (.int (tp T)), some (.int (ta T)), some (.long (gS n S X R T)), none, some (.ref (115 + fs.length)), some (.int (1)), none, none] [.int (nI j)] (lwH S X R T P TU q G TN (fs ++ [cpF f 40])) r h' →
      Z sc yL_law cL_law 22 (some .boolean) 5 (mc + 1) (ms + 40) 46 [some (.ref (1000202)), some (.ref (0)), some (.int (nI n)), some (.ref (115 + p)), some (.int (nI k)), none, none, none, none, none, none, none, none, none, none, none, none, none, none, none, none, none] [] (lwH S X R T P TU q G TN fs) r h' := by
  have h1 := h.1.1.1
  have h40 := h.1.1.2
  have hn := h.1.2.1
  have hpl := (List.getElem?_eq_some_iff.mp hp).1
  have hnz : nI n ≠ 0 := fun z => by
    have := (nI_leI (a := n) (b := 0) (by omega) (by decide)).mp (by rw [z]; exact Int32.le_refl _)
    omega
  obtain ⟨j4, g4, e4⟩ := pk_andE ((cw sc k).toUInt32 >>> ((4 : Int32).toUInt32 &&& Int32.toUInt32 31)).toInt32 (m := 63) 6 (by decide)
  obtain ⟨j10, g10, e10⟩ := pk_andE ((cw sc k).toUInt32 >>> ((10 : Int32).toUInt32 &&& Int32.toUInt32 31)).toInt32 (m := 63) 6 (by decide)
  obtain ⟨j16, g16, e16⟩ := pk_andE ((cw sc k).toUInt32 >>> ((16 : Int32).toUInt32 &&& Int32.toUInt32 31)).toInt32 (m := 2047) 11 (by decide)
  obtain ⟨j0, g0, e0⟩ := pk_andE (cw sc k) (m := 15) 4 (by decide)
  have m4 : j4 % n < n := Nat.mod_lt _ h1
  have m10 : j10 % n < n := Nat.mod_lt _ h1
  refine ⟨min (j4 % n) (j10 % n), max (j4 % n) (j10 % n), j0, nI j16 - 1024, nI (j4 % n), nI (j10 % n), ⟨by omega, by omega⟩, ⟨?_, g0⟩, ?_⟩
  · have e9 : (nI j16 - 1024).toInt = (j16 : Int) - (1024 : Nat) := pk_sub_toInt (a := j16) (b := 1024) (by omega) (by decide)
    unfold bN
    rw [e9]
    omega
  intro mc ms r h' hg K
  refine z_iload_4 dL_law_46 ?_
  refine z_bipush (v := 10) dL_law_48 rfl ?_
  refine z_icmp_ge_f 731 dL_law_50 (by decide) (fun z => by have := (nI_leI (a := 10) (b := k) (by decide) (by omega)).mp z; omega) ?_
  refine z_aload_0 dL_law_53 ?_
  refine z_iload_4 dL_law_54 ?_
  refine z_own (av := [.ref 1000202, .int (nI k)]) (v := .int (cw sc k)) (k_cell hsc (by omega)) dL_law_56 zy_L_cell zm_L_70 rfl (Nat.le_of_ble_eq_true rfl) (by decide) (by decide) ?_
  refine z_istore_5 dL_law_59 rfl (by decide) ?_
  refine z_iload_5 dL_law_61 ?_
  refine z_iconst (v := 4) dL_law_63 rfl ?_
  refine z_iushr dL_law_64 rfl ?_
  refine z_bipush (v := 63) dL_law_65 rfl ?_
  refine z_iand dL_law_67 ?_
  refine z_topi e4 ?_
  refine z_iload_2 dL_law_68 ?_
  refine z_irem dL_law_69 hnz ?_
  refine z_topi (w := nI (j4 % n)) (pk_rem (by omega) h1 (by omega)) ?_
  refine z_istore_6 dL_law_70 rfl (by decide) ?_
  refine z_iload_5 dL_law_72 ?_
  refine z_bipush (v := 10) dL_law_74 rfl ?_
  refine z_iushr dL_law_76 rfl ?_
  refine z_bipush (v := 63) dL_law_77 rfl ?_
  refine z_iand dL_law_79 ?_
  refine z_topi e10 ?_
  refine z_iload_2 dL_law_80 ?_
  refine z_irem dL_law_81 hnz ?_
  refine z_topi (w := nI (j10 % n)) (pk_rem (by omega) h1 (by omega)) ?_
  refine z_istore_7 dL_law_82 rfl (by decide) ?_
  refine z_iload_6 dL_law_84 ?_
  refine z_iload_7 dL_law_86 ?_
  refine z_mn dL_law_88 zm_L_76 (by decide) (Nat.le_of_ble_eq_true rfl) ?_
  refine z_topi (w := nI (min (j4 % n) (j10 % n))) (mnI (by omega) (by omega)) ?_
  refine z_istore_8 dL_law_91 rfl (by decide) ?_
  refine z_iload_6 dL_law_93 ?_
  refine z_iload_7 dL_law_95 ?_
  refine z_mx dL_law_97 zm_L_82 (by decide) (Nat.le_of_ble_eq_true rfl) ?_
  refine z_topi (w := nI (max (j4 % n) (j10 % n))) (mxI (by omega) (by omega)) ?_
  refine z_istore_9 dL_law_100 rfl (by decide) ?_
  refine z_iload_5 dL_law_102 ?_
  refine z_bipush (v := 16) dL_law_104 rfl ?_
  refine z_iushr dL_law_106 rfl ?_
  refine z_sipush (v := 2047) dL_law_107 rfl ?_
  refine z_iand dL_law_110 ?_
  refine z_topi e16 ?_
  refine z_sipush (v := 1024) dL_law_111 rfl ?_
  refine z_isub dL_law_114 ?_
  refine z_istore_10 dL_law_115 rfl (by decide) ?_
  refine z_aload_1 dL_law_117 ?_
  refine z_fl (As := []) (k_f_undoCount S X R T P TU q G TN) dL_law_118 zy_X6_undoCount zm_L_85 rfl rfl (Nat.le_of_ble_eq_true rfl) (by decide) (by decide) ?_
  refine z_topi hc ?_
  refine z_istore_11 dL_law_121 rfl (by decide) ?_
  refine z_iload_2 dL_law_123 ?_
  refine z_istore_12 dL_law_124 rfl (by decide) ?_
  refine z_aload_1 dL_law_126 ?_
  refine z_ql (As := []) (v := .int (tu T)) (k_c_6_updateCount n S X R T hn h40) dL_law_127 zy_X6_updateCount zm_L_27 rfl rfl (Nat.le_of_ble_eq_true rfl) (by decide) (by decide) ?_
  refine z_istore_13 dL_law_130 rfl (by decide) ?_
  refine z_aload_1 dL_law_132 ?_
  refine z_ql (As := []) (v := .int (tp T)) (k_c_6_pushCount n S X R T hn h40) dL_law_133 zy_X6_pushCount zm_L_32 rfl rfl (Nat.le_of_ble_eq_true rfl) (by decide) (by decide) ?_
  refine z_istore_14 dL_law_136 rfl (by decide) ?_
  refine z_aload_1 dL_law_138 ?_
  refine z_ql (As := []) (v := .int (ta T)) (k_c_6_appliedCount n S X R T hn h40) dL_law_139 zy_X6_appliedCount zm_L_37 rfl rfl (Nat.le_of_ble_eq_true rfl) (by decide) (by decide) ?_
  refine z_istore_15 dL_law_142 rfl (by decide) ?_
  refine z_aload_1 dL_law_144 ?_
  refine z_own (av := [.ref 0]) (lw_sum h) dL_law_145 zy_L_sum zm_L_88 rfl (Nat.le_of_ble_eq_true rfl) (by decide) (by decide) ?_
  refine z_lstore_16 dL_law_148 rfl (by decide) ?_
  refine z_aload_3 dL_law_150 ?_
  refine z_mk (av := [.ref (115 + p)]) (k_copy (lwH_at hp) lwH_b (by rw [lwH_len]; omega)) dL_law_151 zy_L_copy zm_L_91 rfl (Nat.le_of_ble_eq_true rfl) (by decide) (by decide) lwH_b ?_ (fun v hv => by cases hv) (by rw [lwH_len, hg]; omega) (by rw [lwH_len]; omega) ?_
  · rw [lwH_len]
    exact zb_r (Or.inr (by decide)) (zb_r (Or.inl (by omega)) (zb_i (zb_r (Or.inl (by omega)) (zb_i (zb_i (zb_i (zb_i (zb_i (zb_i (zb_i (zb_i (zb_i (zb_i (zb_i (zb_i (zb_l (zb_n (zb_n (zb_n (zb_n (zb_n zb_nil)))))))))))))))))))))
  refine Z.heap lwH_app ?_
  rw [lwH_len]
  refine z_astore_18 dL_law_154 rfl (by decide) ?_
  refine z_iconst (v := 1) dL_law_156 rfl ?_
  refine z_istore_19 dL_law_157 rfl (by decide) ?_
  refine z_iload_5 dL_law_159 ?_
  refine z_bipush (v := 15) dL_law_161 rfl ?_
  refine z_iand dL_law_163 ?_
  exact Z.res (z_topi e0 K) rfl rfl
end LW2
