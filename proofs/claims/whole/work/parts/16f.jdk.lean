variable {sc : SC}
/-! the JDK's own members over the claim's texts -/
theorem zStr_all : (zStrs.all fun q => decide (q.2.2.2.length < 2 ^ 31) && decide (nI q.2.2.2.length >>> ((0 : Int32) &&& 31) = nI q.2.2.2.length) && q.2.2.2.all fun b => decide (((b &&& 255).toUInt32 % 65536).toInt32 = b) && decide ((b.toUInt32 % 65536).toInt32 = b)) = true := by decide +kernel
theorem zStr_of {i : Nat} {q : String × Nat × String × List Int32} (h : zStrs[i]? = some q) : q.2.2.2.length < 2 ^ 31 ∧ nI q.2.2.2.length >>> ((0 : Int32) &&& 31) = nI q.2.2.2.length ∧ ∀ k, k < q.2.2.2.length → ((q.2.2.2.getD k 0 &&& 255).toUInt32 % 65536).toInt32 = q.2.2.2.getD k 0 ∧ ((q.2.2.2.getD k 0).toUInt32 % 65536).toInt32 = q.2.2.2.getD k 0 := by
  have h1 := List.all_eq_true.mp zStr_all q (List.mem_of_getElem? h)
  simp only [Bool.and_eq_true, decide_eq_true_eq] at h1
  refine ⟨h1.1.1, h1.1.2, fun k hk => ?_⟩
  have h2 := List.all_eq_true.mp h1.2 (q.2.2.2.getD k 0) (by rw [List.getD_eq_getElem?_getD, List.getElem?_eq_getElem hk]; exact List.getElem_mem hk)
  simp only [Bool.and_eq_true, decide_eq_true_eq] at h2
  exact h2
theorem k_preA {k n : Nat} (hk : k < n) (hn : n < 2 ^ 31) : zM sc yJ3_checkIndex_8e157 cJ3_checkIndex_8e157 3 (some .int) 0 0 0 [.int (nI k), .int (nI n), .null] [] (.inl (some (.int (nI k)))) [] := by
  refine zM.at (ls := [some (.int (nI k)), some (.int (nI n)), some (.null)]) zy_J3_checkIndex_8e157.2.2.2.2 (Nat.le_of_ble_eq_true rfl) rfl ?_
  refine z_iload_0 dJ3_checkIndex_8e157_0 ?_
  refine z_ifN_lt_f (tgt := 9) dJ3_checkIndex_8e157_1 (by decide) (x := k) (by omega) (by omega) ?_
  refine z_iload_0 dJ3_checkIndex_8e157_4 ?_
  refine z_iload_1 dJ3_checkIndex_8e157_5 ?_
  refine z_icmpN_lt_t (tgt := 16) dJ3_checkIndex_8e157_6 (by decide) (x := k) (z := n) (by omega) hn hk ?_
  refine z_iload_0 dJ3_checkIndex_8e157_16 ?_
  exact z_iret dJ3_checkIndex_8e157_17 rfl rfl rfl rfl
theorem k_preB {k n : Nat} (hk : k < n) (hn : n < 2 ^ 31) : zM sc yJ3_checkIndex_8e157 cJ3_checkIndex_8e157 3 (some .int) 0 0 0 [.int (nI k), .int (nI n), .ref (1000000 + 201)] [] (.inl (some (.int (nI k)))) [] := by
  refine zM.at (ls := [some (.int (nI k)), some (.int (nI n)), some (.ref (1000000 + 201))]) zy_J3_checkIndex_8e157.2.2.2.2 (Nat.le_of_ble_eq_true rfl) rfl ?_
  refine z_iload_0 dJ3_checkIndex_8e157_0 ?_
  refine z_ifN_lt_f (tgt := 9) dJ3_checkIndex_8e157_1 (by decide) (x := k) (by omega) (by omega) ?_
  refine z_iload_0 dJ3_checkIndex_8e157_4 ?_
  refine z_iload_1 dJ3_checkIndex_8e157_5 ?_
  refine z_icmpN_lt_t (tgt := 16) dJ3_checkIndex_8e157_6 (by decide) (x := k) (z := n) (by omega) hn hk ?_
  refine z_iload_0 dJ3_checkIndex_8e157_16 ?_
  exact z_iret dJ3_checkIndex_8e157_17 rfl rfl rfl rfl
theorem k_chk {k n : Nat} (hk : k < n) (hn : n < 2 ^ 31) : zM sc yJ0_checkIndex_df160 cJ0_checkIndex_df160 2 none 1 0 0 [.int (nI k), .int (nI n)] [] (.inl none) [] := by
  refine zM.at (ls := [some (.int (nI k)), some (.int (nI n))]) zy_J0_checkIndex_df160.2.2.2.2 (Nat.le_of_ble_eq_true rfl) rfl ?_
  refine z_iload_0 dJ0_checkIndex_df160_0 ?_
  refine z_iload_1 dJ0_checkIndex_df160_1 ?_
  refine z_sioobe dJ0_checkIndex_df160_2 zf_J0_1053 (fun v hv => ?_)
  rcases hv with rfl | rfl
  · refine Z.callE (zRun.S (ρ := fun i => i) (k_preA hk hn) dJ0_checkIndex_df160_5 zy_J3_checkIndex_8e157 zm_J0_1059 rfl rfl (Nat.le_of_ble_eq_true rfl) (by decide) (by decide)) ?_
    refine z_pop dJ0_checkIndex_df160_8 rfl ?_
    exact z_vret dJ0_checkIndex_df160_9 rfl rfl rfl
  · refine Z.callE (zRun.S (ρ := fun i => i) (k_preB hk hn) dJ0_checkIndex_df160_5 zy_J3_checkIndex_8e157 zm_J0_1059 rfl rfl (Nat.le_of_ble_eq_true rfl) (by decide) (by decide)) ?_
    refine z_pop dJ0_checkIndex_df160_8 rfl ?_
    exact z_vret dJ0_checkIndex_df160_9 rfl rfl rfl
theorem Z.callEn {y : MethodName} {cc : ByteArray} {nL : Nat} {ret : Option FieldType} {d mc ms pc : Nat} {ls : List (Option Value)} {st : List Value} {h : List zO} {r : zR} {h' : List zO} {y2 : MethodName} {cc2 : ByteArray} {nL2 : Nat} {ret2 : Option FieldType} {d2 : Nat} {av : List Value} {stk : List Value} {ρ : Nat → Nat} (g : zRun sc y cc nL ret d pc h stk st y2 cc2 nL2 ret2 d2 0 0 av [] (.inl none) [] ρ)
    (k : Z sc y cc nL ret d mc ms (pc + 3) ls st h r h') : Z sc y cc nL ret d mc ms pc ls stk h r h' :=
  Z.call g trivial (fun i _ hi => by simp at hi) rfl (by show Z sc y cc nL ret d mc ms (pc + 3) ls st h r h'; exact k)
theorem zchar {b : Int32} (h : (b.toUInt32 % 65536).toInt32 = b) : narrow .char (.int b) = .int b := by
  have e : narrow .char (.int b) = .int (b.toUInt32 % 65536).toInt32 := rfl
  rw [e, h]
theorem k_lat {i k : Nat} {q : String × Nat × String × List Int32} (hq : zStrs[i]? = some q) (hk : k < q.2.2.2.length) : zM sc yJ1_charAt_3b067 cJ1_charAt_3b067 2 (some .char) 2 0 0 [.ref (1000100 + i), .int (nI k)] [] (.inl (some (.int (q.2.2.2.getD k 0)))) [] := by
  obtain ⟨g1, g2, g3⟩ := zStr_of hq
  refine zM.at (ls := [some (.ref (1000100 + i)), some (.int (nI k))]) zy_J1_charAt_3b067.2.2.2.2 (Nat.le_of_ble_eq_true rfl) rfl ?_
  refine z_iload_1 dJ1_charAt_3b067_0 ?_
  refine z_aload_0 dJ1_charAt_3b067_1 ?_
  refine z_strLen (v := nI q.2.2.2.length) dJ1_charAt_3b067_2 hq rfl ?_
  refine Z.callEn (zRun.S (ρ := fun i => i) (k_chk hk g1) dJ1_charAt_3b067_3 zy_J0_checkIndex_df160 zm_J1_9 rfl rfl (Nat.le_of_ble_eq_true rfl) (by decide) (by decide)) ?_
  refine z_aload_0 dJ1_charAt_3b067_6 ?_
  refine z_iload_1 dJ1_charAt_3b067_7 ?_
  refine z_strByte (k9 := k) dJ1_charAt_3b067_8 hq hk g1 ?_
  refine z_sipush (v := 255) dJ1_charAt_3b067_9 rfl ?_
  refine z_iand dJ1_charAt_3b067_12 ?_
  refine z_i2c dJ1_charAt_3b067_13 ?_
  refine z_topi (w := q.2.2.2.getD k 0) (g3 k hk).1 ?_
  exact z_iret dJ1_charAt_3b067_14 rfl (zchar (g3 k hk).2) rfl rfl
theorem k_coder {i : Nat} {q : String × Nat × String × List Int32} (hq : zStrs[i]? = some q) : zM sc yJ0_coder_7d493 cJ0_coder_7d493 1 (some .byte) 0 0 0 [.ref (1000000 + i)] [] (.inl (some (.int 0))) [] := by
  refine zM.at (ls := [some (.ref (1000000 + i))]) zy_J0_coder_7d493.2.2.2.2.2 (Nat.le_of_ble_eq_true rfl) rfl ?_
  refine z_compact dJ0_coder_7d493_0 zf_J0_38 ?_
  refine z_if_eq_f 13 dJ0_coder_7d493_3 (by decide) (by decide) ?_
  refine z_aload_0 dJ0_coder_7d493_6 ?_
  refine z_strCod dJ0_coder_7d493_7 hq zf_J0_15 ?_
  refine z_goto (tgt := 14) dJ0_coder_7d493_10 (by decide) ?_
  exact z_iret dJ0_coder_7d493_14 rfl rfl rfl rfl
theorem k_latin {i : Nat} {q : String × Nat × String × List Int32} (hq : zStrs[i]? = some q) : zM sc yJ0_isLatin1_aae02 cJ0_isLatin1_aae02 1 (some .boolean) 0 0 0 [.ref (1000000 + i)] [] (.inl (some (.int 1))) [] := by
  refine zM.at (ls := [some (.ref (1000000 + i))]) zy_J0_isLatin1_aae02.2.2.2.2.2 (Nat.le_of_ble_eq_true rfl) rfl ?_
  refine z_compact dJ0_isLatin1_aae02_0 zf_J0_38 ?_
  refine z_if_eq_f 17 dJ0_isLatin1_aae02_3 (by decide) (by decide) ?_
  refine z_aload_0 dJ0_isLatin1_aae02_6 ?_
  refine z_strCod dJ0_isLatin1_aae02_7 hq zf_J0_15 ?_
  refine z_if_ne_f 17 dJ0_isLatin1_aae02_10 (by decide) rfl ?_
  refine z_iconst (v := 1) dJ0_isLatin1_aae02_13 rfl ?_
  refine z_goto (tgt := 18) dJ0_isLatin1_aae02_14 (by decide) ?_
  exact z_iret dJ0_isLatin1_aae02_18 rfl rfl rfl rfl
theorem k_slen {i : Nat} {q : String × Nat × String × List Int32} (hq : zStrs[i]? = some q) : zM sc yJ0_length_8abf5 cJ0_length_8abf5 1 (some .int) 1 0 0 [.ref (1000000 + i)] [] (.inl (some (.int (nI q.2.2.2.length)))) [] := by
  obtain ⟨g1, g2, g3⟩ := zStr_of hq
  refine zM.at (ls := [some (.ref (1000000 + i))]) zy_J0_length_8abf5.2.2.2.2.2 (Nat.le_of_ble_eq_true rfl) rfl ?_
  refine z_aload_0 dJ0_length_8abf5_0 ?_
  refine z_strVal dJ0_length_8abf5_1 hq zf_J0_9 ?_
  refine z_strLen (v := nI q.2.2.2.length) dJ0_length_8abf5_4 hq rfl ?_
  refine z_aload_0 dJ0_length_8abf5_5 ?_
  refine Z.callE (zRun.VT (ρ := fun i => i) (k_coder hq) dJ0_length_8abf5_6 zy_J0_coder_7d493 zm_J0_335 rfl hq rfl rfl (Nat.le_of_ble_eq_true rfl) (by decide) (by decide)) ?_
  refine z_ishr dJ0_length_8abf5_9 ?_
  refine z_topi (w := nI q.2.2.2.length) g2 ?_
  exact z_iret dJ0_length_8abf5_10 rfl rfl rfl rfl
theorem k_schar {i k : Nat} {q : String × Nat × String × List Int32} (hq : zStrs[i]? = some q) (hk : k < q.2.2.2.length) : zM sc yJ0_charAt_5068e cJ0_charAt_5068e 2 (some .char) 3 0 0 [.ref (1000000 + i), .int (nI k)] [] (.inl (some (.int (q.2.2.2.getD k 0)))) [] := by
  obtain ⟨g1, g2, g3⟩ := zStr_of hq
  refine zM.at (ls := [some (.ref (1000000 + i)), some (.int (nI k))]) zy_J0_charAt_5068e.2.2.2.2.2 (Nat.le_of_ble_eq_true rfl) rfl ?_
  refine z_aload_0 dJ0_charAt_5068e_0 ?_
  refine Z.callE (zRun.VT (ρ := fun i => i) (k_latin hq) dJ0_charAt_5068e_1 zy_J0_isLatin1_aae02 zm_J0_492 rfl hq rfl rfl (Nat.le_of_ble_eq_true rfl) (by decide) (by decide)) ?_
  refine z_if_eq_f 16 dJ0_charAt_5068e_4 (by decide) (by decide) ?_
  refine z_aload_0 dJ0_charAt_5068e_7 ?_
  refine z_strVal dJ0_charAt_5068e_8 hq zf_J0_9 ?_
  refine z_iload_1 dJ0_charAt_5068e_11 ?_
  refine Z.callE (zRun.S (ρ := fun i => i) (k_lat hq hk) dJ0_charAt_5068e_12 zy_J1_charAt_3b067 zm_J0_495 rfl rfl (Nat.le_of_ble_eq_true rfl) (by decide) (by decide)) ?_
  exact z_iret dJ0_charAt_5068e_15 rfl (zchar (g3 k hk).2) rfl rfl
/-- the bytes of the text i -/
def zby (i : Nat) : List Int32 := match zStrs[i]? with
  | some q => q.2.2.2
  | none => []
theorem zStr_at {i : Nat} (hi : i < 29) : zStrs[i]? = some (zStrs[i]'hi) := List.getElem?_eq_getElem hi
theorem zby_at {i : Nat} (hi : i < 29) : zby i = (zStrs[i]'hi).2.2.2 := by rw [zby, zStr_at hi]
theorem k_slenT {i : Nat} (hi : i < 29) : zM sc yJ0_length_8abf5 cJ0_length_8abf5 1 (some .int) 1 0 0 [.ref (1000000 + i)] [] (.inl (some (.int (nI (zby i).length)))) [] := by
  rw [zby_at hi]; exact k_slen (zStr_at hi)
theorem k_scharT {i k : Nat} (hi : i < 29) (hk : k < (zby i).length) : zM sc yJ0_charAt_5068e cJ0_charAt_5068e 2 (some .char) 3 0 0 [.ref (1000000 + i), .int (nI k)] [] (.inl (some (.int ((zby i).getD k 0)))) [] := by
  rw [zby_at hi] at hk ⊢; exact k_schar (zStr_at hi) hk
theorem zby_all : ((List.range 29).all fun i => decide ((zby i).length < 100)) = true := by decide +kernel
theorem zby_len {i : Nat} (hi : i < 29) : (zby i).length < 100 := by
  have h := List.all_eq_true.mp zby_all i (List.mem_range.mpr hi)
  exact decide_eq_true_eq.mp h
