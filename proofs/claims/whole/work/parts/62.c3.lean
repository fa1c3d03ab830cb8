variable {sc : SC}

/-- an index; a node -/
def tIx (T : TS) (x : Int32) : Prop := 0 ≤ x ∧ x < tn T
def tHas (T : TS) (x : Int32) : Prop := ∃ k : Nat, x = nI k ∧ 1 ≤ k ∧ k < 128 ∧ ¬ tF T k = -1
theorem tIx_nat {n : Nat} {T : TS} {x : Int32} (hn : tn T = nI n) (h40 : n ≤ 40) (h : tIx T x) : ∃ a : Nat, x = nI a ∧ a < n := by
  have h1 : (0 : Int) ≤ x.toInt := by have := h.1; rw [Int32.le_iff_toInt_le] at this; exact this
  have h2 : x.toInt < n := by
    have := h.2
    rw [hn, Int32.lt_iff_toInt_lt, nI_toInt (by omega)] at this
    exact this
  refine ⟨x.toInt.toNat, ?_, by omega⟩
  apply Int32.toInt_inj.mp
  rw [nI_toInt (by omega)]
  omega
theorem tIx_of {n a : Nat} {T : TS} (hn : tn T = nI n) (h40 : n ≤ 40) (h : a < n) : tIx T (nI a) := by
  refine ⟨?_, ?_⟩
  · rw [Int32.le_iff_toInt_le, nI_toInt (by omega)]
    show (0 : Int) ≤ (a : Int)
    omega
  · rw [hn, Int32.lt_iff_toInt_lt, nI_toInt (by omega), nI_toInt (by omega)]
    omega
noncomputable def g_c_6_checkIndex (_n : Nat) (_k : Nat) (_S : ZS) (_X : ZS) (_R : ZS) (_T : TS) : Unit := ()
theorem k_c_6_checkIndex (n : Nat) (k : Nat) (S : ZS) (X : ZS) (R : ZS) (T : TS) (hn : tn T = nI n) (h40 : n ≤ 40) (hk : k < n) : zM sc yX6_checkIndex cX6_checkIndex 2 none 1 0 0 [.ref 0, .int (nI (k))] (qh S X R T) (.inl none) (qh S X R T) := by
  refine zM.at (ls := [some (.ref 0), some (.int (nI (k)))]) zy_X6_checkIndex.2.2.2.2.2 (Nat.le_of_ble_eq_true rfl) rfl ?_
  refine z_iload_1 dX6_checkIndex_0 ?_
  refine z_ifN_lt_f (tgt := 15) dX6_checkIndex_1 (by decide) (x := k) (by first | omega | assumption) (by omega) ?_
  refine z_iload_1 dX6_checkIndex_4 ?_
  refine z_aload_0 dX6_checkIndex_5 ?_
  refine z_get (k := 0) (v := .ref 1) dX6_checkIndex_6 rfl rfl rfl (by decide) zf_X6_10 zw_in6 ?_
  refine Z.shs (qh S X R T) (zRun.V (ρ := zsh 1) (k_size T) dX6_checkIndex_9 zy_X5_size zm_X6_99 rfl rfl rfl rfl (Nat.le_of_ble_eq_true rfl) (by decide) (by decide) (zsh_fix 1)) (zsh_inj (Nat.le_of_ble_eq_true rfl)) ⟨rfl, rfl, rfl, rfl, rfl, rfl, rfl, rfl, rfl, trivial⟩ (zlen2 9 rfl rfl) rfl rfl ?_
  refine z_topi (w := nI (n)) hn ?_
  refine z_icmpN_lt_t (tgt := 26) dX6_checkIndex_12 (by decide) (x := k) (z := n) (by first | omega | assumption) (by first | omega | assumption) (by omega) ?_
  exact z_vret dX6_checkIndex_26 rfl rfl rfl
theorem k_c_6_checkIndex_x (x : Int32) (S : ZS) (X : ZS) (R : ZS) (T : TS) (hx : ¬ tIx T x) : zM sc yX6_checkIndex cX6_checkIndex 2 none 8 1 6 [.ref 0, .int (x)] (qh S X R T) (.inr "java/lang/IndexOutOfBoundsException") (qh S X R T) := by
  refine zM.at (ls := [some (.ref 0), some (.int (x))]) zy_X6_checkIndex.2.2.2.2.2 (Nat.le_of_ble_eq_true rfl) rfl ?_
  refine z_iload_1 dX6_checkIndex_0 ?_
  refine z_if_lt (tgt := 15) dX6_checkIndex_1 (by decide) (fun c1 => ?_) (fun c1 => ?_)
  · exact z_throwSW (names := zNm) (i := 10) (by decide +kernel) zNm_fit (by decide) zcl_X6_271 zin_B rfl zat_B dX6_checkIndex_15 dX6_checkIndex_18 dX6_checkIndex_19 dX6_checkIndex_22 dX6_checkIndex_25 (by decide) (Nat.le_of_ble_eq_true rfl) (by decide) (by decide) rfl rfl
  · refine z_iload_1 dX6_checkIndex_4 ?_
    refine z_aload_0 dX6_checkIndex_5 ?_
    refine z_get (k := 0) (v := .ref 1) dX6_checkIndex_6 rfl rfl rfl (by decide) zf_X6_10 zw_in6 ?_
    refine Z.shs (qh S X R T) (zRun.V (ρ := zsh 1) (k_size T) dX6_checkIndex_9 zy_X5_size zm_X6_99 rfl rfl rfl rfl (Nat.le_of_ble_eq_true rfl) (by decide) (by decide) (zsh_fix 1)) (zsh_inj (Nat.le_of_ble_eq_true rfl)) ⟨rfl, rfl, rfl, rfl, rfl, rfl, rfl, rfl, rfl, trivial⟩ (zlen2 9 rfl rfl) rfl rfl ?_
    refine z_icmp_lt_f (tgt := 26) dX6_checkIndex_12 (by decide) (fun c => hx ⟨Int32.not_lt.mp c1, c⟩) ?_
    exact z_throwSW (names := zNm) (i := 10) (by decide +kernel) zNm_fit (by decide) zcl_X6_271 zin_B rfl zat_B dX6_checkIndex_15 dX6_checkIndex_18 dX6_checkIndex_19 dX6_checkIndex_22 dX6_checkIndex_25 (by decide) (Nat.le_of_ble_eq_true rfl) (by decide) (by decide) rfl rfl
noncomputable def g_c_6_checkRange (_n : Nat) (_a : Nat) (_b : Nat) (_S : ZS) (_X : ZS) (_R : ZS) (_T : TS) : Unit := ()
theorem k_c_6_checkRange (n : Nat) (a : Nat) (b : Nat) (S : ZS) (X : ZS) (R : ZS) (T : TS) (hn : tn T = nI n) (h40 : n ≤ 40) (hab : a ≤ b) (hbn : b < n) : zM sc yX6_checkRange cX6_checkRange 3 none 2 0 0 [.ref 0, .int (nI (a)), .int (nI (b))] (qh S X R T) (.inl none) (qh S X R T) := by
  refine zM.at (ls := [some (.ref 0), some (.int (nI (a))), some (.int (nI (b)))]) zy_X6_checkRange.2.2.2.2.2 (Nat.le_of_ble_eq_true rfl) rfl ?_
  refine z_aload_0 dX6_checkRange_0 ?_
  refine z_iload_1 dX6_checkRange_1 ?_
  refine Z.call0n (zRun.V (ρ := fun i => i) (k_c_6_checkIndex n a S X R T (by first | omega | assumption) (by first | omega | assumption) (by first | omega | assumption)) dX6_checkRange_2 zy_X6_checkIndex zm_X6_164 rfl rfl rfl rfl (Nat.le_of_ble_eq_true rfl) (by decide) (by decide)) (zlen2 14 rfl rfl) ?_
  refine z_aload_0 dX6_checkRange_5 ?_
  refine z_iload_2 dX6_checkRange_6 ?_
  refine Z.call0n (zRun.V (ρ := fun i => i) (k_c_6_checkIndex n b S X R T (by first | omega | assumption) (by first | omega | assumption) (by first | omega | assumption)) dX6_checkRange_7 zy_X6_checkIndex zm_X6_164 rfl rfl rfl rfl (Nat.le_of_ble_eq_true rfl) (by decide) (by decide)) (zlen2 14 rfl rfl) ?_
  refine z_iload_2 dX6_checkRange_10 ?_
  refine z_iload_1 dX6_checkRange_11 ?_
  refine z_icmpN_ge_t (tgt := 26) dX6_checkRange_12 (by decide) (x := b) (z := a) (by first | omega | assumption) (by first | omega | assumption) (by omega) ?_
  exact z_vret dX6_checkRange_26 rfl rfl rfl
theorem k_c_6_checkRange_xa (x : Int32) (z : Int32) (S : ZS) (X : ZS) (R : ZS) (T : TS) (hx : ¬ tIx T x) : zM sc yX6_checkRange cX6_checkRange 3 none 9 1 6 [.ref 0, .int (x), .int (z)] (qh S X R T) (.inr "java/lang/IndexOutOfBoundsException") (qh S X R T) := by
  refine zM.at (ls := [some (.ref 0), some (.int (x)), some (.int (z))]) zy_X6_checkRange.2.2.2.2.2 (Nat.le_of_ble_eq_true rfl) rfl ?_
  refine z_aload_0 dX6_checkRange_0 ?_
  refine z_iload_1 dX6_checkRange_1 ?_
  exact Z.callX0 (zRun.V (ρ := fun i => i) (k_c_6_checkIndex_x (x) S X R T (by first | omega | assumption)) dX6_checkRange_2 zy_X6_checkIndex zm_X6_164 rfl rfl rfl rfl (Nat.le_of_ble_eq_true rfl) (by decide) (by decide)) (zlen2 14 rfl rfl) rfl rfl
theorem k_c_6_checkRange_xb (n : Nat) (a : Nat) (z : Int32) (S : ZS) (X : ZS) (R : ZS) (T : TS) (hn : tn T = nI n) (h40 : n ≤ 40) (han : a < n) (hx : ¬ tIx T z) : zM sc yX6_checkRange cX6_checkRange 3 none 9 1 6 [.ref 0, .int (nI (a)), .int (z)] (qh S X R T) (.inr "java/lang/IndexOutOfBoundsException") (qh S X R T) := by
  refine zM.at (ls := [some (.ref 0), some (.int (nI (a))), some (.int (z))]) zy_X6_checkRange.2.2.2.2.2 (Nat.le_of_ble_eq_true rfl) rfl ?_
  refine z_aload_0 dX6_checkRange_0 ?_
  refine z_iload_1 dX6_checkRange_1 ?_
  refine Z.call0n (zRun.V (ρ := fun i => i) (k_c_6_checkIndex n a S X R T (by first | omega | assumption) (by first | omega | assumption) (by first | omega | assumption)) dX6_checkRange_2 zy_X6_checkIndex zm_X6_164 rfl rfl rfl rfl (Nat.le_of_ble_eq_true rfl) (by decide) (by decide)) (zlen2 14 rfl rfl) ?_
  refine z_aload_0 dX6_checkRange_5 ?_
  refine z_iload_2 dX6_checkRange_6 ?_
  exact Z.callX0 (zRun.V (ρ := fun i => i) (k_c_6_checkIndex_x (z) S X R T (by first | omega | assumption)) dX6_checkRange_7 zy_X6_checkIndex zm_X6_164 rfl rfl rfl rfl (Nat.le_of_ble_eq_true rfl) (by decide) (by decide)) (zlen2 14 rfl rfl) rfl rfl
theorem k_c_6_checkRange_xc (n : Nat) (a : Nat) (b : Nat) (S : ZS) (X : ZS) (R : ZS) (T : TS) (hn : tn T = nI n) (h40 : n ≤ 40) (han : a < n) (hbn : b < n) (hba : b < a) : zM sc yX6_checkRange cX6_checkRange 3 none 9 1 6 [.ref 0, .int (nI (a)), .int (nI (b))] (qh S X R T) (.inr "java/lang/IllegalArgumentException") (qh S X R T) := by
  refine zM.at (ls := [some (.ref 0), some (.int (nI (a))), some (.int (nI (b)))]) zy_X6_checkRange.2.2.2.2.2 (Nat.le_of_ble_eq_true rfl) rfl ?_
  refine z_aload_0 dX6_checkRange_0 ?_
  refine z_iload_1 dX6_checkRange_1 ?_
  refine Z.call0n (zRun.V (ρ := fun i => i) (k_c_6_checkIndex n a S X R T (by first | omega | assumption) (by first | omega | assumption) (by first | omega | assumption)) dX6_checkRange_2 zy_X6_checkIndex zm_X6_164 rfl rfl rfl rfl (Nat.le_of_ble_eq_true rfl) (by decide) (by decide)) (zlen2 14 rfl rfl) ?_
  refine z_aload_0 dX6_checkRange_5 ?_
  refine z_iload_2 dX6_checkRange_6 ?_
  refine Z.call0n (zRun.V (ρ := fun i => i) (k_c_6_checkIndex n b S X R T (by first | omega | assumption) (by first | omega | assumption) (by first | omega | assumption)) dX6_checkRange_7 zy_X6_checkIndex zm_X6_164 rfl rfl rfl rfl (Nat.le_of_ble_eq_true rfl) (by decide) (by decide)) (zlen2 14 rfl rfl) ?_
  refine z_iload_2 dX6_checkRange_10 ?_
  refine z_iload_1 dX6_checkRange_11 ?_
  refine z_icmpN_ge_f (tgt := 26) dX6_checkRange_12 (by decide) (x := b) (z := a) (by first | omega | assumption) (by first | omega | assumption) (by omega) ?_
  exact z_throwSW (names := zNm) (i := 11) (by decide +kernel) zNm_fit (by decide) zcl_X6_71 zin_A rfl zat_A dX6_checkRange_15 dX6_checkRange_18 dX6_checkRange_19 dX6_checkRange_22 dX6_checkRange_25 (by decide) (Nat.le_of_ble_eq_true rfl) (by decide) (by decide) rfl rfl
theorem k_c_6_checkRange_x1 (n : Nat) (x z : Int32) (S X R : ZS) (T : TS) (hn : tn T = nI n) (h40 : n ≤ 40) (hx : ¬ (tIx T x ∧ tIx T z)) : zM sc yX6_checkRange cX6_checkRange 3 none 9 1 6 [.ref 0, .int x, .int z] (qh S X R T) (.inr "java/lang/IndexOutOfBoundsException") (qh S X R T) := by
  by_cases h : tIx T x
  · obtain ⟨a, rfl, ha⟩ := tIx_nat hn h40 h
    exact k_c_6_checkRange_xb n a z S X R T hn h40 ha (fun z9 => hx ⟨h, z9⟩)
  · exact k_c_6_checkRange_xa x z S X R T h
theorem k_c_6_checkRange_x2 (n : Nat) (x z : Int32) (S X R : ZS) (T : TS) (hn : tn T = nI n) (h40 : n ≤ 40) (hx : tIx T x) (hz : tIx T z) (hzx : z < x) : zM sc yX6_checkRange cX6_checkRange 3 none 9 1 6 [.ref 0, .int x, .int z] (qh S X R T) (.inr "java/lang/IllegalArgumentException") (qh S X R T) := by
  obtain ⟨a, rfl, ha⟩ := tIx_nat hn h40 hx
  obtain ⟨b, rfl, hb⟩ := tIx_nat hn h40 hz
  exact k_c_6_checkRange_xc n a b S X R T hn h40 ha hb (by rw [Int32.lt_iff_toInt_lt, nI_toInt (by omega), nI_toInt (by omega)] at hzx; omega)
noncomputable def g_c_6_checkValue (_v : Int32) (_S : ZS) (_X : ZS) (_R : ZS) (_T : TS) : Unit := ()
theorem k_c_6_checkValue (v : Int32) (S : ZS) (X : ZS) (R : ZS) (T : TS) (hv : -9999 ≤ v ∧ v ≤ 9999) : zM sc yX6_checkValue cX6_checkValue 2 none 0 0 0 [.ref 0, .int (v)] (qh S X R T) (.inl none) (qh S X R T) := by
  refine zM.at (ls := [some (.ref 0), some (.int (v))]) zy_X6_checkValue.2.2.2.2.2 (Nat.le_of_ble_eq_true rfl) rfl ?_
  refine z_iload_1 dX6_checkValue_0 ?_
  refine z_sipush (v := (-9999)) dX6_checkValue_1 rfl ?_
  refine z_icmp_lt_f (tgt := 14) dX6_checkValue_4 (by decide) (Int32.not_lt.mpr hv.1) ?_
  refine z_iload_1 dX6_checkValue_7 ?_
  refine z_sipush (v := 9999) dX6_checkValue_8 rfl ?_
  refine z_icmp_le_t (tgt := 25) dX6_checkValue_11 (by decide) hv.2 ?_
  exact z_vret dX6_checkValue_25 rfl rfl rfl
theorem k_c_6_checkValue_x (v : Int32) (S : ZS) (X : ZS) (R : ZS) (T : TS) (hv : ¬ (-9999 ≤ v ∧ v ≤ 9999)) : zM sc yX6_checkValue cX6_checkValue 2 none 8 1 6 [.ref 0, .int (v)] (qh S X R T) (.inr "java/lang/IllegalArgumentException") (qh S X R T) := by
  refine zM.at (ls := [some (.ref 0), some (.int (v))]) zy_X6_checkValue.2.2.2.2.2 (Nat.le_of_ble_eq_true rfl) rfl ?_
  refine z_iload_1 dX6_checkValue_0 ?_
  refine z_sipush (v := (-9999)) dX6_checkValue_1 rfl ?_
  refine z_icmp_lt (tgt := 14) dX6_checkValue_4 (by decide) (fun c4 => ?_) (fun c4 => ?_)
  · exact z_throwSW (names := zNm) (i := 12) (by decide +kernel) zNm_fit (by decide) zcl_X6_71 zin_A rfl zat_A dX6_checkValue_14 dX6_checkValue_17 dX6_checkValue_18 dX6_checkValue_21 dX6_checkValue_24 (by decide) (Nat.le_of_ble_eq_true rfl) (by decide) (by decide) rfl rfl
  · refine z_iload_1 dX6_checkValue_7 ?_
    refine z_sipush (v := 9999) dX6_checkValue_8 rfl ?_
    refine z_icmp_le_f (tgt := 25) dX6_checkValue_11 (by decide) (fun c => hv ⟨Int32.not_lt.mp c4, c⟩) ?_
    exact z_throwSW (names := zNm) (i := 12) (by decide +kernel) zNm_fit (by decide) zcl_X6_71 zin_A rfl zat_A dX6_checkValue_14 dX6_checkValue_17 dX6_checkValue_18 dX6_checkValue_21 dX6_checkValue_24 (by decide) (Nat.le_of_ble_eq_true rfl) (by decide) (by decide) rfl rfl
noncomputable def g_t_hasOut (x : Int32) (_T : TS) : Bool := (if x < 1 then false else false)
theorem k_t_hasOut (x : Int32) (T : TS) (hx : ¬ (1 ≤ x ∧ x < 128)) : zM sc yX5_has cX5_has 2 (some .boolean) 0 0 0 [.ref 0, .int (x)] (th T) (.inl (some (.int (zb (g_t_hasOut x T))))) (th T) := by
  refine zM.at (ls := [some (.ref 0), some (.int (x))]) zy_X5_has.2.2.2.2.2 (Nat.le_of_ble_eq_true rfl) rfl ?_
  refine z_iload_1 dX5_has_0 ?_
  refine z_iconst (v := 1) dX5_has_1 rfl ?_
  refine z_icmp_lt (tgt := 26) dX5_has_2 (by decide) (fun c2 => ?_) (fun c2 => ?_)
  · refine z_iconst (v := 0) dX5_has_26 rfl ?_
    rw [g_t_hasOut, if_pos c2]
    exact z_iret dX5_has_27 rfl rfl rfl rfl
  · refine z_iload_1 dX5_has_5 ?_
    refine z_sipush (v := 128) dX5_has_6 rfl ?_
    refine z_icmp_ge_t (tgt := 26) dX5_has_9 (by decide) (Int32.not_lt.mp (fun c => hx ⟨Int32.not_lt.mp c2, c⟩)) ?_
    refine z_iconst (v := 0) dX5_has_26 rfl ?_
    rw [g_t_hasOut, if_neg c2]
    exact z_iret dX5_has_27 rfl rfl rfl rfl
theorem k_hasOut (T : TS) (x : Int32) (hx : ¬ (1 ≤ x ∧ x < 128)) : zM sc yX5_has cX5_has 2 (some .boolean) 0 0 0 [.ref 0, .int x] (th T) (.inl (some (.int 0))) (th T) := by
  have h := k_t_hasOut (sc := sc) x T hx
  have e : g_t_hasOut x T = false := by rw [g_t_hasOut]; split <;> rfl
  rw [e] at h
  exact h
noncomputable def g_c_6_checkNode (_k : Nat) (_S : ZS) (_X : ZS) (_R : ZS) (_T : TS) : Unit := ()
theorem k_c_6_checkNode (k : Nat) (S : ZS) (X : ZS) (R : ZS) (T : TS) (h1 : 1 ≤ k) (h2 : k < 128) (h3 : ¬ tF T k = -1) : zM sc yX6_checkNode cX6_checkNode 2 none 1 0 0 [.ref 0, .int (nI (k))] (qh S X R T) (.inl none) (qh S X R T) := by
  refine zM.at (ls := [some (.ref 0), some (.int (nI (k)))]) zy_X6_checkNode.2.2.2.2.2 (Nat.le_of_ble_eq_true rfl) rfl ?_
  refine z_aload_0 dX6_checkNode_0 ?_
  refine z_get (k := 0) (v := .ref 1) dX6_checkNode_1 rfl rfl rfl (by decide) zf_X6_10 zw_in6 ?_
  refine z_iload_1 dX6_checkNode_4 ?_
  refine Z.shs (qh S X R T) (zRun.V (ρ := zsh 1) (k_has T k (by first | omega | assumption) (by first | omega | assumption)) dX6_checkNode_5 zy_X5_has zm_X6_280 rfl rfl rfl rfl (Nat.le_of_ble_eq_true rfl) (by decide) (by decide) (zsh_fix 1)) (zsh_inj (Nat.le_of_ble_eq_true rfl)) ⟨rfl, rfl, rfl, rfl, rfl, rfl, rfl, rfl, rfl, trivial⟩ (zlen2 9 rfl rfl) rfl rfl ?_
  refine z_ifB_ne_t (tgt := 22) dX6_checkNode_8 (by decide) (decide_eq_true h3) ?_
  exact z_vret dX6_checkNode_22 rfl rfl rfl
theorem k_c_6_checkNode_xa (x : Int32) (S : ZS) (X : ZS) (R : ZS) (T : TS) (hx : ¬ (1 ≤ x ∧ x < 128)) : zM sc yX6_checkNode cX6_checkNode 2 none 8 1 6 [.ref 0, .int (x)] (qh S X R T) (.inr "java/lang/IndexOutOfBoundsException") (qh S X R T) := by
  refine zM.at (ls := [some (.ref 0), some (.int (x))]) zy_X6_checkNode.2.2.2.2.2 (Nat.le_of_ble_eq_true rfl) rfl ?_
  refine z_aload_0 dX6_checkNode_0 ?_
  refine z_get (k := 0) (v := .ref 1) dX6_checkNode_1 rfl rfl rfl (by decide) zf_X6_10 zw_in6 ?_
  refine z_iload_1 dX6_checkNode_4 ?_
  refine Z.shs (qh S X R T) (zRun.V (ρ := zsh 1) (k_hasOut T (x) (by first | omega | assumption)) dX6_checkNode_5 zy_X5_has zm_X6_280 rfl rfl rfl rfl (Nat.le_of_ble_eq_true rfl) (by decide) (by decide) (zsh_fix 1)) (zsh_inj (Nat.le_of_ble_eq_true rfl)) ⟨rfl, rfl, rfl, rfl, rfl, rfl, rfl, rfl, rfl, trivial⟩ (zlen2 9 rfl rfl) rfl rfl ?_
  refine z_if_ne_f (tgt := 22) dX6_checkNode_8 (by decide) (by decide) ?_
  exact z_throwSW (names := zNm) (i := 14) (by decide +kernel) zNm_fit (by decide) zcl_X6_271 zin_B rfl zat_B dX6_checkNode_11 dX6_checkNode_14 dX6_checkNode_15 dX6_checkNode_18 dX6_checkNode_21 (by decide) (Nat.le_of_ble_eq_true rfl) (by decide) (by decide) rfl rfl
theorem k_c_6_checkNode_xb (k : Nat) (S : ZS) (X : ZS) (R : ZS) (T : TS) (h1 : 1 ≤ k) (h2 : k < 128) (h3 : tF T k = -1) : zM sc yX6_checkNode cX6_checkNode 2 none 8 1 6 [.ref 0, .int (nI (k))] (qh S X R T) (.inr "java/lang/IndexOutOfBoundsException") (qh S X R T) := by
  refine zM.at (ls := [some (.ref 0), some (.int (nI (k)))]) zy_X6_checkNode.2.2.2.2.2 (Nat.le_of_ble_eq_true rfl) rfl ?_
  refine z_aload_0 dX6_checkNode_0 ?_
  refine z_get (k := 0) (v := .ref 1) dX6_checkNode_1 rfl rfl rfl (by decide) zf_X6_10 zw_in6 ?_
  refine z_iload_1 dX6_checkNode_4 ?_
  refine Z.shs (qh S X R T) (zRun.V (ρ := zsh 1) (k_has T k (by first | omega | assumption) (by first | omega | assumption)) dX6_checkNode_5 zy_X5_has zm_X6_280 rfl rfl rfl rfl (Nat.le_of_ble_eq_true rfl) (by decide) (by decide) (zsh_fix 1)) (zsh_inj (Nat.le_of_ble_eq_true rfl)) ⟨rfl, rfl, rfl, rfl, rfl, rfl, rfl, rfl, rfl, trivial⟩ (zlen2 9 rfl rfl) rfl rfl ?_
  refine z_ifB_ne_f (tgt := 22) dX6_checkNode_8 (by decide) (fun z => absurd h3 (of_decide_eq_true z)) ?_
  exact z_throwSW (names := zNm) (i := 14) (by decide +kernel) zNm_fit (by decide) zcl_X6_271 zin_B rfl zat_B dX6_checkNode_11 dX6_checkNode_14 dX6_checkNode_15 dX6_checkNode_18 dX6_checkNode_21 (by decide) (Nat.le_of_ble_eq_true rfl) (by decide) (by decide) rfl rfl
theorem tNode_nat {x : Int32} (h : 1 ≤ x ∧ x < 128) : ∃ k : Nat, x = nI k ∧ 1 ≤ k ∧ k < 128 := by
  have h1 : (1 : Int) ≤ x.toInt := by have := h.1; rw [Int32.le_iff_toInt_le] at this; exact this
  have h2 : x.toInt < 128 := by have := h.2; rw [Int32.lt_iff_toInt_lt] at this; exact this
  refine ⟨x.toInt.toNat, ?_, by omega, by omega⟩
  apply Int32.toInt_inj.mp
  rw [nI_toInt (by omega)]
  omega
theorem k_c_6_checkNode_x1 (x : Int32) (S X R : ZS) (T : TS) (hx : ¬ tHas T x) : zM sc yX6_checkNode cX6_checkNode 2 none 8 1 6 [.ref 0, .int x] (qh S X R T) (.inr "java/lang/IndexOutOfBoundsException") (qh S X R T) := by
  by_cases h : 1 ≤ x ∧ x < 128
  · obtain ⟨k, rfl, h1, h2⟩ := tNode_nat h
    refine k_c_6_checkNode_xb k S X R T h1 h2 ?_
    by_cases e : tF T k = -1
    · exact e
    · exact absurd ⟨k, rfl, h1, h2, e⟩ hx
  · exact k_c_6_checkNode_xa x S X R T h
noncomputable def g_c_6_totalOf_L (a : Nat) (b : Nat) : Nat → Nat → Int64 → ZS → ZS → ZS → TS → Int64
  | 0, _, x, _, _, _, _ => x
  | fu + 1, k, x, S, X, R, T => g_c_6_totalOf_L a b fu (k + 1) (x + ((tva T k).toInt64)) S X R T
theorem l_g_c_6_totalOf_L (a : Nat) (b : Nat) : ∀ (fu : Nat) (k : Nat) (x : Int64) (S : ZS) (X : ZS) (R : ZS) (T : TS) , (b < 40) → (k + fu = b + 1) → Z sc yX6_totalOf cX6_totalOf 6 (some .long) 1 0 0 5 [some (.ref 0), some (.int (nI (a))), some (.int (nI (b))), some (.long (x)), none, some (.int (nI (k)))] [] (qh S X R T) (.inl (some (.long (g_c_6_totalOf_L a b fu k x S X R T)))) (qh S X R T) := by
  intro fu
  induction fu with
  | zero =>
    intro k x S X R T h40 hk
    refine z_iload_5 dX6_totalOf_5 ?_
    refine z_iload_2 dX6_totalOf_7 ?_
    refine z_icmpN_gt_t (tgt := 30) dX6_totalOf_8 (by decide) (x := k) (z := b) (by first | omega | assumption) (by first | omega | assumption) (by omega) ?_
    refine z_lload_3 dX6_totalOf_30 ?_
    rw [g_c_6_totalOf_L]
    exact z_lret dX6_totalOf_31 rfl rfl rfl
  | succ fu ih =>
    intro k x S X R T h40 hk
    refine z_iload_5 dX6_totalOf_5 ?_
    refine z_iload_2 dX6_totalOf_7 ?_
    refine z_icmpN_gt_f (tgt := 30) dX6_totalOf_8 (by decide) (x := k) (z := b) (by first | omega | assumption) (by first | omega | assumption) (by omega) ?_
    refine z_lload_3 dX6_totalOf_11 ?_
    refine z_aload_0 dX6_totalOf_12 ?_
    refine z_get (k := 0) (v := .ref 1) dX6_totalOf_13 rfl rfl rfl (by decide) zf_X6_10 zw_in6 ?_
    refine z_iload_5 dX6_totalOf_16 ?_
    refine Z.shs (qh S X R T) (zRun.V (ρ := zsh 1) (k_valueAt T k (by first | omega | assumption)) dX6_totalOf_18 zy_X5_valueAt zm_X6_140 rfl rfl rfl rfl (Nat.le_of_ble_eq_true rfl) (by decide) (by decide) (zsh_fix 1)) (zsh_inj (Nat.le_of_ble_eq_true rfl)) ⟨rfl, rfl, rfl, rfl, rfl, rfl, rfl, rfl, rfl, trivial⟩ (zlen2 9 rfl rfl) rfl rfl ?_
    refine z_i2l dX6_totalOf_21 ?_
    refine z_ladd dX6_totalOf_22 ?_
    refine z_lstore_3 dX6_totalOf_23 rfl (by decide) ?_
    refine z_iinc_5 (v := nI (k + 1)) dX6_totalOf_24 (nI_add _ 1) rfl (by decide) ?_
    refine z_goto (tgt := 5) dX6_totalOf_27 (by decide) ?_
    rw [g_c_6_totalOf_L]
    exact ih (k + 1) (x + ((tva T k).toInt64)) S X R T (by first | omega | assumption) (by first | omega | assumption)
noncomputable def g_c_6_totalOf (a : Nat) (b : Nat) (S : ZS) (X : ZS) (R : ZS) (T : TS) : Int64 := g_c_6_totalOf_L a b (b + 1 - a) a 0 S X R T
theorem k_c_6_totalOf (a : Nat) (b : Nat) (S : ZS) (X : ZS) (R : ZS) (T : TS) (h40 : b < 40) (hab : a ≤ b + 1) : zM sc yX6_totalOf cX6_totalOf 6 (some .long) 1 0 0 [.ref 0, .int (nI (a)), .int (nI (b))] (qh S X R T) (.inl (some (.long (g_c_6_totalOf a b S X R T)))) (qh S X R T) := by
  refine zM.at (ls := [some (.ref 0), some (.int (nI (a))), some (.int (nI (b))), none, none, none]) zy_X6_totalOf.2.2.2.2.2 (Nat.le_of_ble_eq_true rfl) rfl ?_
  refine z_lconst (v := 0) dX6_totalOf_0 rfl ?_
  refine z_lstore_3 dX6_totalOf_1 rfl (by decide) ?_
  refine z_iload_1 dX6_totalOf_2 ?_
  refine z_istore_5 dX6_totalOf_3 rfl (by decide) ?_
  rw [g_c_6_totalOf]
  exact l_g_c_6_totalOf_L a b (b + 1 - a) a 0 S X R T (by first | omega | assumption) (by first | omega | assumption)
noncomputable def g_c_6_firstWith_L (a : Nat) (b : Nat) (v : Int32) : Nat → Nat → ZS → ZS → ZS → TS → Int32
  | 0, _, _, _, _, _ => (-1)
  | fu + 1, k, S, X, R, T => (if tva T k = v then nI (k) else g_c_6_firstWith_L a b v fu (k + 1) S X R T)
theorem l_g_c_6_firstWith_L (a : Nat) (b : Nat) (v : Int32) : ∀ (fu : Nat) (k : Nat) (S : ZS) (X : ZS) (R : ZS) (T : TS) , (b < 40) → (k + fu = b + 1) → Z sc yX6_firstWith cX6_firstWith 5 (some .int) 1 0 0 3 [some (.ref 0), some (.int (nI (a))), some (.int (nI (b))), some (.int (v)), some (.int (nI (k)))] [] (qh S X R T) (.inl (some (.int (g_c_6_firstWith_L a b v fu k S X R T)))) (qh S X R T) := by
  intro fu
  induction fu with
  | zero =>
    intro k S X R T h40 hk
    refine z_iload_4 dX6_firstWith_3 ?_
    refine z_iload_2 dX6_firstWith_5 ?_
    refine z_icmpN_gt_t (tgt := 31) dX6_firstWith_6 (by decide) (x := k) (z := b) (by first | omega | assumption) (by first | omega | assumption) (by omega) ?_
    refine z_iconst (v := (-1)) dX6_firstWith_31 rfl ?_
    rw [g_c_6_firstWith_L]
    exact z_iret dX6_firstWith_32 rfl (zint _) rfl rfl
  | succ fu ih =>
    intro k S X R T h40 hk
    refine z_iload_4 dX6_firstWith_3 ?_
    refine z_iload_2 dX6_firstWith_5 ?_
    refine z_icmpN_gt_f (tgt := 31) dX6_firstWith_6 (by decide) (x := k) (z := b) (by first | omega | assumption) (by first | omega | assumption) (by omega) ?_
    refine z_aload_0 dX6_firstWith_9 ?_
    refine z_get (k := 0) (v := .ref 1) dX6_firstWith_10 rfl rfl rfl (by decide) zf_X6_10 zw_in6 ?_
    refine z_iload_4 dX6_firstWith_13 ?_
    refine Z.shs (qh S X R T) (zRun.V (ρ := zsh 1) (k_valueAt T k (by first | omega | assumption)) dX6_firstWith_15 zy_X5_valueAt zm_X6_140 rfl rfl rfl rfl (Nat.le_of_ble_eq_true rfl) (by decide) (by decide) (zsh_fix 1)) (zsh_inj (Nat.le_of_ble_eq_true rfl)) ⟨rfl, rfl, rfl, rfl, rfl, rfl, rfl, rfl, rfl, trivial⟩ (zlen2 9 rfl rfl) rfl rfl ?_
    refine z_iload_3 dX6_firstWith_18 ?_
    refine z_icmp_ne (tgt := 25) dX6_firstWith_19 (by decide) (fun c19 => ?_) (fun c19 => ?_)
    · refine z_iinc_4 (v := nI (k + 1)) dX6_firstWith_25 (nI_add _ 1) rfl (by decide) ?_
      refine z_goto (tgt := 3) dX6_firstWith_28 (by decide) ?_
      rw [g_c_6_firstWith_L, if_neg c19]
      exact ih (k + 1) S X R T (by first | omega | assumption) (by first | omega | assumption)
    · refine z_iload_4 dX6_firstWith_22 ?_
      rw [g_c_6_firstWith_L, if_pos c19]
      exact z_iret dX6_firstWith_24 rfl (zint _) rfl rfl
noncomputable def g_c_6_firstWith (a : Nat) (b : Nat) (v : Int32) (S : ZS) (X : ZS) (R : ZS) (T : TS) : Int32 := g_c_6_firstWith_L a b v (b + 1 - a) a S X R T
theorem k_c_6_firstWith (a : Nat) (b : Nat) (v : Int32) (S : ZS) (X : ZS) (R : ZS) (T : TS) (h40 : b < 40) (hab : a ≤ b + 1) : zM sc yX6_firstWith cX6_firstWith 5 (some .int) 1 0 0 [.ref 0, .int (nI (a)), .int (nI (b)), .int (v)] (qh S X R T) (.inl (some (.int (g_c_6_firstWith a b v S X R T)))) (qh S X R T) := by
  refine zM.at (ls := [some (.ref 0), some (.int (nI (a))), some (.int (nI (b))), some (.int (v)), none]) zy_X6_firstWith.2.2.2.2.2 (Nat.le_of_ble_eq_true rfl) rfl ?_
  refine z_iload_1 dX6_firstWith_0 ?_
  refine z_istore_4 dX6_firstWith_1 rfl (by decide) ?_
  rw [g_c_6_firstWith]
  exact l_g_c_6_firstWith_L a b v (b + 1 - a) a S X R T (by first | omega | assumption) (by first | omega | assumption)
noncomputable def g_c_6_countOf_L (a : Nat) (b : Nat) (v : Int32) : Nat → Nat → Int32 → ZS → ZS → ZS → TS → Int32
  | 0, _, c, _, _, _, _ => c
  | fu + 1, k, c, S, X, R, T => (if tva T k = v then g_c_6_countOf_L a b v fu (k + 1) (c + 1) S X R T else g_c_6_countOf_L a b v fu (k + 1) c S X R T)
theorem l_g_c_6_countOf_L (a : Nat) (b : Nat) (v : Int32) : ∀ (fu : Nat) (k : Nat) (c : Int32) (S : ZS) (X : ZS) (R : ZS) (T : TS) , (b < 40) → (k + fu = b + 1) → Z sc yX6_countOf cX6_countOf 6 (some .int) 1 0 0 6 [some (.ref 0), some (.int (nI (a))), some (.int (nI (b))), some (.int (v)), some (.int (c)), some (.int (nI (k)))] [] (qh S X R T) (.inl (some (.int (g_c_6_countOf_L a b v fu k c S X R T)))) (qh S X R T) := by
  intro fu
  induction fu with
  | zero =>
    intro k c S X R T h40 hk
    refine z_iload_5 dX6_countOf_6 ?_
    refine z_iload_2 dX6_countOf_8 ?_
    refine z_icmpN_gt_t (tgt := 34) dX6_countOf_9 (by decide) (x := k) (z := b) (by first | omega | assumption) (by first | omega | assumption) (by omega) ?_
    refine z_iload_4 dX6_countOf_34 ?_
    rw [g_c_6_countOf_L]
    exact z_iret dX6_countOf_36 rfl (zint _) rfl rfl
  | succ fu ih =>
    intro k c S X R T h40 hk
    refine z_iload_5 dX6_countOf_6 ?_
    refine z_iload_2 dX6_countOf_8 ?_
    refine z_icmpN_gt_f (tgt := 34) dX6_countOf_9 (by decide) (x := k) (z := b) (by first | omega | assumption) (by first | omega | assumption) (by omega) ?_
    refine z_aload_0 dX6_countOf_12 ?_
    refine z_get (k := 0) (v := .ref 1) dX6_countOf_13 rfl rfl rfl (by decide) zf_X6_10 zw_in6 ?_
    refine z_iload_5 dX6_countOf_16 ?_
    refine Z.shs (qh S X R T) (zRun.V (ρ := zsh 1) (k_valueAt T k (by first | omega | assumption)) dX6_countOf_18 zy_X5_valueAt zm_X6_140 rfl rfl rfl rfl (Nat.le_of_ble_eq_true rfl) (by decide) (by decide) (zsh_fix 1)) (zsh_inj (Nat.le_of_ble_eq_true rfl)) ⟨rfl, rfl, rfl, rfl, rfl, rfl, rfl, rfl, rfl, trivial⟩ (zlen2 9 rfl rfl) rfl rfl ?_
    refine z_iload_3 dX6_countOf_21 ?_
    refine z_icmp_ne (tgt := 28) dX6_countOf_22 (by decide) (fun c22 => ?_) (fun c22 => ?_)
    · refine z_iinc_5 (v := nI (k + 1)) dX6_countOf_28 (nI_add _ 1) rfl (by decide) ?_
      refine z_goto (tgt := 6) dX6_countOf_31 (by decide) ?_
      rw [g_c_6_countOf_L, if_neg c22]
      exact ih (k + 1) c S X R T (by first | omega | assumption) (by first | omega | assumption)
    · refine z_iinc_4 (v := c + 1) dX6_countOf_25 rfl rfl (by decide) ?_
      refine z_iinc_5 (v := nI (k + 1)) dX6_countOf_28 (nI_add _ 1) rfl (by decide) ?_
      refine z_goto (tgt := 6) dX6_countOf_31 (by decide) ?_
      rw [g_c_6_countOf_L, if_pos c22]
      exact ih (k + 1) (c + 1) S X R T (by first | omega | assumption) (by first | omega | assumption)
noncomputable def g_c_6_countOf (a : Nat) (b : Nat) (v : Int32) (S : ZS) (X : ZS) (R : ZS) (T : TS) : Int32 := g_c_6_countOf_L a b v (b + 1 - a) a 0 S X R T
theorem k_c_6_countOf (a : Nat) (b : Nat) (v : Int32) (S : ZS) (X : ZS) (R : ZS) (T : TS) (h40 : b < 40) (hab : a ≤ b + 1) : zM sc yX6_countOf cX6_countOf 6 (some .int) 1 0 0 [.ref 0, .int (nI (a)), .int (nI (b)), .int (v)] (qh S X R T) (.inl (some (.int (g_c_6_countOf a b v S X R T)))) (qh S X R T) := by
  refine zM.at (ls := [some (.ref 0), some (.int (nI (a))), some (.int (nI (b))), some (.int (v)), none, none]) zy_X6_countOf.2.2.2.2.2 (Nat.le_of_ble_eq_true rfl) rfl ?_
  refine z_iconst (v := 0) dX6_countOf_0 rfl ?_
  refine z_istore_4 dX6_countOf_1 rfl (by decide) ?_
  refine z_iload_1 dX6_countOf_3 ?_
  refine z_istore_5 dX6_countOf_4 rfl (by decide) ?_
  rw [g_c_6_countOf]
  exact l_g_c_6_countOf_L a b v (b + 1 - a) a 0 S X R T (by first | omega | assumption) (by first | omega | assumption)
noncomputable def g_c_6_stepTo (k : Nat) (_S : ZS) (_X : ZS) (_R : ZS) (T : TS) : Int32 := (tva T k) - (tva T (k - 1))
theorem k_c_6_stepTo (k : Nat) (S : ZS) (X : ZS) (R : ZS) (T : TS) (h40 : k < 40) (h1 : 1 ≤ k) : zM sc yX6_stepTo cX6_stepTo 2 (some .int) 1 0 0 [.ref 0, .int (nI (k))] (qh S X R T) (.inl (some (.int (g_c_6_stepTo k S X R T)))) (qh S X R T) := by
  refine zM.at (ls := [some (.ref 0), some (.int (nI (k)))]) zy_X6_stepTo.2.2.2.2.2 (Nat.le_of_ble_eq_true rfl) rfl ?_
  refine z_aload_0 dX6_stepTo_0 ?_
  refine z_get (k := 0) (v := .ref 1) dX6_stepTo_1 rfl rfl rfl (by decide) zf_X6_10 zw_in6 ?_
  refine z_iload_1 dX6_stepTo_4 ?_
  refine Z.shs (qh S X R T) (zRun.V (ρ := zsh 1) (k_valueAt T k (by first | omega | assumption)) dX6_stepTo_5 zy_X5_valueAt zm_X6_140 rfl rfl rfl rfl (Nat.le_of_ble_eq_true rfl) (by decide) (by decide) (zsh_fix 1)) (zsh_inj (Nat.le_of_ble_eq_true rfl)) ⟨rfl, rfl, rfl, rfl, rfl, rfl, rfl, rfl, rfl, trivial⟩ (zlen2 9 rfl rfl) rfl rfl ?_
  refine z_aload_0 dX6_stepTo_8 ?_
  refine z_get (k := 0) (v := .ref 1) dX6_stepTo_9 rfl rfl rfl (by decide) zf_X6_10 zw_in6 ?_
  refine z_iload_1 dX6_stepTo_12 ?_
  refine z_iconst (v := 1) dX6_stepTo_13 rfl ?_
  refine z_isub dX6_stepTo_14 ?_
  refine z_topi (w := nI (k - 1)) (pk_sub (a := k) (b := 1) (by first | omega | assumption)) ?_
  refine Z.shs (qh S X R T) (zRun.V (ρ := zsh 1) (k_valueAt T (k - 1) (by first | omega | assumption)) dX6_stepTo_15 zy_X5_valueAt zm_X6_140 rfl rfl rfl rfl (Nat.le_of_ble_eq_true rfl) (by decide) (by decide) (zsh_fix 1)) (zsh_inj (Nat.le_of_ble_eq_true rfl)) ⟨rfl, rfl, rfl, rfl, rfl, rfl, rfl, rfl, rfl, trivial⟩ (zlen2 9 rfl rfl) rfl rfl ?_
  refine z_isub dX6_stepTo_18 ?_
  rw [g_c_6_stepTo]
  exact z_iret dX6_stepTo_19 rfl (zint _) rfl rfl
