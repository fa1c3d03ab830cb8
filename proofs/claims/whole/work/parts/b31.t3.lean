variable {sc : SC}
/-! ===== what the entry gives of the machine ===== -/
section ENT
variable {s : State} {args : Array Value}
theorem z_arr {ty : FieldType} (h : (Cond.arrayClass ty).before args s = true) (hn : ∀ C, ty ≠ .object C) : ∃ cA, ArrOfT s cA ty ∧ va_RA s cA ty := by
  obtain ⟨c, k, comp, h1, h2, h3⟩ := Cond.arrayClass_spec h
  refine ⟨c, fun n z => ⟨fun k h => (by cases h), k, h2, comp, h3⟩, ?_⟩
  cases ty with
  | object C => exact absurd rfl (hn C)
  | _ => exact h1
theorem z_arrq {C : String} (h : (Cond.arrayOver (.object C)).before args s = true) : ∃ cA, ArrOfT s cA (.object C) ∧ va_RA s cA (.object C) := by
  obtain ⟨comp, c, k, h1, h2, h3, h4, h5⟩ := Cond.arrayOver_spec h
  exact ⟨c, fun n z => ⟨fun k h => (by cases h), k, h3, comp, h4⟩, k, comp, h3, h4, h1, h5⟩
theorem zVK (hts : ∀ w ∈ lw_tbl, w.before args s = true) : ∃ (D : va_G) (dA : Nat → ClassId), va_K D vwCl (ztys dA) s := by
  have ht : ∀ w ∈ zT, w.before args s = true := fun w hw => hts w (List.mem_filter.mp hw).1
  obtain ⟨c0, i0, k0⟩ := u_known (C := RX0) (T := TX0) (N := 2) (n := 2) ht zw_in0 (ht _ zin_X0)
  obtain ⟨c1, i1, k1⟩ := u_known (C := RX1) (T := TX1) (N := 2) (n := 2) ht zw_in1 (ht _ zin_X1)
  obtain ⟨c2, i2, k2⟩ := u_known (C := RX2) (T := TX2) (N := 11) (n := 11) ht zw_in2 (ht _ zin_X2)
  obtain ⟨c3, i3, k3⟩ := u_known (C := RX3) (T := TX3) (N := 2) (n := 2) ht zw_in3 (ht _ zin_X3)
  obtain ⟨c4, i4, k4⟩ := u_known (C := RX4) (T := TX4) (N := 4) (n := 4) ht zw_in4 (ht _ zin_X4)
  obtain ⟨c5, i5, k5⟩ := u_known (C := RX5) (T := TX5) (N := 12) (n := 12) ht zw_in5 (ht _ zin_X5)
  obtain ⟨c6, i6, k6⟩ := u_known (C := RX6) (T := TX6) (N := 7) (n := 7) ht zw_in6 (ht _ zin_X6)
  obtain ⟨c7, i7, k7⟩ := u_known (C := RX7) (T := TX7) (N := 29) (n := 29) ht zw_in7 (ht _ zin_X7)
  obtain ⟨a0, x0⟩ := z_arr (ht _ zar_int) (fun _ z => by cases z)
  obtain ⟨a1, x1⟩ := z_arr (ht _ zar_long) (fun _ z => by cases z)
  obtain ⟨a2, x2⟩ := z_arr (ht _ zar_double) (fun _ z => by cases z)
  obtain ⟨a3, x3⟩ := z_arr (ht _ zar_byte) (fun _ z => by cases z)
  obtain ⟨a4, x4⟩ := z_arr (ht _ zar_char) (fun _ z => by cases z)
  obtain ⟨a5, x5⟩ := z_arrq (C := "LazyRangeTree$Tree") (hts (.arrayOver (.object "LazyRangeTree$Tree")) (by decide +kernel))
  refine ⟨(fun k => if k = 0 then c0 else if k = 1 then c1 else if k = 2 then c2 else if k = 3 then c3 else if k = 4 then c4 else if k = 5 then c5 else if k = 6 then c6 else c7, fun k => if k = 0 then i0 else if k = 1 then i1 else if k = 2 then i2 else if k = 3 then i3 else if k = 4 then i4 else if k = 5 then i5 else if k = 6 then i6 else i7), fun k => if k = 0 then a0 else if k = 1 then a1 else if k = 2 then a2 else if k = 3 then a3 else if k = 4 then a4 else a5, fun k q hq => ?_, fun k q hq => ?_⟩
  · match k, hq with
    | 0, hq => cases hq; exact k0
    | 1, hq => cases hq; exact k1
    | 2, hq => cases hq; exact k2
    | 3, hq => cases hq; exact k3
    | 4, hq => cases hq; exact k4
    | 5, hq => cases hq; exact k5
    | 6, hq => cases hq; exact k6
    | 7, hq => cases hq; exact k7
    | k + 8, hq => simp [vwCl] at hq
  · match k, hq with
    | 0, hq => cases hq; exact x0
    | 1, hq => cases hq; exact x1
    | 2, hq => cases hq; exact x2
    | 3, hq => cases hq; exact x3
    | 4, hq => cases hq; exact x4
    | 5, hq => cases hq; exact x5
    | k + 6, hq => simp [ztys] at hq
/-- what the premises say of a text -/
def zTm (q : String × Nat × String × List Int32) : Term := .string q.1 q.2.1
def zTc (q : String × Nat × String × List Int32) : List Cond := [.exactly (zTm q) "java/lang/String", .eq (.field (zTm q) "java/lang/String" "coder" "B") (.int 0), .arrayOf (.field (zTm q) "java/lang/String" "value" "[B") .byte, .eq (.length (.field (zTm q) "java/lang/String" "value" "[B")) (.int (Int32.ofNat q.2.2.2.length))] ++ (List.range q.2.2.2.length).map (fun j => .eq (.elem (.field (zTm q) "java/lang/String" "value" "[B") (.int (Int32.ofNat j))) (.int (q.2.2.2.getD j 0)))
theorem zsub {l c : List Cond} (k m : Nat) (e : (l.drop k).take m = c) : ∀ w ∈ c, w ∈ l := fun w hw => by
  rw [← e] at hw
  exact List.mem_of_mem_drop (List.mem_of_mem_take hw)
theorem zTb0 : ((flatC (Jvm.Cond.and given_1 narrow_1)).drop 68).take 12 = zTc (zStrs.getD 0 ("", 0, "", [])) := by decide +kernel
theorem zTb1 : ((flatC (Jvm.Cond.and given_1 narrow_1)).drop 80).take 10 = zTc (zStrs.getD 1 ("", 0, "", [])) := by decide +kernel
theorem zTb2 : ((flatC (Jvm.Cond.and given_1 narrow_1)).drop 90).take 10 = zTc (zStrs.getD 2 ("", 0, "", [])) := by decide +kernel
theorem zTb3 : ((flatC (Jvm.Cond.and given_1 narrow_1)).drop 100).take 7 = zTc (zStrs.getD 3 ("", 0, "", [])) := by decide +kernel
theorem zTb4 : ((flatC (Jvm.Cond.and given_1 narrow_1)).drop 107).take 10 = zTc (zStrs.getD 4 ("", 0, "", [])) := by decide +kernel
theorem zTb5 : ((flatC (Jvm.Cond.and given_1 narrow_1)).drop 117).take 8 = zTc (zStrs.getD 5 ("", 0, "", [])) := by decide +kernel
theorem zTb6 : ((flatC (Jvm.Cond.and given_1 narrow_1)).drop 125).take 10 = zTc (zStrs.getD 6 ("", 0, "", [])) := by decide +kernel
theorem zTb7 : ((flatC (Jvm.Cond.and given_1 narrow_1)).drop 135).take 10 = zTc (zStrs.getD 7 ("", 0, "", [])) := by decide +kernel
theorem zTb8 : ((flatC (Jvm.Cond.and given_1 narrow_1)).drop 145).take 10 = zTc (zStrs.getD 8 ("", 0, "", [])) := by decide +kernel
theorem zTb9 : ((flatC (Jvm.Cond.and given_1 narrow_1)).drop 155).take 45 = zTc (zStrs.getD 9 ("", 0, "", [])) := by decide +kernel
theorem zTb10 : ((flatC (Jvm.Cond.and given_1 narrow_1)).drop 200).take 26 = zTc (zStrs.getD 10 ("", 0, "", [])) := by decide +kernel
theorem zTb11 : ((flatC (Jvm.Cond.and given_1 narrow_1)).drop 226).take 35 = zTc (zStrs.getD 11 ("", 0, "", [])) := by decide +kernel
theorem zTb12 : ((flatC (Jvm.Cond.and given_1 narrow_1)).drop 261).take 29 = zTc (zStrs.getD 12 ("", 0, "", [])) := by decide +kernel
theorem zTb13 : ((flatC (Jvm.Cond.and given_1 narrow_1)).drop 290).take 36 = zTc (zStrs.getD 13 ("", 0, "", [])) := by decide +kernel
theorem zTb14 : ((flatC (Jvm.Cond.and given_1 narrow_1)).drop 326).take 25 = zTc (zStrs.getD 14 ("", 0, "", [])) := by decide +kernel
theorem zTb15 : ((flatC (Jvm.Cond.and given_1 narrow_1)).drop 351).take 22 = zTc (zStrs.getD 15 ("", 0, "", [])) := by decide +kernel
theorem zTb16 : ((flatC (Jvm.Cond.and given_1 narrow_1)).drop 373).take 25 = zTc (zStrs.getD 16 ("", 0, "", [])) := by decide +kernel
theorem zTb17 : ((flatC (Jvm.Cond.and given_1 narrow_1)).drop 398).take 29 = zTc (zStrs.getD 17 ("", 0, "", [])) := by decide +kernel
theorem zTb18 : ((flatC (Jvm.Cond.and given_1 narrow_1)).drop 427).take 25 = zTc (zStrs.getD 18 ("", 0, "", [])) := by decide +kernel
theorem zTb19 : ((flatC (Jvm.Cond.and given_1 narrow_1)).drop 452).take 84 = zTc (zStrs.getD 19 ("", 0, "", [])) := by decide +kernel
theorem zTb20 : ((flatC (Jvm.Cond.and given_1 narrow_1)).drop 536).take 12 = zTc (zStrs.getD 20 ("", 0, "", [])) := by decide +kernel
theorem zTb21 : ((flatC (Jvm.Cond.and given_1 narrow_1)).drop 549).take 10 = zTc (zStrs.getD 21 ("", 0, "", [])) := by decide +kernel
theorem zTb22 : ((flatC (Jvm.Cond.and given_1 narrow_1)).drop 560).take 7 = zTc (zStrs.getD 22 ("", 0, "", [])) := by decide +kernel
theorem zTb23 : ((flatC (Jvm.Cond.and given_1 narrow_1)).drop 568).take 10 = zTc (zStrs.getD 23 ("", 0, "", [])) := by decide +kernel
theorem zTb24 : ((flatC (Jvm.Cond.and given_1 narrow_1)).drop 579).take 8 = zTc (zStrs.getD 24 ("", 0, "", [])) := by decide +kernel
theorem zTb25 : ((flatC (Jvm.Cond.and given_1 narrow_1)).drop 588).take 10 = zTc (zStrs.getD 25 ("", 0, "", [])) := by decide +kernel
theorem zTb26 : ((flatC (Jvm.Cond.and given_1 narrow_1)).drop 599).take 10 = zTc (zStrs.getD 26 ("", 0, "", [])) := by decide +kernel
theorem zTb27 : ((flatC (Jvm.Cond.and given_1 narrow_1)).drop 610).take 10 = zTc (zStrs.getD 27 ("", 0, "", [])) := by decide +kernel
theorem zTb28 : ((flatC (Jvm.Cond.and given_1 narrow_1)).drop 621).take 10 = zTc (zStrs.getD 28 ("", 0, "", [])) := by decide +kernel
theorem zTin : ∀ (i : Nat) (q : String × Nat × String × List Int32), zStrs[i]? = some q → ∀ w ∈ zTc q, w ∈ flatC (Jvm.Cond.and given_1 narrow_1) := by
  intro i q hi
  match i, hi with
  | 0, hi => cases hi; exact zsub 68 12 zTb0
  | 1, hi => cases hi; exact zsub 80 10 zTb1
  | 2, hi => cases hi; exact zsub 90 10 zTb2
  | 3, hi => cases hi; exact zsub 100 7 zTb3
  | 4, hi => cases hi; exact zsub 107 10 zTb4
  | 5, hi => cases hi; exact zsub 117 8 zTb5
  | 6, hi => cases hi; exact zsub 125 10 zTb6
  | 7, hi => cases hi; exact zsub 135 10 zTb7
  | 8, hi => cases hi; exact zsub 145 10 zTb8
  | 9, hi => cases hi; exact zsub 155 45 zTb9
  | 10, hi => cases hi; exact zsub 200 26 zTb10
  | 11, hi => cases hi; exact zsub 226 35 zTb11
  | 12, hi => cases hi; exact zsub 261 29 zTb12
  | 13, hi => cases hi; exact zsub 290 36 zTb13
  | 14, hi => cases hi; exact zsub 326 25 zTb14
  | 15, hi => cases hi; exact zsub 351 22 zTb15
  | 16, hi => cases hi; exact zsub 373 25 zTb16
  | 17, hi => cases hi; exact zsub 398 29 zTb17
  | 18, hi => cases hi; exact zsub 427 25 zTb18
  | 19, hi => cases hi; exact zsub 452 84 zTb19
  | 20, hi => cases hi; exact zsub 536 12 zTb20
  | 21, hi => cases hi; exact zsub 549 10 zTb21
  | 22, hi => cases hi; exact zsub 560 7 zTb22
  | 23, hi => cases hi; exact zsub 568 10 zTb23
  | 24, hi => cases hi; exact zsub 579 8 zTb24
  | 25, hi => cases hi; exact zsub 588 10 zTb25
  | 26, hi => cases hi; exact zsub 599 10 zTb26
  | 27, hi => cases hi; exact zsub 610 10 zTb27
  | 28, hi => cases hi; exact zsub 621 10 zTb28
  | k + 29, hi => exact absurd ((List.getElem?_eq_some_iff.mp hi).1) (by show ¬ k + 29 < 29; omega)
theorem zTsr : ∀ q ∈ zStrs, Cond.stringRef q.1 q.2.1 q.2.2.1 ∈ lw_tbl := by decide +kernel
theorem zText {A : Nat → Prop} (hA : ∀ a : Nat, a < s.heap.size → ¬ A a) {q : String × Nat × String × List Int32} (hsr : (Cond.stringRef q.1 q.2.1 q.2.2.1).before args s = true) (hn : q.2.2.2.length < 2 ^ 31) (h : ∀ w ∈ zTc q, w.before args s = true) :
    ∃ p : Nat × Nat, (zTm q).eval args s none [] s = some (.ref p.1) ∧ va_O "java/lang/String" p.1 A s s.heap ∧ va_OF "java/lang/String" "coder" "B" (.int 0) p.1 A s s.heap ∧ va_OF "java/lang/String" "value" "[B" (.ref p.2) p.1 A s s.heap ∧ va_T .byte p.2 q.2.2.2.length (fun j => .int (q.2.2.2.getD j 0)) A s s.heap := by
  have hex : (Cond.exactly (zTm q) "java/lang/String").before args s = true := h _ (by simp [zTc])
  have hco := h (.eq (.field (zTm q) "java/lang/String" "coder" "B") (.int 0)) (by simp [zTc])
  have har := h (.arrayOf (.field (zTm q) "java/lang/String" "value" "[B") .byte) (by simp [zTc])
  have hle := h (.eq (.length (.field (zTm q) "java/lang/String" "value" "[B")) (.int (Int32.ofNat q.2.2.2.length))) (by simp [zTc])
  have hel : ∀ j : Nat, j < q.2.2.2.length → (Cond.eq (.elem (.field (zTm q) "java/lang/String" "value" "[B") (.int (Int32.ofNat j))) (.int (q.2.2.2.getD j 0))).before args s = true := fun j hj => h _ (List.mem_append_right _ (List.mem_map.mpr ⟨j, List.mem_range.mpr hj, rfl⟩))
  obtain ⟨a, c, cA, kA, q1, q2, q3, q4, q5, q6, -⟩ := Cond.exactly_spec (args := args) (first := s) (o := none) (s := s) (idx := []) (t := zTm q) (cls := "java/lang/String") hex
  obtain ⟨t, ht, hT⟩ := va_Tof (f := fun j => .int (q.2.2.2.getD j 0)) (A := A) hn har (va_eqt hle) (fun j hj => va_eqt (hel j hj)) hA
  exact ⟨(a, t), q1, ⟨cA, q3, q5, by rw [q6]; exact q2, hA a (Array.getElem?_eq_some_iff.mp q3).1⟩, vk_OFof q1 (va_eqt hco) hA, vk_OFof q1 ht hA, hT⟩
end ENT
theorem zlens : ∀ q ∈ zStrs, q.2.2.2.length < 2 ^ 31 := by decide +kernel
/-- the words of the premises that speak of statics -/
def zFVc : List Cond := (List.range 10).map (fun j => .eq (.elem (.static "LazyRangeTree" "FIRST_VALUES" "[I") (.int (Int32.ofNat j))) (.int (([5, -2, 7, 7, 0, 3, -1, 4, 9, -6] : List Int32).getD j 0)))
theorem zFVin : ∀ w ∈ zFVc, w ∈ flatC (Jvm.Cond.and given_1 narrow_1) := by decide +kernel
theorem zZKof {l : Launch} {s : State} {b L : Nat} {xs : Nat → Int32} (hst : l.stackTraces = false) (hts : ∀ w ∈ lw_tbl, w.before #[Value.ref b] s = true) (hX : va_X b L xs s s.heap) (hgv : (Jvm.Cond.and given_1 narrow_1).before #[Value.ref b] s = true) : ∃ (D : va_G) (dA : Nat → ClassId) (aS : Nat → Nat), ZK (L, xs) l D dA aS s.heap.size s ∧ aS 202 = b := by
  have hfl := flat_of_before _ hgv
  have hA : ∀ a : Nat, a < s.heap.size → ¬ (fun a => s.heap.size ≤ a) a := fun a h1 h2 => Nat.not_le.mpr h1 h2
  obtain ⟨D, dA, hK⟩ := zVK hts
  have hB : ∀ w ∈ zB, va_Nw w s := fun w hw => va_Nw.of (zBon (List.mem_filter.mp hw).2) (hts w (List.mem_filter.mp hw).1)
  have hini : ∀ C, Cond.initialized C ∈ lw_tbl → (Cond.initialized C).before #[Value.ref b] s = true := fun C h => hts _ h
  have hU := vx_Zqof (A := fun a => s.heap.size ≤ a) (hts (.laysStatic Bundle.tN "UNASSIGNED_STACK" Bundle.steD) (by decide +kernel)) (hts (.initialized Bundle.tN) (by decide +kernel)) (hfl (.isRef (.static Bundle.tN "UNASSIGNED_STACK" Bundle.steD)) (by decide +kernel)) hA
  have hN := vx_Zqof (A := fun a => s.heap.size ≤ a) (hts (.laysStatic Bundle.tN "SUPPRESSED_SENTINEL" Bundle.listD) (by decide +kernel)) (hts (.initialized Bundle.tN) (by decide +kernel)) (hfl (.isRef (.static Bundle.tN "SUPPRESSED_SENTINEL" Bundle.listD)) (by decide +kernel)) hA
  have hC := va_Zof (A := fun a => s.heap.size ≤ a) (hts (.laysStatic "java/lang/String" "COMPACT_STRINGS" "Z") (by decide +kernel)) (hts (.initialized "java/lang/String") (by decide +kernel)) (va_eqi (z := 1) (hfl (.eq (.static "java/lang/String" "COMPACT_STRINGS" "Z") (.int 1)) (by decide +kernel))) hA
  have hS := va_Zqof (A := fun a => s.heap.size ≤ a) (hts (.laysStatic "jdk/internal/util/Preconditions" "SIOOBE_FORMATTER" "Ljava/util/function/BiFunction;") (by decide +kernel)) (hts (.initialized "jdk/internal/util/Preconditions") (by decide +kernel)) (hfl (.isRef (.static "jdk/internal/util/Preconditions" "SIOOBE_FORMATTER" "Ljava/util/function/BiFunction;")) (by decide +kernel)) hA
  obtain ⟨tF9, f1, f2⟩ := va_Tof (f := fun j => .int (([5, -2, 7, 7, 0, 3, -1, 4, 9, -6] : List Int32).getD j 0)) (A := fun a => s.heap.size ≤ a) (N := 10) (by decide) (hfl (.arrayOf (.static "LazyRangeTree" "FIRST_VALUES" "[I") .int) (by decide +kernel)) (va_eqt (z := Int32.ofNat 10) (hfl (.eq (.length (.static "LazyRangeTree" "FIRST_VALUES" "[I")) (.int 10)) (by decide +kernel))) (fun j hj => va_eqt (hfl _ (zFVin _ (List.mem_map.mpr ⟨j, List.mem_range.mpr hj, rfl⟩)))) hA
  have hF := va_Zref (A := fun a => s.heap.size ≤ a) (hts (.laysStatic "LazyRangeTree" "FIRST_VALUES" "[I") (by decide +kernel)) (hts (.initialized "LazyRangeTree") (by decide +kernel)) f1 hA
  have hT : ∀ i : Nat, ∃ p : Nat × Nat, ∀ q, zStrs[i]? = some q → (zTm q).eval #[Value.ref b] s none [] s = some (.ref p.1) ∧ va_O "java/lang/String" p.1 (fun a => s.heap.size ≤ a) s s.heap ∧ va_OF "java/lang/String" "coder" "B" (.int 0) p.1 (fun a => s.heap.size ≤ a) s s.heap ∧ va_OF "java/lang/String" "value" "[B" (.ref p.2) p.1 (fun a => s.heap.size ≤ a) s s.heap ∧ va_T .byte p.2 q.2.2.2.length (fun j => .int (q.2.2.2.getD j 0)) (fun a => s.heap.size ≤ a) s s.heap := fun i => by
    cases hq : zStrs[i]? with
    | none => exact ⟨(0, 0), fun q h => by cases h⟩
    | some q =>
      have hm := List.mem_of_getElem? hq
      obtain ⟨p, hp⟩ := zText (A := fun a => s.heap.size ≤ a) hA (hts _ (zTsr q hm)) (zlens q hm) (fun w hw => hfl _ (zTin i q hq w hw))
      exact ⟨p, fun q' h => by cases h; exact hp⟩
  obtain ⟨g, hg⟩ := Classical.axiomOfChoice hT
  obtain ⟨tS, hS⟩ : ∃ tS : Nat, va_Z "jdk/internal/util/Preconditions" "SIOOBE_FORMATTER" "Ljava/util/function/BiFunction;" .null (fun a => s.heap.size ≤ a) s s.heap ∨ va_Z "jdk/internal/util/Preconditions" "SIOOBE_FORMATTER" "Ljava/util/function/BiFunction;" (.ref tS) (fun a => s.heap.size ≤ a) s s.heap := by
    rcases hS with h | ⟨t, h⟩
    · exact ⟨0, Or.inl h⟩
    · exact ⟨t, Or.inr h⟩
  obtain ⟨aS, haS⟩ : ∃ aS : Nat → Nat, aS = fun i => if i < 100 then (g i).1 else if i < 200 then (g (i - 100)).2 else if i = 200 then tF9 else if i = 201 then tS else b := ⟨_, rfl⟩
  have e200 : aS 200 = tF9 := by rw [haS]; rfl
  have e201 : aS 201 = tS := by rw [haS]; rfl
  have e202 : aS 202 = b := by rw [haS]; rfl
  refine ⟨D, dA, aS, ⟨hst, Nat.le_refl _, hK, hB, hU, hN, fun i q hi => ?_, hC, ?_, by rw [e200]; exact hF, ⟨by rw [e200]; exact f2, ?_⟩, va_AO.of (hts (.arrayOver (.object "LazyRangeTree$Tree")) (by decide +kernel)), va_Nc.of (hfl (.not (.castable "java/lang/IllegalArgumentException" "java/lang/IndexOutOfBoundsException")) (by decide +kernel)), va_Nc.of (hfl (.not (.castable "java/lang/IllegalStateException" "java/lang/IndexOutOfBoundsException")) (by decide +kernel)), va_Nc.of (hfl (.not (.castable "java/lang/IllegalStateException" "java/lang/IllegalArgumentException")) (by decide +kernel))⟩, e202⟩
  · have hlt : i < 29 := (List.getElem?_eq_some_iff.mp hi).1
    obtain ⟨g1, g2, g3, g4, g5⟩ := hg i q hi
    have ei : aS i = (g i).1 := by rw [haS]; exact if_pos (by omega)
    have ei2 : aS (100 + i) = (g i).2 := by
      rw [haS]
      show (if 100 + i < 100 then _ else if 100 + i < 200 then (g (100 + i - 100)).2 else _) = _
      rw [if_neg (by omega), if_pos (by omega), Nat.add_sub_cancel_left]
    have hm := List.mem_of_getElem? hi
    rw [ei, ei2]
    exact ⟨vk_R.of (A := #[Value.ref b]) (hts _ (zTsr q hm)) g1, g2, g3, g4, g5⟩
  · rw [e201]; exact hS
  · obtain ⟨scr, h1, h2, h3, h4, h5⟩ := hX
    rw [e202]
    exact ⟨scr, h1, h2, h3, by rw [h4]; exact Nat.le_refl _, by rw [h4], h5, hA b (Array.getElem?_eq_some_iff.mp h1).1⟩
