variable {sc : SC}
section ENT
variable {s : State} {args : Array Value}
theorem z_arr {ty : FieldType} (h : (Cond.arrayClass ty).before args s = true) (hn : ∀ C, ty ≠ .object C) : ∃ cA, ArrOfT s cA ty ∧ va_RA s cA ty := by
  obtain ⟨c, k, comp, h1, h2, h3⟩ := Cond.arrayClass_spec h
  refine ⟨c, fun n z => ⟨fun k h => (by cases h), k, h2, comp, h3⟩, ?_⟩
  cases ty with
  | object C => exact absurd rfl (hn C)
  | _ => exact h1
theorem z_arrq {C : String} (h : (Cond.arrayOver (.object C)).before args s = true) : ∃ cA, ArrOfT s cA (.object C) ∧ va_RA s cA (.object C) := by
  obtain ⟨comp, c, k, h1, h2, h3, h4, h5⟩ := Cond.arrayOver_spec h
  exact ⟨c, fun n z => ⟨fun k h => (by cases h), k, h3, comp, h4⟩, k, comp, h3, h4, h1, h5⟩
theorem zVK (hts : ∀ w ∈ lw_tbl, w.before args s = true) : ∃ (D : va_G) (dA : Nat → ClassId), va_K D vwCl (ztys dA) s := by
  have ht : ∀ w ∈ zT, w.before args s = true := fun w hw => hts w (List.mem_filter.mp hw).1
  obtain ⟨c0, i0, k0⟩ := u_known (C := RX0) (T := TX0) (N := 2) (n := 2) ht zw_in0 (ht _ zin_X0)
  obtain ⟨c1, i1, k1⟩ := u_known (C := RX1) (T := TX1) (N := 2) (n := 2) ht zw_in1 (ht _ zin_X1)
  obtain ⟨c2, i2, k2⟩ := u_known (C := RX2) (T := TX2) (N := 11) (n := 11) ht zw_in2 (ht _ zin_X2)
  obtain ⟨c3, i3, k3⟩ := u_known (C := RX3) (T := TX3) (N := 2) (n := 2) ht zw_in3 (ht _ zin_X3)
  obtain ⟨c4, i4, k4⟩ := u_known (C := RX4) (T := TX4) (N := 4) (n := 4) ht zw_in4 (ht _ zin_X4)
  obtain ⟨c5, i5, k5⟩ := u_known (C := RX5) (T := TX5) (N := 12) (n := 12) ht zw_in5 (ht _ zin_X5)
  obtain ⟨c6, i6, k6⟩ := u_known (C := RX6) (T := TX6) (N := 7) (n := 7) ht zw_in6 (ht _ zin_X6)
  obtain ⟨a0, x0⟩ := z_arr (ht _ zar_int) (fun _ z => by cases z)
  obtain ⟨a1, x1⟩ := z_arr (ht _ zar_long) (fun _ z => by cases z)
  obtain ⟨a3, x3⟩ := z_arr (ht _ zar_byte) (fun _ z => by cases z)
  obtain ⟨a5, x5⟩ := z_arrq (C := "LazyRangeTree$Tree") (hts (.arrayOver (.object "LazyRangeTree$Tree")) (by decide +kernel))
  refine ⟨(fun k => if k = 0 then c0 else if k = 1 then c1 else if k = 2 then c2 else if k = 3 then c3 else if k = 4 then c4 else if k = 5 then c5 else c6, fun k => if k = 0 then i0 else if k = 1 then i1 else if k = 2 then i2 else if k = 3 then i3 else if k = 4 then i4 else if k = 5 then i5 else i6), fun k => if k = 0 then a0 else if k = 1 then a1 else if k = 2 then a0 else if k = 3 then a3 else if k = 4 then a0 else a5, fun k q hq => ?_, fun k q hq => ?_⟩
  · match k, hq with
    | 0, hq => cases hq; exact k0
    | 1, hq => cases hq; exact k1
    | 2, hq => cases hq; exact k2
    | 3, hq => cases hq; exact k3
    | 4, hq => cases hq; exact k4
    | 5, hq => cases hq; exact k5
    | 6, hq => cases hq; exact k6
    | k + 7, hq => simp [vwCl] at hq
  · match k, hq with
    | 0, hq => cases hq; exact x0
    | 1, hq => cases hq; exact x1
    | 2, hq => cases hq; exact x0
    | 3, hq => cases hq; exact x3
    | 4, hq => cases hq; exact x0
    | 5, hq => cases hq; exact x5
    | k + 6, hq => simp [ztys] at hq
end ENT
def zFVc : List Cond := (List.range 10).map (fun j => .eq (.elem (.static "LazyRangeTree" "FIRST_VALUES" "[I") (.int (Int32.ofNat j))) (.int (([5, -2, 7, 7, 0, 3, -1, 4, 9, -6] : List Int32).getD j 0)))
theorem zFVin : ∀ w ∈ zFVc, w ∈ flatC (Jvm.Cond.and given_1 narrow_1) := by decide +kernel
theorem zZKof {l : Launch} {s : State} {b L : Nat} {xs : Nat → Int32} (hst : l.stackTraces = false) (hts : ∀ w ∈ lw_tbl, w.before #[Value.ref b] s = true) (hX : va_X b L xs s s.heap) (hgv : (Jvm.Cond.and given_1 narrow_1).before #[Value.ref b] s = true) : ∃ (D : va_G) (dA : Nat → ClassId) (aS : Nat → Nat), ZK (L, xs) l D dA aS s.heap.size s ∧ aS 202 = b := by
  have hfl := flat_of_before _ hgv
  have hA : ∀ a : Nat, a < s.heap.size → ¬ (fun a => s.heap.size ≤ a) a := fun a h1 h2 => Nat.not_le.mpr h1 h2
  obtain ⟨D, dA, hK⟩ := zVK hts
  have hB : ∀ w ∈ zB, va_Nw w s := fun w hw => va_Nw.of (zBon (List.mem_filter.mp hw).2) (hts w (List.mem_filter.mp hw).1)
  have hU := vx_Zqof (A := fun a => s.heap.size ≤ a) (hts (.laysStatic Bundle.tN "UNASSIGNED_STACK" Bundle.steD) (by decide +kernel)) (hts (.initialized Bundle.tN) (by decide +kernel)) (hfl (.isRef (.static Bundle.tN "UNASSIGNED_STACK" Bundle.steD)) (by decide +kernel)) hA
  have hN := vx_Zqof (A := fun a => s.heap.size ≤ a) (hts (.laysStatic Bundle.tN "SUPPRESSED_SENTINEL" Bundle.listD) (by decide +kernel)) (hts (.initialized Bundle.tN) (by decide +kernel)) (hfl (.isRef (.static Bundle.tN "SUPPRESSED_SENTINEL" Bundle.listD)) (by decide +kernel)) hA
  obtain ⟨tF9, f1, f2⟩ := va_Tof (f := fun j => .int (([5, -2, 7, 7, 0, 3, -1, 4, 9, -6] : List Int32).getD j 0)) (A := fun a => s.heap.size ≤ a) (N := 10) (by decide) (hfl (.arrayOf (.static "LazyRangeTree" "FIRST_VALUES" "[I") .int) (by decide +kernel)) (va_eqt (z := Int32.ofNat 10) (hfl (.eq (.length (.static "LazyRangeTree" "FIRST_VALUES" "[I")) (.int 10)) (by decide +kernel))) (fun j hj => va_eqt (hfl _ (zFVin _ (List.mem_map.mpr ⟨j, List.mem_range.mpr hj, rfl⟩)))) hA
  have hF := va_Zref (A := fun a => s.heap.size ≤ a) (hts (.laysStatic "LazyRangeTree" "FIRST_VALUES" "[I") (by decide +kernel)) (hts (.initialized "LazyRangeTree") (by decide +kernel)) f1 hA
  obtain ⟨aS, haS⟩ : ∃ aS : Nat → Nat, aS = fun i => if i = 200 then tF9 else b := ⟨_, rfl⟩
  have e200 : aS 200 = tF9 := by rw [haS]; rfl
  have e202 : aS 202 = b := by rw [haS]; rfl
  refine ⟨D, dA, aS, ⟨hst, Nat.le_refl _, hK, hB, hU, hN, trivial, trivial, trivial, by rw [e200]; exact hF, ⟨by rw [e200]; exact f2, ?_⟩, va_AO.of (hts (.arrayOver (.object "LazyRangeTree$Tree")) (by decide +kernel)), trivial⟩, e202⟩
  obtain ⟨scr, h1, h2, h3, h4, h5⟩ := hX
  rw [e202]
  exact ⟨scr, h1, h2, h3, by rw [h4]; exact Nat.le_refl _, by rw [h4], h5, hA b (Array.getElem?_eq_some_iff.mp h1).1⟩
