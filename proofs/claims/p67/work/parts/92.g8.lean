variable {sc : SC}
def FV : Nat → Int32 := fun j => ([5, -2, 7, 7, 0, 3, -1, 4, 9, -6] : List Int32).getD j 0
theorem FV_copied {cs : Cell} (c1 : ClassId) {n1 : Nat} (g : Nat → Int32) (hs : ∀ j : Nat, j < 10 → cs.slots[j]? = some (.int (FV j))) : (arrV c1 n1 (fun j => .int (g j))).storeRun 0 (cs.stretch 0 10) = arrV c1 n1 (fun j => .int (va_cpy FV g 0 0 10 j)) := by
  have e : cs.stretch 0 10 = (arrV c1 10 (fun j => Value.int (FV j))).stretch 0 10 := by
    unfold Cell.stretch
    apply List.map_congr_left
    intro i hi
    have hi' := List.mem_range.mp hi
    rw [Array.getD_eq_getD_getElem?, Array.getD_eq_getD_getElem?, arrV_read _ _ (by omega), Nat.zero_add, hs i hi']
  rw [e]
  exact va_copied (fun z => .int z) c1 c1 FV g (Nat.le_refl 10)
section ZFV
variable {y : MethodName} {cc : ByteArray} {nL : Nat} {ret : Option FieldType} {d mc ms pc : Nat} {ls : List (Option Value)} {st : List Value} {h : List zO} {r : zR} {h' : List zO}
theorem z_alenF (hd : decode cc pc = .ok (.arraylength, 1)) (k : Z sc y cc nL ret d mc ms (pc + 1) ls (.int 10 :: st) h r h') : Z sc y cc nL ret d mc ms pc ls (.ref (1000000 + 200) :: st) h r h' := by
  intro l p e R s m args below meth cd H locs cells slots tc ts D dA aS ad bs A la C0 hl hP hD hS hA hAb h1 h2 h3 h4 h5 h6
  obtain ⟨k1, k2, k3, k4, k5, k6, k7⟩ := C0.2.2.2.2.2.2.2.2.2
  have hz := k l p e R s m args below meth cd H locs cells slots tc ts D dA aS ad bs A la C0 hl hP hD hS hA hAb h1 h2 h3 h4 h5 h6
  have e2 : (Value.ref (1000000 + 200) :: st).map (zv ad) = .ref (aS 200) :: st.map (zv ad) := by rw [← C0.2.2.2.2.2.2.2.2.1.2 200]; rfl
  rw [e2]
  exact va_tlen C0.1 C0.2.1 (k7.2.2.2.2.1.1.narrow hAb) hS rfl hd hz
theorem z_copyF {a1 n1 idx : Nat} {g : Nat → Int32} (hd : decode cc pc = .ok (.invokestatic idx, 3)) (hlk : Cond.methodLink y.cls idx arraycopyName ∈ zT) (ho1 : h[a1]? = some (.inl (0, n1, .inl g))) (g5 : 10 ≤ n1) (h1 : 1 ≤ d) (hcat : (st.map fun v => v.category).sum ≤ 8)
    (k : Z sc y cc nL ret d mc ms (pc + 3) ls st (h.set a1 (.inl (0, n1, .inl (va_cpy FV g 0 0 10)))) r h') : Z sc y cc nL ret d mc ms pc ls (.int 10 :: .int 0 :: .ref a1 :: .int 0 :: .ref (1000000 + 200) :: st) h r h' := by
  intro l p e R s m args below meth cd H locs cells slots tc ts D dA aS ad bs A la C0 hl hP hD hS hA hAb h1 h2 h3 h4 h5 h6
  obtain ⟨k1, k2, hK, k4, k5, k6, k7⟩ := C0.2.2.2.2.2.2.2.2.2
  have hts := C0.2.2.2.2.1
  have e4 : ((st.map (zv ad)).map fun v => v.category) = st.map fun v => v.category := by
    rw [List.map_map]; exact List.map_congr_left (fun v _ => zv_cat ad v)
  have ha1 : (zw ad dA h)[a1]? = some (ad a1, .inl (dA 0, n1, .inl g)) := zw_get ho1
  have hnf : nativeFrameWords "java/lang/System" "arraycopy" 5 ≤ 60 := by decide +kernel
  have e2 : (Value.int 10 :: .int 0 :: .ref a1 :: .int 0 :: .ref (1000000 + 200) :: st).map (zv ad) = .int 10 :: .int 0 :: .ref (ad a1) :: .int 0 :: .ref (aS 200) :: st.map (zv ad) := by rw [← C0.2.2.2.2.2.2.2.2.1.2 200]; rfl
  rw [e2]
  intro T hT X
  obtain ⟨cs, t1, t2, t3, t4, t5, t6, t7⟩ := k7.2.2.2.2.1.1
  have hc0 : H[aS 200]? = some cs := by
    rw [hS.2.1 (aS 200) (Array.getElem?_eq_some_iff.mp t1).1 (fun z => t7 (hAb _ z))]
    exact t1
  have hc1 : H[ad a1]? = some (vp_cell (dA 0) (n1, .inl g)) := hP a1 _ ha1
  obtain ⟨-, kk1, hk1, cm1, hkk1⟩ := (hK.2 0 (dA 0, .int) rfl).1 n1 (fun j => .int (g j))
  obtain ⟨tv, kk0, hk0, cm0, hkk0⟩ := t2
  obtain ⟨vm', X', step⟩ := X.arraycopy C0.1 C0.2.2.2.1 (hts _ hlk) (hts _ zac_n) (hts _ zac_s) (hts _ zini_RJ10) (src := aS 200) (dst := ad a1) (cs := cs) (cd := vp_cell (dA 0) (n1, .inl g)) (srcPos := 0) (destPos := 0) (n := 10) (by rw [hT]; exact hc0) (by rw [hT]; exact hc1)
    (fun k9 h9 => tv k9 h9) (fun _ h => by cases h) (fun h9 => t3 h9) (fun h => by cases h) hk0 hk1 hkk0 hkk1 (by simp [refKind]) (by decide) (by decide) (by decide)
    (by show ¬ ((0 : Int32).toInt + (10 : Int32).toInt > (cs.slots.size : Int)); have q1 : (0 : Int32).toInt = 0 := by decide
        have q2 : (10 : Int32).toInt = 10 := by decide
        omega)
    (by show ¬ ((0 : Int32).toInt + (10 : Int32).toInt > ((arrV (dA 0) n1 (fun j => .int (g j))).slots.size : Int)); rw [arrV_size]; have q1 : (0 : Int32).toInt = 0 := by decide
        have q2 : (10 : Int32).toInt = 10 := by decide
        omega)
    (fun vm₁ _ i hi => by
      have hi2 : i < 10 := hi
      have e9 : cs.slots.getD ((0 : Int32).toNatClampNeg + i) .null = .int (FV i) := by
        rw [Array.getD_eq_getD_getElem?, show (0 : Int32).toNatClampNeg + i = i by rw [show (0 : Int32).toNatClampNeg = 0 from rfl]; omega, t6 i hi2]
        rfl
      refine ⟨?_, ?_⟩
      · rw [e9]; rfl
      · rw [e9]; exact trivial)
    (g := F0 m pc la (.int 10 :: .int 0 :: .ref (ad a1) :: .int 0 :: .ref (aS 200) :: st.map (zv ad))) rfl (by rw [C0.2.2.1]; exact hl.1) (rest := st.map (zv ad)) rfl (by rw [C0.2.1]; exact hd) (by omega) (by show 2 * 0 + _ + _ ≤ _; rw [e4]; omega)
  have e1 : copied cs (vp_cell (dA 0) (n1, .inl g)) 0 0 10 = vp_cell (dA 0) (n1, .inl (va_cpy FV g 0 0 10)) := FV_copied (dA 0) g t6
  rw [e1] at X' step
  have hl9 : ad a1 < H.size := (Array.getElem?_eq_some_iff.mp hc1).1
  have hheap : ((T.setVm vm').setCell (ad a1) (vp_cell (dA 0) (n1, .inl (va_cpy FV g 0 0 10)))).heap = H.setIfInBounds (ad a1) (vp_cell (dA 0) (n1, .inl (va_cpy FV g 0 0 10))) := by rw [← hT]; rfl
  have oq : ∀ q : Nat, q ≠ ad a1 → (H.setIfInBounds (ad a1) (vp_cell (dA 0) (n1, .inl (va_cpy FV g 0 0 10))))[q]? = H[q]? := fun q hq => by simp [Array.getElem?_setIfInBounds, Ne.symm hq]
  have hP1 := hP.set hD ha1 (e := .inl (dA 0, n1, .inl (va_cpy FV g 0 0 10))) (show (H.setIfInBounds (ad a1) _)[ad a1]? = some _ by simp [Array.getElem?_setIfInBounds, hl9]) oq
  have hD1 := hD.set (e := .inl (dA 0, n1, .inl (va_cpy FV g 0 0 10))) ha1
  have e9 : (ad a1, (Sum.inl (dA 0, n1, .inl (va_cpy FV g 0 0 10)) : va_E)) = (ad a1, zr ad dA (.inl (0, n1, .inl (va_cpy FV g 0 0 10)))) := rfl
  rw [e9, zw_set] at hP1 hD1
  have hz := fun locs1 hS1 => k l p e R s m args below meth cd (H.setIfInBounds (ad a1) (vp_cell (dA 0) (n1, .inl (va_cpy FV g 0 0 10)))) locs1 cells slots tc ts D dA aS ad bs A la C0 hl hP1 hD1 hS1 hA hAb h1 h2 h3 h4 h5 h6
  simp only [List.length_set] at hz
  refine Exists.elim (hz _ ?_ _ hheap X') (fun t ht => ⟨t, step t ht.1, ht.2⟩)
  refine ⟨by simp; exact hS.1, fun q g1 g2 => ?_, fun q hq => ?_⟩
  · rw [oq q (fun e => g2 (by rw [e]; exact hD.2 a1 _ ha1))]
    exact hS.2.1 q g1 g2
  · rcases List.mem_append.mp hq with h | h
    · exact hS.2.2 q h
    · obtain ⟨z, -, hz⟩ := List.mem_map.mp h
      rw [← hz]
      exact hD.2 a1 _ ha1
end ZFV
