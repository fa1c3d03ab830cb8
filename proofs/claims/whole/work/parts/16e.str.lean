variable {sc : SC}
/-! texts: the text i is told by the number 1000000 + i, its bytes by 1000100 + i -/
section ZSTR
variable {y : MethodName} {cc : ByteArray} {nL : Nat} {ret : Option FieldType} {d mc ms pc : Nat} {ls : List (Option Value)} {st : List Value} {h : List zO} {r : zR} {h' : List zO}
theorem z_ldcStr {is i : Nat} {tx : String} {bt : List Int32} (hd : decode cc pc = .ok (.ldc is, 2)) (hstr : zStrs[i]? = some (y.cls, is, tx, bt)) (k : Z sc y cc nL ret d mc ms (pc + 2) ls (.ref (1000000 + i) :: st) h r h') : Z sc y cc nL ret d mc ms pc ls st h r h' := by
  intro l p e R s m args below meth cd H locs cells slots tc ts D dA aS ad bs A la C0 hl hP hD hS hA hAb h1 h2 h3 h4 h5 h6
  obtain ⟨k1, k2, k3, k4, k5, k6, k7⟩ := C0.2.2.2.2.2.2.2.2.2
  have hz := k l p e R s m args below meth cd H locs cells slots tc ts D dA aS ad bs A la C0 hl hP hD hS hA hAb h1 h2 h3 h4 h5 h6
  have e1 : ad (1000000 + i) = aS i := C0.2.2.2.2.2.2.2.2.1.2 i
  have e2 : (Value.ref (1000000 + i) :: st).map (zv ad) = .ref (aS i) :: st.map (zv ad) := by rw [← e1]; rfl
  rw [e2] at hz
  exact va_ldcS C0.1 C0.2.1 C0.2.2.2.1 (k7.1 i _ hstr).1 hd hz
/-- a text's bytes, out of its field -/
theorem z_strVal {idx i : Nat} {q : String × Nat × String × List Int32} (hd : decode cc pc = .ok (.getfield idx, 3)) (hstr : zStrs[i]? = some q) (hlk : Cond.fieldLink y.cls idx "java/lang/String" "value" "[B" ∈ zT) (k : Z sc y cc nL ret d mc ms (pc + 3) ls (.ref (1000100 + i) :: st) h r h') : Z sc y cc nL ret d mc ms pc ls (.ref (1000000 + i) :: st) h r h' := by
  intro l p e R s m args below meth cd H locs cells slots tc ts D dA aS ad bs A la C0 hl hP hD hS hA hAb h1 h2 h3 h4 h5 h6
  obtain ⟨k1, k2, k3, k4, k5, k6, k7⟩ := C0.2.2.2.2.2.2.2.2.2
  have hz := k l p e R s m args below meth cd H locs cells slots tc ts D dA aS ad bs A la C0 hl hP hD hS hA hAb h1 h2 h3 h4 h5 h6
  have e1 : ad (1000000 + i) = aS i := C0.2.2.2.2.2.2.2.2.1.2 i
  have e3 : ad (1000100 + i) = aS (100 + i) := by
    have := C0.2.2.2.2.2.2.2.2.1.2 (100 + i)
    rw [← this]; congr 1; omega
  have e2 : (Value.ref (1000100 + i) :: st).map (zv ad) = .ref (aS (100 + i)) :: st.map (zv ad) := by rw [← e3]; rfl
  have e4 : (Value.ref (1000000 + i) :: st).map (zv ad) = .ref (aS i) :: st.map (zv ad) := by rw [← e1]; rfl
  rw [e2] at hz
  rw [e4]
  have hkb : ∀ a : Nat, a < s.heap.size → ¬ bs ≤ a → H[a]? = s.heap[a]? := fun a ha hb => hS.2.1 a ha (fun z => hb (hAb a z))
  obtain ⟨cf, kc, fi, f, cell, g1, g2, g3, g4, g5, g6⟩ := ((k7.1 i _ hstr).2.2.2.1).kept hkb
  exact W.getf C0.1 C0.2.1 C0.2.2.2.1 (C0.2.2.2.2.1 _ hlk) g1 g2 g3 g4 (v := .ref (aS (100 + i))) g5 rfl rfl hd hz
theorem z_strCod {idx i : Nat} {q : String × Nat × String × List Int32} (hd : decode cc pc = .ok (.getfield idx, 3)) (hstr : zStrs[i]? = some q) (hlk : Cond.fieldLink y.cls idx "java/lang/String" "coder" "B" ∈ zT) (k : Z sc y cc nL ret d mc ms (pc + 3) ls (.int 0 :: st) h r h') : Z sc y cc nL ret d mc ms pc ls (.ref (1000000 + i) :: st) h r h' := by
  intro l p e R s m args below meth cd H locs cells slots tc ts D dA aS ad bs A la C0 hl hP hD hS hA hAb h1 h2 h3 h4 h5 h6
  obtain ⟨k1, k2, k3, k4, k5, k6, k7⟩ := C0.2.2.2.2.2.2.2.2.2
  have hz := k l p e R s m args below meth cd H locs cells slots tc ts D dA aS ad bs A la C0 hl hP hD hS hA hAb h1 h2 h3 h4 h5 h6
  have e1 : ad (1000000 + i) = aS i := C0.2.2.2.2.2.2.2.2.1.2 i
  have e4 : (Value.ref (1000000 + i) :: st).map (zv ad) = .ref (aS i) :: st.map (zv ad) := by rw [← e1]; rfl
  rw [e4]
  have hkb : ∀ a : Nat, a < s.heap.size → ¬ bs ≤ a → H[a]? = s.heap[a]? := fun a ha hb => hS.2.1 a ha (fun z => hb (hAb a z))
  obtain ⟨cf, kc, fi, f, cell, g1, g2, g3, g4, g5, g6⟩ := ((k7.1 i _ hstr).2.2.1).kept hkb
  exact W.getf C0.1 C0.2.1 C0.2.2.2.1 (C0.2.2.2.2.1 _ hlk) g1 g2 g3 g4 (v := .int 0) g5 rfl rfl hd hz
theorem z_strLen {i : Nat} {q : String × Nat × String × List Int32} {v : Int32} (hd : decode cc pc = .ok (.arraylength, 1)) (hstr : zStrs[i]? = some q) (hv : nI q.2.2.2.length = v) (k : Z sc y cc nL ret d mc ms (pc + 1) ls (.int v :: st) h r h') : Z sc y cc nL ret d mc ms pc ls (.ref (1000100 + i) :: st) h r h' := by
  intro l p e R s m args below meth cd H locs cells slots tc ts D dA aS ad bs A la C0 hl hP hD hS hA hAb h1 h2 h3 h4 h5 h6
  obtain ⟨k1, k2, k3, k4, k5, k6, k7⟩ := C0.2.2.2.2.2.2.2.2.2
  have hz := k l p e R s m args below meth cd H locs cells slots tc ts D dA aS ad bs A la C0 hl hP hD hS hA hAb h1 h2 h3 h4 h5 h6
  have e3 : ad (1000100 + i) = aS (100 + i) := by
    have := C0.2.2.2.2.2.2.2.2.1.2 (100 + i)
    rw [← this]; congr 1; omega
  have e2 : (Value.ref (1000100 + i) :: st).map (zv ad) = .ref (aS (100 + i)) :: st.map (zv ad) := by rw [← e3]; rfl
  rw [e2]
  exact va_tlen C0.1 C0.2.1 ((k7.1 i _ hstr).2.2.2.2.narrow hAb) hS hv hd hz
theorem z_strByte {i k9 : Nat} {q : String × Nat × String × List Int32} (hd : decode cc pc = .ok (.baload, 1)) (hstr : zStrs[i]? = some q) (hk : k9 < q.2.2.2.length) (hb : q.2.2.2.length < 2 ^ 31) (k : Z sc y cc nL ret d mc ms (pc + 1) ls (.int (q.2.2.2.getD k9 0) :: st) h r h') : Z sc y cc nL ret d mc ms pc ls (.int (nI k9) :: .ref (1000100 + i) :: st) h r h' := by
  intro l p e R s m args below meth cd H locs cells slots tc ts D dA aS ad bs A la C0 hl hP hD hS hA hAb h1 h2 h3 h4 h5 h6
  obtain ⟨k1, k2, k3, k4, k5, k6, k7⟩ := C0.2.2.2.2.2.2.2.2.2
  have hz := k l p e R s m args below meth cd H locs cells slots tc ts D dA aS ad bs A la C0 hl hP hD hS hA hAb h1 h2 h3 h4 h5 h6
  have e3 : ad (1000100 + i) = aS (100 + i) := by
    have := C0.2.2.2.2.2.2.2.2.1.2 (100 + i)
    rw [← this]; congr 1; omega
  have e2 : (Value.int (nI k9) :: Value.ref (1000100 + i) :: st).map (zv ad) = .int (nI k9) :: .ref (aS (100 + i)) :: st.map (zv ad) := by rw [← e3]; rfl
  rw [e2]
  exact va_tb C0.1 C0.2.1 ((k7.1 i _ hstr).2.2.2.2.narrow hAb) hS (vp_in_nI hk hb) (v := .int (q.2.2.2.getD k9 0)) (by rw [nI_clamp (by omega)]) hd hz
theorem z_compact {idx : Nat} (hd : decode cc pc = .ok (.getstatic idx, 3)) (hlk : Cond.fieldLink y.cls idx "java/lang/String" "COMPACT_STRINGS" "Z" ∈ zT) (k : Z sc y cc nL ret d mc ms (pc + 3) ls (.int 1 :: st) h r h') : Z sc y cc nL ret d mc ms pc ls st h r h' := by
  intro l p e R s m args below meth cd H locs cells slots tc ts D dA aS ad bs A la C0 hl hP hD hS hA hAb h1 h2 h3 h4 h5 h6
  obtain ⟨k1, k2, k3, k4, k5, k6, k7⟩ := C0.2.2.2.2.2.2.2.2.2
  exact va_gets C0.1 C0.2.1 (k7.2.1.narrow hAb) hS C0.2.2.2.1 (C0.2.2.2.2.1 _ hlk) (fun _ h9 => h9) hd
    (k l p e R s m args below meth cd H locs cells slots tc ts D dA aS ad bs A la C0 hl hP hD hS hA hAb h1 h2 h3 h4 h5 h6)
theorem z_sioobe {idx : Nat} (hd : decode cc pc = .ok (.getstatic idx, 3)) (hlk : Cond.fieldLink y.cls idx "jdk/internal/util/Preconditions" "SIOOBE_FORMATTER" "Ljava/util/function/BiFunction;" ∈ zT) (k : ∀ v : Value, (v = .null ∨ v = .ref (1000000 + 201)) → Z sc y cc nL ret d mc ms (pc + 3) ls (v :: st) h r h') : Z sc y cc nL ret d mc ms pc ls st h r h' := by
  intro l p e R s m args below meth cd H locs cells slots tc ts D dA aS ad bs A la C0 hl hP hD hS hA hAb h1 h2 h3 h4 h5 h6
  obtain ⟨k1, k2, k3, k4, k5, k6, k7⟩ := C0.2.2.2.2.2.2.2.2.2
  rcases k7.2.2.1 with hZ | hZ
  · exact va_gets C0.1 C0.2.1 (hZ.narrow hAb) hS C0.2.2.2.1 (C0.2.2.2.2.1 _ hlk) (fun _ h9 => h9) hd
      (k .null (Or.inl rfl) l p e R s m args below meth cd H locs cells slots tc ts D dA aS ad bs A la C0 hl hP hD hS hA hAb h1 h2 h3 h4 h5 h6)
  · have hz := k (.ref (1000000 + 201)) (Or.inr rfl) l p e R s m args below meth cd H locs cells slots tc ts D dA aS ad bs A la C0 hl hP hD hS hA hAb h1 h2 h3 h4 h5 h6
    have e2 : (Value.ref (1000000 + 201) :: st).map (zv ad) = .ref (aS 201) :: st.map (zv ad) := by rw [← C0.2.2.2.2.2.2.2.2.1.2 201]; rfl
    rw [e2] at hz
    exact va_gets C0.1 C0.2.1 (hZ.narrow hAb) hS C0.2.2.2.1 (C0.2.2.2.2.1 _ hlk) (fun _ h9 => h9) hd hz
variable {y2 : MethodName} {cc2 : ByteArray} {nL2 : Nat} {ret2 : Option FieldType} {d2 mc2 ms2 : Nat} {hc : List zO} {r2 : zR} {hc' : List zO} {ρ : Nat → Nat} {stk : List Value}
/-- by a text -/
theorem zRun.VT {n i idx : Nat} {As : List Value} {q : String × Nat × String × List Int32} (hM : zM sc y2 cc2 nL2 ret2 d2 mc2 ms2 (.ref (1000000 + i) :: As) hc r2 hc') (hd : decode cc pc = .ok (.invokevirtual idx, 3)) (hY : zYV y2 cc2 nL2 ret2 n) (hlk : Cond.methodLink y.cls idx y2 ∈ zT) (hn : As.length = n) (hstr : zStrs[i]? = some q) (hcl : y2.cls = "java/lang/String") (hst : stk = (As.map (zv ρ)).reverse ++ .ref (1000000 + i) :: st) (hcat : (st.map fun v => v.category).sum ≤ 8) (hd2 : d2 + 1 ≤ d) (hnL : nL2 ≤ 81) (hρ : ∀ i, ρ (1000000 + i) = 1000000 + i := by first | exact fun _ => rfl | exact fun i => if_neg (by omega)) :
    zRun sc y cc nL ret d pc h stk st y2 cc2 nL2 ret2 d2 mc2 ms2 (.ref (1000000 + i) :: As) hc r2 hc' ρ := by
  intro l p e R s m args below meth cd H locs cells slots D dA aS ad bs la C0 hP hsz hkb h1 h2 h3 h4 hpre
  obtain ⟨q1, q2, q3, q4, ⟨q5, q6, q7⟩, q8⟩ := hY
  have hts := C0.2.2.2.2.1
  have hK := C0.2.2.2.2.2.2.2.2.2
  have hcw : CallW R s args y.cls y2.cls idx y2 cc2 nL2 ret2 (Cond.code y2 cc2 nL2 ret2 :: zT) { frames := d2, cells := mc2, slots := ms2, locals := 100 * d2 } mc2 ms2 n :=
    cwV n hts (fun w hw => by
      rcases List.mem_append.mp hw with hw | hw
      · simp only [List.mem_cons, List.not_mem_nil, or_false] at hw
        rcases hw with rfl | rfl | rfl | rfl
        · exact ⟨hlk, zgood hlk⟩
        · exact ⟨q2, zgood q2⟩
        · exact ⟨q3, zgood q3⟩
        · exact ⟨q4, zgood q4⟩
      · exact zgoodIn (idx := idx) (own := y.cls) (C := y2.cls) q1 w hw) rfl rfl rfl ⟨rfl, q5, q6, q7⟩ ⟨by show d2 + 1 ≤ R.frames; omega, by show 8 + (nL2 + 11) + 100 * d2 ≤ R.locals; omega⟩
  have eS : ad (ρ (1000000 + i)) = aS i := by rw [hρ]; exact C0.2.2.2.2.2.2.2.2.1.2 i
  obtain ⟨cell, c1, c2, c3, -⟩ := (hK.2.2.2.2.2.2.1 i _ hstr).2.1.kept hkb
  have hrecv : ∃ cell : Cell, H[ad (ρ (1000000 + i))]? = some cell ∧ cell.vm.isStatics = false ∧ s.vm.findClass y2.cls = some cell.cls := ⟨cell, by rw [eS]; exact c1, c2, by rw [hcl]; exact c3⟩
  have hst2 : stk.map (zv ad) = ((As.map (zv (fun i => ad (ρ i)))).reverse ++ .ref (ad (ρ (1000000 + i))) :: st.map (zv ad)) := by
    rw [hst, List.map_append, List.map_reverse, List.map_map]
    have e3 : As.map (zv ad ∘ zv ρ) = As.map (zv (fun i => ad (ρ i))) := List.map_congr_left (fun v _ => zv_zv ad ρ v)
    rw [e3, hρ]
    rfl
  exact vx_runV (g := F0 m pc la (stk.map (zv ad))) ⟨C0.1, C0.2.1, C0.2.2.1, C0.2.2.2.1, hts⟩ (hM l D dA aS (fun i => ad (ρ i)) bs H.size (fun i => by rw [hρ]; exact C0.2.2.2.2.2.2.2.2.1.2 i)) hcw ⟨zPc_blind, hrecv, fun U hU hW => hpre U hU hW⟩ rfl (by rw [List.length_map]; exact hn) hsz hst2 (by
      have e4 : ((st.map (zv ad)).map fun v => v.category) = st.map fun v => v.category := by
        rw [List.map_map]; exact List.map_congr_left (fun v _ => zv_cat ad v)
      show 2 * 0 + _ ≤ 8
      rw [e4]; omega) hd ⟨h3, h4⟩
end ZSTR
