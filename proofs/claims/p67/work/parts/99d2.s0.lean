variable {sc : SC}
section ZSCR
variable {y : MethodName} {cc : ByteArray} {nL : Nat} {ret : Option FieldType} {d mc ms pc : Nat} {ls : List (Option Value)} {st : List Value} {h : List zO} {r : zR} {h' : List zO}
theorem z_scrLen {v : Int32} (hd : decode cc pc = .ok (.arraylength, 1)) (hv : nI sc.1 = v) (k : Z sc y cc nL ret d mc ms (pc + 1) ls (.int v :: st) h r h') : Z sc y cc nL ret d mc ms pc ls (.ref 1000202 :: st) h r h' := by
  intro l p e R s m args below meth cd H locs cells slots tc ts D dA aS ad bs A la C0 hl hP hD hS hA hAb h1 h2 h3 h4 h5 h6
  obtain ⟨k1, k2, k3, k4, k5, k6, k7⟩ := C0.2.2.2.2.2.2.2.2.2
  have hz := k l p e R s m args below meth cd H locs cells slots tc ts D dA aS ad bs A la C0 hl hP hD hS hA hAb h1 h2 h3 h4 h5 h6
  have e3 : ad 1000202 = aS 202 := C0.2.2.2.2.2.2.2.2.1.2 202
  have e2 : (Value.ref 1000202 :: st).map (zv ad) = .ref (aS 202) :: st.map (zv ad) := by rw [← e3]; rfl
  rw [e2]
  exact va_tlen C0.1 C0.2.1 (k7.2.2.2.2.1.2.narrow hAb) hS hv hd hz
theorem z_scrInt {k9 : Nat} (hd : decode cc pc = .ok (.iaload, 1)) (hk : k9 < sc.1) (hb : sc.1 < 2 ^ 31) (k : Z sc y cc nL ret d mc ms (pc + 1) ls (.int (sc.2 k9) :: st) h r h') : Z sc y cc nL ret d mc ms pc ls (.int (nI k9) :: .ref 1000202 :: st) h r h' := by
  intro l p e R s m args below meth cd H locs cells slots tc ts D dA aS ad bs A la C0 hl hP hD hS hA hAb h1 h2 h3 h4 h5 h6
  obtain ⟨k1, k2, k3, k4, k5, k6, k7⟩ := C0.2.2.2.2.2.2.2.2.2
  have hz := k l p e R s m args below meth cd H locs cells slots tc ts D dA aS ad bs A la C0 hl hP hD hS hA hAb h1 h2 h3 h4 h5 h6
  have e3 : ad 1000202 = aS 202 := C0.2.2.2.2.2.2.2.2.1.2 202
  have e2 : (Value.int (nI k9) :: Value.ref 1000202 :: st).map (zv ad) = .int (nI k9) :: .ref (aS 202) :: st.map (zv ad) := by rw [← e3]; rfl
  rw [e2]
  exact va_ti C0.1 C0.2.1 (k7.2.2.2.2.1.2.narrow hAb) hS (vp_in_nI hk hb) (v := .int (sc.2 k9)) (by rw [nI_clamp (by omega)]) hd hz
end ZSCR
