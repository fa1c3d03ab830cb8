variable {sc : SC}
section ZIN
variable {y : MethodName} {cc : ByteArray} {nL : Nat} {ret : Option FieldType} {d mc ms pc : Nat} {ls : List (Option Value)} {st : List Value} {h : List zO} {r : zR} {h' : List zO}
variable {y2 : MethodName} {cc2 : ByteArray} {nL2 : Nat} {d2 mc2 ms2 : Nat} {hc hc' : List zO}
theorem zRun.IN {n idx b : Nat} {host : String} {As : List Value} {ρ : Nat → Nat} {r2 : zR} {stk : List Value} (hM : zM sc y2 cc2 nL2 none d2 mc2 ms2 (.ref b :: As) hc r2 hc') (hd : decode cc pc = .ok (.invokespecial idx, 3)) (hY : zYI y2 cc2 nL2 n) (hlk : Cond.methodLinkNest y.cls idx y2 host ∈ zB) (hn : As.length = n) (hst : stk = (As.map (zv ρ)).reverse ++ .ref (ρ b) :: st) (hcat : (st.map fun v => v.category).sum ≤ 8) (hd2 : d2 + 1 ≤ d) (hnL : nL2 ≤ 61) (hρ : ∀ i, ρ (1000000 + i) = 1000000 + i) :
    zRun sc y cc nL ret d pc h stk st y2 cc2 nL2 none d2 mc2 ms2 (.ref b :: As) hc r2 hc' ρ := by
  intro l p e R s m args below meth cd H locs cells slots D dA aS ad bs la C0 hP hsz hkb h1 h2 h3 h4 hpre
  obtain ⟨q1, q2, q3, q4, ⟨q5, q6, q7⟩, q8⟩ := hY
  have hts := C0.2.2.2.2.1
  have hK := C0.2.2.2.2.2.2.2.2.2
  have hcw := va_cnB (own := y.cls) (host := host) (index := idx) (maxL := nL2) (mc := mc2) (ms := ms2) (y := y2) (bytes := cc2) (ret := none) (ws := Cond.code y2 cc2 nL2 none :: zT) (rm := { frames := d2, cells := mc2, slots := ms2, locals := 80 * d2 }) (R := R) n hts (fun w hw => zgoodIn (idx := idx) (own := y.cls) (C := y2.cls) q1 w hw) rfl rfl rfl (hK.2.2.2.1 _ hlk) (hts _ q4) ⟨q5, q6, q7⟩ ⟨by show d2 + 1 ≤ R.frames; omega, by show 8 + (nL2 + 11) + 80 * d2 ≤ R.locals; omega⟩
  have hst2 : stk.map (zv ad) = ((As.map (zv (fun i => ad (ρ i)))).reverse ++ .ref (ad (ρ b)) :: st.map (zv ad)) := by
    rw [hst, List.map_append, List.map_reverse, List.map_map]
    have e3 : As.map (zv ad ∘ zv ρ) = As.map (zv (fun i => ad (ρ i))) := List.map_congr_left (fun v _ => zv_zv ad ρ v)
    rw [e3]
    rfl
  exact vx_runIN (g := F0 m pc la (stk.map (zv ad))) ⟨C0.1, C0.2.1, C0.2.2.1, C0.2.2.2.1, hts⟩ (hM l D dA aS (fun i => ad (ρ i)) bs H.size (fun i => by rw [hρ]; exact C0.2.2.2.2.2.2.2.2.1.2 i)) ⟨hcw, q3, hts _ q2⟩ ⟨zPc_blind, fun U hU hW => hpre U hU hW⟩ rfl (by rw [List.length_map]; exact hn) hsz hst2 (by
      have e4 : ((st.map (zv ad)).map fun v => v.category) = st.map fun v => v.category := by
        rw [List.map_map]; exact List.map_congr_left (fun v _ => zv_cat ad v)
      show 2 * 0 + _ ≤ 8
      rw [e4]; omega) hd ⟨h3, h4⟩
theorem z_first {idx : Nat} (hd : decode cc pc = .ok (.getstatic idx, 3)) (hlk : Cond.fieldLink y.cls idx "LazyRangeTree" "FIRST_VALUES" "[I" ∈ zT) (k : Z sc y cc nL ret d mc ms (pc + 3) ls (.ref (1000000 + 200) :: st) h r h') : Z sc y cc nL ret d mc ms pc ls st h r h' := by
  intro l p e R s m args below meth cd H locs cells slots tc ts D dA aS ad bs A la C0 hl hP hD hS hA hAb h1 h2 h3 h4 h5 h6
  obtain ⟨k1, k2, k3, k4, k5, k6, k7⟩ := C0.2.2.2.2.2.2.2.2.2
  have hz := k l p e R s m args below meth cd H locs cells slots tc ts D dA aS ad bs A la C0 hl hP hD hS hA hAb h1 h2 h3 h4 h5 h6
  have e2 : (Value.ref (1000000 + 200) :: st).map (zv ad) = .ref (aS 200) :: st.map (zv ad) := by rw [← C0.2.2.2.2.2.2.2.2.1.2 200]; rfl
  rw [e2] at hz
  exact va_gets C0.1 C0.2.1 (k7.2.2.2.1.narrow hAb) hS C0.2.2.2.1 (C0.2.2.2.2.1 _ hlk) (fun _ h9 => h9) hd hz
theorem z_newq {idx N : Nat} {n : Int32} (hd : decode cc pc = .ok (.anewarray idx, 3)) (hk : Cond.classLink y.cls idx "LazyRangeTree$Tree" ∈ zT) (hn : ¬ n < 0) (hnN : n.toNatClampNeg = N) (hby : N * 4 ≤ 536870912)
    (hb : zbh h.length h) (hl : ∀ v, some v ∈ ls → zbw h.length v) (hs : ∀ v ∈ st, zbw h.length v) (hg : h.length < h'.length) (hN : h.length < 1000000)
    (k : Z sc y cc nL ret d mc ms (pc + 3) ls (.ref h.length :: st) (h ++ [.inl (5, N, .inr (.inr (.inr (.inr (fun _ => none)))))]) r h') : Z sc y cc nL ret d (mc + 1) (ms + N) pc ls (.int n :: st) h r h' := by
  intro l p e R s m args below meth cd H locs cells slots tc ts D dA aS ad bs A la C0 hla hP hD hS hA hAb h1 h2 h3 h4 h5 h6
  have hts := C0.2.2.2.2.1
  have hK := C0.2.2.2.2.2.2.2.2.2.2.2.1
  have hAO : va_AO "LazyRangeTree$Tree" s := C0.2.2.2.2.2.2.2.2.2.2.2.2.2.2.2.2.2.2.2.2.1
  refine va_newq C0.1 C0.2.1 C0.2.2.2.1 (hts _ hk) hAO hK hP hD hS hA hn hnN hby (by omega) (by omega) hd (fun q cA H1 hK1 hP1 hD1 hS1 => ?_)
  have e1 := (hK1.2 (ztys dA).length (cA, .object "LazyRangeTree$Tree") (by rw [List.getElem?_append_right (Nat.le_refl _), Nat.sub_self]; rfl)).2
  have e2 := (hK.2 5 (dA 5, .object "LazyRangeTree$Tree") rfl).2
  have eA : cA = dA 5 := by
    obtain ⟨_, _, _, _, _, f1⟩ := e1
    obtain ⟨_, _, _, _, _, f2⟩ := e2
    exact Option.some.inj (f1.symm.trans f2)
  rw [eA] at hP1 hD1
  exact z_grown (sl := N) (o := .inl (5, N, .inr (.inr (.inr (.inr (fun _ => none)))))) hb (fun j a e9 => by cases e9) hl hs hg hN k C0 hla hP1 hD1 hS1 hA hAb h1 h2 (by omega) (by omega) h5 h6
end ZIN
theorem znl_X6_9 : Cond.methodLinkNest RX6 9 yX5_init RX6 ∈ zB := zbmem (15 + 27) (by decide +kernel) (by decide +kernel)
theorem znl_X0_21 : Cond.methodLinkNest RX0 21 yX5_init RX6 ∈ zB := zbmem (15 + 78) (by decide +kernel) (by decide +kernel)
theorem znl_X6_32 : Cond.methodLinkNest RX6 32 yX3_init RX6 ∈ zB := zbmem (15 + 88) (by decide +kernel) (by decide +kernel)
theorem znl_X6_39 : Cond.methodLinkNest RX6 39 yX2_init RX6 ∈ zB := zbmem (15 + 102) (by decide +kernel) (by decide +kernel)
theorem znl_X2_11 : Cond.methodLinkNest RX2 11 yX5_init RX6 ∈ zB := zbmem (15 + 107) (by decide +kernel) (by decide +kernel)
theorem znl_X2_20 : Cond.methodLinkNest RX2 20 yX4_init RX6 ∈ zB := zbmem (15 + 110) (by decide +kernel) (by decide +kernel)
theorem znl_X6_46 : Cond.methodLinkNest RX6 46 yX1_init RX6 ∈ zB := zbmem (15 + 163) (by decide +kernel) (by decide +kernel)
