variable {sc : SC}
theorem zms_max : Cond.static Lib.Math.max.name ∈ zT := zmem (15 + 202) (by decide +kernel) (by decide +kernel)
theorem zms_min : Cond.static Lib.Math.min.name ∈ zT := zmem (15 + 199) (by decide +kernel) (by decide +kernel)
theorem zmc_max : Cond.code Lib.Math.max.name Lib.Math.max.code 2 (some .int) ∈ zT := zmem (15 + 203) (by decide +kernel) (by decide +kernel)
theorem zmc_min : Cond.code Lib.Math.min.name Lib.Math.min.code 2 (some .int) ∈ zT := zmem (15 + 200) (by decide +kernel) (by decide +kernel)
theorem zac_l : Cond.methodLink RX5 50 arraycopyName ∈ zT := zmem (15 + 180) (by decide +kernel) (by decide +kernel)
theorem zac_s : Cond.static arraycopyName ∈ zT := zmem (15 + 181) (by decide +kernel) (by decide +kernel)
theorem zac_n : Cond.native arraycopyName ∈ zT := zmem (15 + 182) (by decide +kernel) (by decide +kernel)
theorem zbmem {w : Cond} (i : Nat) (h : lw_tbl[i]? = some w) (g : zBw w = true) : w ∈ zB := List.mem_filter.mpr ⟨List.mem_of_getElem? h, g⟩
theorem znl_X5_111 : Cond.methodLinkNest RX5 111 yX6_isElement RX6 ∈ zB := zbmem (15 + 402) (by decide +kernel) (by decide +kernel)
section ZMORE
variable {y : MethodName} {cc : ByteArray} {nL : Nat} {ret : Option FieldType} {d mc ms pc : Nat} {ls : List (Option Value)} {st : List Value} {h : List zO} {r : zR} {h' : List zO}
theorem z_topi {x w : Int32} (e : x = w) (k : Z sc y cc nL ret d mc ms pc ls (.int w :: st) h r h') : Z sc y cc nL ret d mc ms pc ls (.int x :: st) h r h' := e ▸ k
theorem z_topl {x w : Int64} (e : x = w) (k : Z sc y cc nL ret d mc ms pc ls (.long w :: st) h r h') : Z sc y cc nL ret d mc ms pc ls (.long x :: st) h r h' := e ▸ k
theorem z_mx {x z : Int32} {idx : Nat} (hd : decode cc pc = .ok (.invokestatic idx, 3)) (hlk : Cond.methodLink y.cls idx Lib.Math.max.name ∈ zT) (h1 : 1 ≤ d) (hcat : (st.map fun v => v.category).sum ≤ 60) (k : Z sc y cc nL ret d mc ms (pc + 3) ls (.int (if x < z then z else x) :: st) h r h') : Z sc y cc nL ret d mc ms pc ls (.int z :: .int x :: st) h r h' := by
  intro l p e R s m args below meth cd H locs cells slots tc ts D dA aS ad bs A la C0 hl hP hD hS hA hAb h1 h2 h3 h4 h5 h6
  have hts := C0.2.2.2.2.1
  have e4 : ((st.map (zv ad)).map fun v => v.category) = st.map fun v => v.category := by
    rw [List.map_map]; exact List.map_congr_left (fun v _ => zv_cat ad v)
  exact va_mmax C0.1 C0.2.1 (C0.2.2.1.trans hl.1.symm) C0.2.2.2.1 (hts _ hlk) (hts _ zms_max) (hts _ zini_RJ9) (hts _ zmc_max) (by omega) (by rw [e4]; omega) (by omega) (by omega) hd
    (k l p e R s m args below meth cd H locs cells slots tc ts D dA aS ad bs A la C0 hl hP hD hS hA hAb h1 h2 h3 h4 h5 h6)
theorem z_mn {x z : Int32} {idx : Nat} (hd : decode cc pc = .ok (.invokestatic idx, 3)) (hlk : Cond.methodLink y.cls idx Lib.Math.min.name ∈ zT) (h1 : 1 ≤ d) (hcat : (st.map fun v => v.category).sum ≤ 60) (k : Z sc y cc nL ret d mc ms (pc + 3) ls (.int (if z < x then z else x) :: st) h r h') : Z sc y cc nL ret d mc ms pc ls (.int z :: .int x :: st) h r h' := by
  intro l p e R s m args below meth cd H locs cells slots tc ts D dA aS ad bs A la C0 hl hP hD hS hA hAb h1 h2 h3 h4 h5 h6
  have hts := C0.2.2.2.2.1
  have e4 : ((st.map (zv ad)).map fun v => v.category) = st.map fun v => v.category := by
    rw [List.map_map]; exact List.map_congr_left (fun v _ => zv_cat ad v)
  exact va_mmin C0.1 C0.2.1 (C0.2.2.1.trans hl.1.symm) C0.2.2.2.1 (hts _ hlk) (hts _ zms_min) (hts _ zini_RJ9) (hts _ zmc_min) (by omega) (by rw [e4]; omega) (by omega) (by omega) hd
    (k l p e R s m args below meth cd H locs cells slots tc ts D dA aS ad bs A la C0 hl hP hD hS hA hAb h1 h2 h3 h4 h5 h6)
theorem z_copyi {a0 a1 n0 n1 idx : Nat} {f g : Nat → Int32} {sp dp n : Int32} (hd : decode cc pc = .ok (.invokestatic idx, 3)) (hlk : Cond.methodLink y.cls idx arraycopyName ∈ zT) (ho0 : h[a0]? = some (.inl (0, n0, .inl f))) (ho1 : h[a1]? = some (.inl (0, n1, .inl g))) (g1 : ¬ sp < 0) (g2 : ¬ dp < 0) (g3 : ¬ n < 0) (g4 : sp.toNatClampNeg + n.toNatClampNeg ≤ n0) (g5 : dp.toNatClampNeg + n.toNatClampNeg ≤ n1) (h1 : 1 ≤ d) (hcat : (st.map fun v => v.category).sum ≤ 8)
    (k : Z sc y cc nL ret d mc ms (pc + 3) ls st (h.set a1 (.inl (0, n1, .inl (va_cpy f g sp.toNatClampNeg dp.toNatClampNeg n.toNatClampNeg)))) r h') : Z sc y cc nL ret d mc ms pc ls (.int n :: .int dp :: .ref a1 :: .int sp :: .ref a0 :: st) h r h' := by
  intro l p e R s m args below meth cd H locs cells slots tc ts D dA aS ad bs A la C0 hl hP hD hS hA hAb h1 h2 h3 h4 h5 h6
  have hts := C0.2.2.2.2.1
  have e4 : ((st.map (zv ad)).map fun v => v.category) = st.map fun v => v.category := by
    rw [List.map_map]; exact List.map_congr_left (fun v _ => zv_cat ad v)
  have e1 : (zw ad dA h)[a0]? = some (ad a0, .inl (dA 0, n0, .inl f)) := zw_get ho0
  have e2 : (zw ad dA h)[a1]? = some (ad a1, .inl (dA 0, n1, .inl g)) := zw_get ho1
  have hnf : nativeFrameWords "java/lang/System" "arraycopy" 5 ≤ 60 := by decide +kernel
  refine va_copyi C0.1 C0.2.1 (C0.2.2.1.trans hl.1.symm) C0.2.2.2.1 (hts _ hlk) (hts _ zac_n) (hts _ zac_s) (hts _ zini_RJ10) C0.2.2.2.2.2.2.2.2.2.2.2.1 hP hD hS a0 a1 0 0 e1 e2 rfl rfl rfl g1 g2 g3 g4 g5 (fun _ _ => rfl) (by omega) (by rw [e4]; omega) hd (fun H1 locs1 hP1 hD1 hS1 => ?_)
  have e9 : (ad a1, (Sum.inl (dA 0, n1, .inl (va_cpy f g sp.toNatClampNeg dp.toNatClampNeg n.toNatClampNeg)) : va_E)) = (ad a1, zr ad dA (.inl (0, n1, .inl (va_cpy f g sp.toNatClampNeg dp.toNatClampNeg n.toNatClampNeg)))) := rfl
  rw [e9, zw_set] at hP1 hD1
  have hz := k l p e R s m args below meth cd H1 locs1 cells slots tc ts D dA aS ad bs A la C0 hl hP1 hD1 hS1 hA hAb h1 h2 h3 h4 h5 h6
  rw [List.length_set] at hz
  exact hz
theorem z_copyl {a0 a1 n0 n1 idx : Nat} {f g : Nat → Int64} {sp dp n : Int32} (hd : decode cc pc = .ok (.invokestatic idx, 3)) (hlk : Cond.methodLink y.cls idx arraycopyName ∈ zT) (ho0 : h[a0]? = some (.inl (1, n0, .inr (.inl f)))) (ho1 : h[a1]? = some (.inl (1, n1, .inr (.inl g)))) (g1 : ¬ sp < 0) (g2 : ¬ dp < 0) (g3 : ¬ n < 0) (g4 : sp.toNatClampNeg + n.toNatClampNeg ≤ n0) (g5 : dp.toNatClampNeg + n.toNatClampNeg ≤ n1) (h1 : 1 ≤ d) (hcat : (st.map fun v => v.category).sum ≤ 8)
    (k : Z sc y cc nL ret d mc ms (pc + 3) ls st (h.set a1 (.inl (1, n1, .inr (.inl (va_cpy f g sp.toNatClampNeg dp.toNatClampNeg n.toNatClampNeg))))) r h') : Z sc y cc nL ret d mc ms pc ls (.int n :: .int dp :: .ref a1 :: .int sp :: .ref a0 :: st) h r h' := by
  intro l p e R s m args below meth cd H locs cells slots tc ts D dA aS ad bs A la C0 hl hP hD hS hA hAb h1 h2 h3 h4 h5 h6
  have hts := C0.2.2.2.2.1
  have e4 : ((st.map (zv ad)).map fun v => v.category) = st.map fun v => v.category := by
    rw [List.map_map]; exact List.map_congr_left (fun v _ => zv_cat ad v)
  have e1 : (zw ad dA h)[a0]? = some (ad a0, .inl (dA 1, n0, .inr (.inl f))) := zw_get ho0
  have e2 : (zw ad dA h)[a1]? = some (ad a1, .inl (dA 1, n1, .inr (.inl g))) := zw_get ho1
  have hnf : nativeFrameWords "java/lang/System" "arraycopy" 5 ≤ 60 := by decide +kernel
  refine va_copyl C0.1 C0.2.1 (C0.2.2.1.trans hl.1.symm) C0.2.2.2.1 (hts _ hlk) (hts _ zac_n) (hts _ zac_s) (hts _ zini_RJ10) C0.2.2.2.2.2.2.2.2.2.2.2.1 hP hD hS a0 a1 1 1 e1 e2 rfl rfl rfl g1 g2 g3 g4 g5 (fun _ _ => rfl) (by omega) (by rw [e4]; omega) hd (fun H1 locs1 hP1 hD1 hS1 => ?_)
  have e9 : (ad a1, (Sum.inl (dA 1, n1, .inr (.inl (va_cpy f g sp.toNatClampNeg dp.toNatClampNeg n.toNatClampNeg))) : va_E)) = (ad a1, zr ad dA (.inl (1, n1, .inr (.inl (va_cpy f g sp.toNatClampNeg dp.toNatClampNeg n.toNatClampNeg))))) := rfl
  rw [e9, zw_set] at hP1 hD1
  have hz := k l p e R s m args below meth cd H1 locs1 cells slots tc ts D dA aS ad bs A la C0 hl hP1 hD1 hS1 hA hAb h1 h2 h3 h4 h5 h6
  rw [List.length_set] at hz
  exact hz
theorem zfit_id (h : List zO) : zfit (fun i => i) 0 h h := by
  have key : ∀ (hc : List zO) (k : Nat), (∀ i o, hc[i]? = some o → h[k + i]? = some o) → zfit (fun i => i) k h hc := by
    intro hc
    induction hc with
    | nil => intro k _; exact trivial
    | cons x t ih =>
      intro k hk
      refine ⟨?_, ih (k + 1) (fun i o hi => ?_)⟩
      · rw [zren_id]
        exact hk 0 x rfl
      · have h9 := hk (i + 1) o (by rw [List.getElem?_cons_succ]; exact hi)
        have e : k + 1 + i = k + (i + 1) := by omega
        rw [e]; exact h9
  exact key h 0 (fun i o hi => by rw [Nat.zero_add]; exact hi)
theorem zplug_id {h hc : List zO} (hl : hc.length = h.length) : zplug (fun i => i) 0 h hc = hc := by
  apply List.ext_getElem?
  intro j
  by_cases hj : j < hc.length
  · have h1 := zplug_in (ρ := fun i => i) hc 0 h j hc[j] (fun a b _ _ e => by simpa using e) (fun a ha => by simp only [Nat.zero_add]; omega) (List.getElem?_eq_getElem hj)
    simp only [Nat.zero_add] at h1
    rw [h1, zren_id, List.getElem?_eq_getElem hj]
  · have h1 : (zplug (fun i => i) 0 h hc).length ≤ j := by rw [zplug_len]; omega
    rw [List.getElem?_eq_none h1, List.getElem?_eq_none (by omega)]
variable {y2 : MethodName} {cc2 : ByteArray} {nL2 : Nat} {ret2 : Option FieldType} {d2 mc2 ms2 : Nat} {av : List Value} {hc : List zO} {hc' : List zO} {ρ : Nat → Nat} {stk : List Value}
theorem Z.call0n (g : zRun sc y cc nL ret d pc h stk st y2 cc2 nL2 ret2 d2 0 0 av h (.inl none) hc' (fun i => i)) (hlen : hc'.length = h.length)
    (k : Z sc y cc nL ret d mc ms (pc + 3) ls st hc' r h') : Z sc y cc nL ret d mc ms pc ls stk h r h' :=
  Z.call g (zfit_id h) (fun _ _ _ _ e => e) hlen (by rw [zplug_id hlen]; exact k)
theorem Z.call0s {v : Value} (g : zRun sc y cc nL ret d pc h stk st y2 cc2 nL2 ret2 d2 0 0 av h (.inl (some v)) hc' (fun i => i)) (hlen : hc'.length = h.length)
    (k : Z sc y cc nL ret d mc ms (pc + 3) ls (v :: st) hc' r h') : Z sc y cc nL ret d mc ms pc ls stk h r h' :=
  Z.call g (zfit_id h) (fun _ _ _ _ e => e) hlen (by rw [zplug_id hlen]; show Z sc y cc nL ret d mc ms (pc + 3) ls (zv (fun i => i) v :: st) hc' r h'; rw [zv_id]; exact k)
theorem zRun.SN {n idx : Nat} {host : String} (hM : zM sc y2 cc2 nL2 ret2 d2 mc2 ms2 av hc r hc') (hd : decode cc pc = .ok (.invokestatic idx, 3)) (hY : zYS y2 cc2 nL2 ret2 n) (hlk : Cond.methodLinkNest y.cls idx y2 host ∈ zB) (hn : av.length = n) (hst : stk = (av.map (zv ρ)).reverse ++ st) (hcat : (st.map fun v => v.category).sum ≤ 8) (hd2 : d2 + 1 ≤ d) (hnL : nL2 ≤ 61) (hρ : ∀ i, ρ (1000000 + i) = 1000000 + i := by first | exact fun _ => rfl | exact fun i => if_neg (by omega)) :
    zRun sc y cc nL ret d pc h stk st y2 cc2 nL2 ret2 d2 mc2 ms2 av hc r hc' ρ := by
  intro l p e R s m args below meth cd H locs cells slots D dA aS ad bs la C0 hP hsz hkb h1 h2 h3 h4 hpre
  obtain ⟨q1, q2, q3, ⟨q5, q6, q7⟩, q8⟩ := hY
  have hts := C0.2.2.2.2.1
  have hK := C0.2.2.2.2.2.2.2.2.2
  have hcw := va_cnB (own := y.cls) (host := host) (index := idx) (maxL := nL2) (mc := mc2) (ms := ms2) (y := y2) (bytes := cc2) (ret := ret2) (ws := Cond.code y2 cc2 nL2 ret2 :: zT) (rm := { frames := d2, cells := mc2, slots := ms2, locals := 80 * d2 }) (R := R) n hts (fun w hw => zgoodIn (idx := idx) (own := y.cls) (C := y2.cls) q1 w hw) rfl rfl rfl (hK.2.2.2.1 _ hlk) (hts _ q3) ⟨q5, q6, q7⟩ ⟨by show d2 + 1 ≤ R.frames; omega, by show 8 + (nL2 + 11) + 80 * d2 ≤ R.locals; omega⟩
  have hst2 : stk.map (zv ad) = ((av.map (zv (fun i => ad (ρ i)))).reverse ++ st.map (zv ad)) := by
    rw [hst, List.map_append, List.map_reverse, List.map_map]
    have e3 : av.map (zv ad ∘ zv ρ) = av.map (zv (fun i => ad (ρ i))) := List.map_congr_left (fun v _ => zv_zv ad ρ v)
    rw [e3]
  exact vx_runSN (g := F0 m pc la (stk.map (zv ad))) ⟨C0.1, C0.2.1, C0.2.2.1, C0.2.2.2.1, hts⟩ (hM l D dA aS (fun i => ad (ρ i)) bs H.size (fun i => by rw [hρ]; exact C0.2.2.2.2.2.2.2.2.1.2 i)) ⟨hcw, hts _ q2, trivial⟩ ⟨zPc_blind, fun U hU hW => hpre U hU hW⟩ rfl (by rw [List.length_map]; exact hn) hsz hst2 (by
      have e4 : ((st.map (zv ad)).map fun v => v.category) = st.map fun v => v.category := by
        rw [List.map_map]; exact List.map_congr_left (fun v _ => zv_cat ad v)
      show 2 * 0 + _ ≤ 8
      rw [e4]; omega) hd ⟨h3, h4⟩
end ZMORE
