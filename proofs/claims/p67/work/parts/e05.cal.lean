variable {sc : SC}
/-! ===== the law's calls; a row more in the picture ===== -/
theorem zvs_id (l : List Value) : l.map (zv (fun i => i)) = l := (List.map_congr_left (fun v _ => zv_id v)).trans (List.map_id l)
section ECAL
variable {y : MethodName} {cc : ByteArray} {nL : Nat} {ret : Option FieldType} {d mc ms pc : Nat} {ls : List (Option Value)} {st : List Value} {r : zR} {h h' rest : List zO} {y2 : MethodName} {cc2 : ByteArray} {nL2 : Nat} {ret2 : Option FieldType} {d2 mc2 ms2 n9 idx : Nat} {av As : List Value} {v : Value}
variable {S X R : ZS} {T : TS} {P : ZS} {TU : TS} {q : Nat} {G : Nat → TS} {TN : TS} {S' X' R' : ZS} {T' : TS} {P' : ZS} {TU' : TS} {q' : Nat} {G' : Nat → TS} {TN' : TS}
/-- a question -/
theorem z_q (hM : zM sc y2 cc2 nL2 ret2 d2 0 0 (.ref 0 :: As) (qh S X R T) (.inl (some v)) (qh S X R T)) (hd : decode cc pc = .ok (.invokevirtual idx, 3)) (hY : zYV y2 cc2 nL2 ret2 n9) (hlk : Cond.methodLink y.cls idx y2 ∈ zT) (hn : As.length = n9) (hcl : y2.cls = RX6) (hcat : (st.map fun v => v.category).sum ≤ 8) (hd2 : d2 + 1 ≤ d) (hnL : nL2 ≤ 61)
    (k : Z sc y cc nL ret d mc ms (pc + 3) ls (v :: st) (qh S X R T ++ rest) r h') : Z sc y cc nL ret d mc ms pc ls (As.reverse ++ .ref 0 :: st) (qh S X R T ++ rest) r h' :=
  z_cS (ρ := fun i => i) hM (zfit_pre _ _) (fun _ _ _ _ e => e) (zplug_pre ((qh_len _ _ _ _).trans (qh_len _ _ _ _).symm)) hd hY hlk hn qh_0 (by rw [hcl]; rfl) ((qh_len _ _ _ _).trans (qh_len _ _ _ _).symm) rfl (zvs_id As) (zv_id v) (fun _ => rfl) hcat hd2 hnL k
theorem FH_qh (S X R : ZS) (T : TS) (P : ZS) (TU : TS) (q : Nat) (G : Nat → TS) (TN : TS) (rest : List zO) : FH S X R T P TU q G TN ++ rest = qh S X R T ++ (fr S P TU q G TN ++ rest) := by rw [FH, List.append_assoc]
theorem FH_len9 (S X R : ZS) (T : TS) (P : ZS) (TU : TS) (q : Nat) (G : Nat → TS) (TN : TS) : (FH S X R T P TU q G TN).length = 115 := by
  simp only [FH, fr, List.length_append, qh_len, sho_len, hist_len, tho_len]
/-- a question of the law's -/
theorem z_qF (hM : zM sc y2 cc2 nL2 ret2 d2 0 0 (.ref 0 :: As) (qh S X R T) (.inl (some v)) (qh S X R T)) (hd : decode cc pc = .ok (.invokevirtual idx, 3)) (hY : zYV y2 cc2 nL2 ret2 n9) (hlk : Cond.methodLink y.cls idx y2 ∈ zT) (hn : As.length = n9) (hcl : y2.cls = RX6) (hcat : (st.map fun v => v.category).sum ≤ 8) (hd2 : d2 + 1 ≤ d) (hnL : nL2 ≤ 61)
    (k : Z sc y cc nL ret d mc ms (pc + 3) ls (v :: st) (FH S X R T P TU q G TN ++ rest) r h') : Z sc y cc nL ret d mc ms pc ls (As.reverse ++ .ref 0 :: st) (FH S X R T P TU q G TN ++ rest) r h' :=
  Z.heap (FH_qh _ _ _ _ _ _ _ _ _ _) (z_q hM hd hY hlk hn hcl hcat hd2 hnL (Z.heap (FH_qh _ _ _ _ _ _ _ _ _ _).symm k))
/-- a change -/
theorem z_fF (hM : zM sc y2 cc2 nL2 ret2 d2 0 0 (.ref 0 :: As) (FH S X R T P TU q G TN) (.inl (some v)) (FH S' X' R' T' P' TU' q' G' TN')) (hd : decode cc pc = .ok (.invokevirtual idx, 3)) (hY : zYV y2 cc2 nL2 ret2 n9) (hlk : Cond.methodLink y.cls idx y2 ∈ zT) (hn : As.length = n9) (hcl : y2.cls = RX6) (hcat : (st.map fun v => v.category).sum ≤ 8) (hd2 : d2 + 1 ≤ d) (hnL : nL2 ≤ 61)
    (k : Z sc y cc nL ret d mc ms (pc + 3) ls (v :: st) (FH S' X' R' T' P' TU' q' G' TN' ++ rest) r h') : Z sc y cc nL ret d mc ms pc ls (As.reverse ++ .ref 0 :: st) (FH S X R T P TU q G TN ++ rest) r h' :=
  z_cS (ρ := fun i => i) hM (zfit_pre _ _) (fun _ _ _ _ e => e) (zplug_pre ((FH_len9 _ _ _ _ _ _ _ _ _).trans (FH_len9 _ _ _ _ _ _ _ _ _).symm)) hd hY hlk hn FH_0 (by rw [hcl]; rfl) ((FH_len9 _ _ _ _ _ _ _ _ _).trans (FH_len9 _ _ _ _ _ _ _ _ _).symm) rfl (zvs_id As) (zv_id v) (fun _ => rfl) hcat hd2 hnL k
/-- a method of the law's own, over the same picture -/
theorem z_own (hM : zM sc y2 cc2 nL2 ret2 d2 0 0 av h (.inl (some v)) h) (hd : decode cc pc = .ok (.invokestatic idx, 3)) (hY : zYS y2 cc2 nL2 ret2 n9) (hlk : Cond.methodLink y.cls idx y2 ∈ zT) (hn : av.length = n9) (hcat : (st.map fun v => v.category).sum ≤ 8) (hd2 : d2 + 1 ≤ d) (hnL : nL2 ≤ 61)
    (k : Z sc y cc nL ret d mc ms (pc + 3) ls (v :: st) h r h') : Z sc y cc nL ret d mc ms pc ls (av.reverse ++ st) h r h' :=
  Z.call0s (zRun.S (ρ := fun i => i) hM hd hY hlk hn (by rw [zvs_id]) hcat hd2 hnL) rfl k
/-- one that makes a row of ints and gives it back -/
theorem z_mk {N : Nat} {f : Nat → Int32} (hM : zM sc y2 cc2 nL2 ret2 d2 mc2 ms2 av h (.inl (some (.ref h.length))) (h ++ [.inl (0, N, .inl f)])) (hd : decode cc pc = .ok (.invokestatic idx, 3)) (hY : zYS y2 cc2 nL2 ret2 n9) (hlk : Cond.methodLink y.cls idx y2 ∈ zT) (hn : av.length = n9) (hcat : (st.map fun v => v.category).sum ≤ 8) (hd2 : d2 + 1 ≤ d) (hnL : nL2 ≤ 61)
    (hb : zbh h.length h) (hl : ∀ v, some v ∈ ls → zbw h.length v) (hs : ∀ v ∈ st, zbw h.length v) (hg : h.length < h'.length) (hN : h.length < 1000000)
    (k : Z sc y cc nL ret d mc ms (pc + 3) ls (.ref h.length :: st) (h ++ [.inl (0, N, .inl f)]) r h') : Z sc y cc nL ret d (mc + mc2) (ms + ms2) pc ls (av.reverse ++ st) h r h' := by
  have g := zRun.S (y := y) (cc := cc) (nL := nL) (ret := ret) (h := h) (st := st) (stk := av.reverse ++ st) (ρ := fun i => i) hM hd hY hlk hn (by rw [zvs_id]) hcat hd2 hnL
  intro l p e R s m args below meth cd H locs cells slots tc ts D dA aS ad bs A la C0 hla hP hD hS hA hAb h1 h2 h3 h4 h5 h6
  have hf := zfit_id h
  have hinj : ∀ i j, i < h.length → j < h.length → (fun i : Nat => i) i = (fun i : Nat => i) j → i = j := fun _ _ _ _ e => e
  have hK := C0.2.2.2.2.2.2.2.2.2
  have hkb : ∀ a : Nat, a < s.heap.size → ¬ bs ≤ a → H[a]? = s.heap[a]? := fun a ha hb9 => hS.2.1 a ha (fun z => hb9 (hAb a z))
  have hF : ∀ q, va_A (zw ad dA h) H.size q → A q := fun q hq => by
    rcases hq with ⟨k9, e9, hq⟩ | hq
    · exact hD.2 k9 (q, e9) hq
    · exact hA q (Nat.le_trans hS.1 hq)
  have hrun := g l p e R s m args below meth cd H locs cells slots D dA aS ad bs la C0 hP hla.1 hkb h1 h2 (by omega) (by omega)
    (fun U hU hW => ⟨rfl, by rw [hU], by rw [hU]; exact zcut (A := A) hP hf, hK.moved hW (by rw [hU]; exact hS.1) (fun a ha hb9 => by rw [hU]; exact hkb a ha hb9), zcutD hD hf hinj hAb⟩)
  intro T9 hT X9
  rcases hrun T9 hT X9 with ⟨v9, st₀, t, T9', L, h0, X9', hL, e1, e2, ⟨v', ad1, hv', hov, hfin⟩, stp⟩ | ⟨q9, st₀, t, T9', L, E, ce, h0, X9', hL, e1, e2, ⟨hbad, -⟩, -⟩
  · obtain ⟨had, hPc, hDc, hFc⟩ := hfin
    cases hv'
    have hov2 : v9 = some (.ref (ad1 h.length)) := by injection hov
    subst hov2
    obtain ⟨k1, k2, k3⟩ := vx_keep h0 e1 hS (fun q _ z => hF q z) hF hL hFc
    have e3 : zw ad1 dA h = zw ad dA h := by
      apply List.ext_getElem?
      intro i
      simp only [zw, List.getElem?_mapIdx]
      cases e9 : h[i]? with
      | none => rfl
      | some o =>
        have hi := (List.getElem?_eq_some_iff.mp e9).1
        show some (ad1 i, zr ad1 dA o) = some (ad i, zr ad dA o)
        rw [had i (Or.inl hi), zr_congr (hb o (List.mem_of_getElem? e9)) (fun j hj => had j (Or.inl hj))]
    have e4 : zw ad1 dA (h ++ [.inl (0, N, .inl f)]) = zw ad dA h ++ [(ad1 h.length, zr ad dA (.inl (0, N, .inl f)))] := by
      rw [zw_app, e3]
      rfl
    rw [e4] at hPc hDc
    have hD2 : va_D A (zw ad dA h ++ [(ad1 h.length, zr ad dA (.inl (0, N, .inl f)))]) := ⟨hDc.1, fun k9 q9 hk9 => hF _ (hDc.2 k9 q9 hk9)⟩
    have C1 : zC sc y cc nL ret l p s m args meth cd D dA aS (zadd ad h.length (ad1 h.length)) bs := by
      obtain ⟨a1, a2, a3, a4, a5, a6, a7, a8, ⟨a9, a10⟩, a11⟩ := C0
      exact ⟨a1, a2, a3, a4, a5, a6, a7, a8, ⟨a9, fun i => by rw [zadd_o ad (by omega)]; exact a10 i⟩, a11⟩
    have hP2 : va_P D vwCl (zw ad dA h ++ [(ad1 h.length, zr ad dA (.inl (0, N, .inl f)))]) T9'.heap := by rw [e1]; exact hPc
    rw [← zw_grow (o := .inl (0, N, .inl f)) hb trivial] at hP2 hD2
    have hz := k l p e R s m args below meth cd T9'.heap (locs ++ L) (cells + mc2) (slots + ms2) tc ts D dA aS (zadd ad h.length (ad1 h.length)) bs A la C1 (zLv_add hla hl hN) hP2 hD2 k3 hA hAb h1 h2 (by omega) (by omega) h5 h6
    have es : (Value.ref h.length :: st).map (zv (zadd ad h.length (ad1 h.length))) = .ref (ad1 h.length) :: st.map (zv ad) := by
      show Value.ref (zadd ad h.length (ad1 h.length) h.length) :: _ = _
      rw [zadd_n]
      exact congrArg (List.cons _) (List.map_congr_left (fun v hv => zv_addw (hs v hv) hN))
    rw [es] at hz
    obtain ⟨t2, a1, b1⟩ := hz T9' rfl X9'
    refine ⟨t2, stp t2 ?_, vx_MQ_mono ?_ ?_ b1⟩
    · exact a1
    · rintro a s o t ⟨v, ad', q1, q2, q3⟩
      exact ⟨v, ad', q1, q2, zFin_grow hg (by rw [List.length_append]; simp) q3⟩
    · rintro E s t ⟨q1, ad', q2⟩
      exact ⟨q1, ad', zFin_grow hg (by rw [List.length_append]; simp) q2⟩
  · cases hbad
end ECAL
/-! the law's picture: the object, and rows of forty ints -/
def zF (f : Nat → Int32) : zO := .inl (0, 40, .inl f)
def lwH (S X R : ZS) (T : TS) (P : ZS) (TU : TS) (q : Nat) (G : Nat → TS) (TN : TS) (fs : List (Nat → Int32)) : List zO := FH S X R T P TU q G TN ++ fs.map zF
section ELP
variable {S X R : ZS} {T : TS} {P : ZS} {TU : TS} {q : Nat} {G : Nat → TS} {TN : TS} {fs : List (Nat → Int32)}
theorem lwH_len : (lwH S X R T P TU q G TN fs).length = 115 + fs.length := by rw [lwH, List.length_append, FH_len9, List.length_map]
theorem lwH_at {p : Nat} {f : Nat → Int32} (h : fs[p]? = some f) : (lwH S X R T P TU q G TN fs)[115 + p]? = some (.inl (0, 40, .inl f)) := by
  rw [lwH, List.getElem?_append_right (by rw [FH_len9]; omega), FH_len9, Nat.add_sub_cancel_left, List.getElem?_map, h]
  rfl
theorem lwH_set {p : Nat} {f : Nat → Int32} : (lwH S X R T P TU q G TN fs).set (115 + p) (.inl (0, 40, .inl f)) = lwH S X R T P TU q G TN (fs.set p f) := by
  rw [lwH, lwH, List.set_append_right _ _ (by rw [FH_len9]; omega), FH_len9, Nat.add_sub_cancel_left, List.map_set]
  rfl
theorem lwH_app {f : Nat → Int32} : lwH S X R T P TU q G TN fs ++ [.inl (0, 40, .inl f)] = lwH S X R T P TU q G TN (fs ++ [f]) := by
  rw [lwH, lwH, List.append_assoc, List.map_append]
  rfl
end ELP
