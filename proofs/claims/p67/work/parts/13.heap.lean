variable {sc : SC}
section ZHEAP
variable {y : MethodName} {cc : ByteArray} {nL : Nat} {ret : Option FieldType} {d mc ms pc : Nat} {ls : List (Option Value)} {st : List Value} {h : List zO} {r : zR} {h' : List zO}
theorem z_get {a ci k idx N : Nat} {C : String} {T : u_T} {fs : List Value} {v : Value} (hd : decode cc pc = .ok (.getfield idx, 3)) (ho : h[a]? = some (.inr (ci, fs))) (hv : fs[k]? = some v) (hc : vwCl[ci]? = some (C, T, N)) (hk : k < N) (hlk : Cond.fieldLink y.cls idx (T k).1 (T k).2.1 (T k).2.2.1 ∈ zT) (hin : ∀ w ∈ u_ws C T N, w ∈ zT)
    (k0 : Z sc y cc nL ret d mc ms (pc + 3) ls (v :: st) h r h') : Z sc y cc nL ret d mc ms pc ls (.ref a :: st) h r h' := by
  intro l p e R s m args below meth cd H locs cells slots tc ts D dA aS ad bs A la C0 hl hP hD hS hA hAb h1 h2 h3 h4 h5 h6
  have e1 : (zw ad dA h)[a]? = some (ad a, .inr (ci, fs.map (zv ad))) := zw_get ho
  have e2 : (fs.map (zv ad))[k]? = some (zv ad v) := by rw [List.getElem?_map, hv]; rfl
  exact va_get C0.1 C0.2.1 C0.2.2.2.2.1 hin C0.2.2.2.1 C0.2.2.2.2.2.2.2.2.2.2.2.1 hP a e1 hc k hk (C0.2.2.2.2.1 _ hlk) (fun _ h9 => h9) e2 hd
    (k0 l p e R s m args below meth cd H locs cells slots tc ts D dA aS ad bs A la C0 hl hP hD hS hA hAb h1 h2 h3 h4 h5 h6)
theorem z_put {a ci k idx N : Nat} {C : String} {T : u_T} {fs : List Value} {v : Value} {ty : Nat → FieldType} (hd : decode cc pc = .ok (.putfield idx, 3)) (ho : h[a]? = some (.inr (ci, fs))) (hc : vwCl[ci]? = some (C, T, N)) (hk : k < N) (hlk : Cond.fieldLink y.cls idx (T k).1 (T k).2.1 (T k).2.2.1 ∈ zT) (hin : ∀ w ∈ u_ws C T N, w ∈ zT) (hty : ∀ k, k < N → parseFieldDescriptor (T k).2.2.1 = some (ty k)) (hnm : ∀ a, a < N → ∀ b, b < N → a ≠ b → (T a).2.1 ≠ (T b).2.1) (hfin : (T k).2.2.2 = false) (hn : ∀ f, narrow (ty k) (zv f v) = zv f v ∧ fits (ty k) (zv f v) = true) (hlen : k < fs.length)
    (k0 : Z sc y cc nL ret d mc ms (pc + 3) ls st (h.set a (.inr (ci, fs.set k v))) r h') : Z sc y cc nL ret d mc ms pc ls (v :: .ref a :: st) h r h' := by
  intro l p e R s m args below meth cd H locs cells slots tc ts D dA aS ad bs A la C0 hl hP hD hS hA hAb h1 h2 h3 h4 h5 h6
  have e1 : (zw ad dA h)[a]? = some (ad a, .inr (ci, fs.map (zv ad))) := zw_get ho
  refine va_put (ty := ty k) C0.1 C0.2.1 C0.2.2.2.2.1 hin ty hty hnm C0.2.2.2.1 C0.2.2.2.2.2.2.2.2.2.2.2.1 hP hD hS a e1 hc k hk (C0.2.2.2.2.1 _ hlk) (fun _ h9 => h9) hfin (hty k hk) (hn ad).1 (hn ad).2 (by rw [List.length_map]; exact hlen) hd (fun H1 locs1 hP1 hD1 hS1 => ?_)
  have e2 : (ad a, (Sum.inr (ci, (fs.map (zv ad)).set k (zv ad v)) : va_E)) = (ad a, zr ad dA (.inr (ci, fs.set k v))) := by
    show _ = (ad a, (Sum.inr (ci, (fs.set k v).map (zv ad)) : va_E))
    rw [List.map_set]
  rw [e2, zw_set] at hP1 hD1
  have hz := k0 l p e R s m args below meth cd H1 locs1 cells slots tc ts D dA aS ad bs A la C0 hl hP1 hD1 hS1 hA hAb h1 h2 h3 h4 h5 h6
  rw [List.length_set] at hz
  exact hz
theorem z_putF {a ci k idx N : Nat} {C : String} {T : u_T} {fs : List Value} {v : Value} {ty : Nat → FieldType} (hd : decode cc pc = .ok (.putfield idx, 3)) (ho : h[a]? = some (.inr (ci, fs))) (hc : vwCl[ci]? = some (C, T, N)) (hk : k < N) (hlk : Cond.fieldLink y.cls idx (T k).1 (T k).2.1 (T k).2.2.1 ∈ zT) (hin : ∀ w ∈ u_ws C T N, w ∈ zT) (hty : ∀ k, k < N → parseFieldDescriptor (T k).2.2.1 = some (ty k)) (hnm : ∀ a, a < N → ∀ b, b < N → a ≠ b → (T a).2.1 ≠ (T b).2.1) (hfin : (T k).2.2.2 = true) (hy : y.name = "<init>") (hdc : (T k).1 = y.cls) (hn : ∀ f, narrow (ty k) (zv f v) = zv f v ∧ fits (ty k) (zv f v) = true) (hlen : k < fs.length)
    (k0 : Z sc y cc nL ret d mc ms (pc + 3) ls st (h.set a (.inr (ci, fs.set k v))) r h') : Z sc y cc nL ret d mc ms pc ls (v :: .ref a :: st) h r h' := by
  intro l p e R s m args below meth cd H locs cells slots tc ts D dA aS ad bs A la C0 hl hP hD hS hA hAb h1 h2 h3 h4 h5 h6
  have e1 : (zw ad dA h)[a]? = some (ad a, .inr (ci, fs.map (zv ad))) := zw_get ho
  refine va_putF (ty := ty k) C0.1 C0.2.1 C0.2.2.2.2.1 hin ty hty hnm C0.2.2.2.1 C0.2.2.2.2.2.2.2.2.2.2.2.1 hP hD hS a e1 hc k hk (C0.2.2.2.2.1 _ hlk) (fun _ h9 => h9) hfin (C0.2.2.2.2.2.2.2.2.1.1.trans hy) hdc (hty k hk) (hn ad).1 (hn ad).2 (by rw [List.length_map]; exact hlen) hd (fun H1 locs1 hP1 hD1 hS1 => ?_)
  have e2 : (ad a, (Sum.inr (ci, (fs.map (zv ad)).set k (zv ad v)) : va_E)) = (ad a, zr ad dA (.inr (ci, fs.set k v))) := by
    show _ = (ad a, (Sum.inr (ci, (fs.set k v).map (zv ad)) : va_E))
    rw [List.map_set]
  rw [e2, zw_set] at hP1 hD1
  have hz := k0 l p e R s m args below meth cd H1 locs1 cells slots tc ts D dA aS ad bs A la C0 hl hP1 hD1 hS1 hA hAb h1 h2 h3 h4 h5 h6
  rw [List.length_set] at hz
  exact hz
theorem z_alen {a t : Nat} {x : vp_A} {ty : FieldType} (dz : ∀ dA : Nat → ClassId, (ztys dA)[t]? = some (dA t, ty)) (hd : decode cc pc = .ok (.arraylength, 1)) (ho : h[a]? = some (.inl (t, x)))
    (k0 : Z sc y cc nL ret d mc ms (pc + 1) ls (.int (Int32.ofNat x.1) :: st) h r h') : Z sc y cc nL ret d mc ms pc ls (.ref a :: st) h r h' := by
  intro l p e R s m args below meth cd H locs cells slots tc ts D dA aS ad bs A la C0 hl hP hD hS hA hAb h1 h2 h3 h4 h5 h6
  have e1 : (zw ad dA h)[a]? = some (ad a, .inl (dA t, zx ad x)) := zw_get ho
  refine va_alen (v := Int32.ofNat x.1) C0.1 C0.2.1 C0.2.2.2.2.2.2.2.2.2.2.2.1 hP a t e1 (dz dA) (by obtain ⟨n, x | x | x | x | x⟩ := x <;> rfl) hd
    (k0 l p e R s m args below meth cd H locs cells slots tc ts D dA aS ad bs A la C0 hl hP hD hS hA hAb h1 h2 h3 h4 h5 h6)
theorem z_iald {a n : Nat} {f : Nat → Int32} {i : Int32} (hd : decode cc pc = .ok (.iaload, 1)) (ho : h[a]? = some (.inl (0, n, .inl f))) (hi : vp_in i n)
    (k0 : Z sc y cc nL ret d mc ms (pc + 1) ls (.int (f i.toNatClampNeg) :: st) h r h') : Z sc y cc nL ret d mc ms pc ls (.int i :: .ref a :: st) h r h' := by
  intro l p e R s m args below meth cd H locs cells slots tc ts D dA aS ad bs A la C0 hl hP hD hS hA hAb h1 h2 h3 h4 h5 h6
  have e1 : (zw ad dA h)[a]? = some (ad a, .inl (dA 0, n, .inl f)) := zw_get ho
  exact va_iald C0.1 C0.2.1 C0.2.2.2.2.2.2.2.2.2.2.2.1 hP a 0 e1 rfl hi hd (k0 l p e R s m args below meth cd H locs cells slots tc ts D dA aS ad bs A la C0 hl hP hD hS hA hAb h1 h2 h3 h4 h5 h6)
theorem z_lald {a n : Nat} {f : Nat → Int64} {i : Int32} (hd : decode cc pc = .ok (.laload, 1)) (ho : h[a]? = some (.inl (1, n, .inr (.inl f)))) (hi : vp_in i n)
    (k0 : Z sc y cc nL ret d mc ms (pc + 1) ls (.long (f i.toNatClampNeg) :: st) h r h') : Z sc y cc nL ret d mc ms pc ls (.int i :: .ref a :: st) h r h' := by
  intro l p e R s m args below meth cd H locs cells slots tc ts D dA aS ad bs A la C0 hl hP hD hS hA hAb h1 h2 h3 h4 h5 h6
  have e1 : (zw ad dA h)[a]? = some (ad a, .inl (dA 1, n, .inr (.inl f))) := zw_get ho
  exact va_lald C0.1 C0.2.1 C0.2.2.2.2.2.2.2.2.2.2.2.1 hP a 1 e1 rfl hi hd (k0 l p e R s m args below meth cd H locs cells slots tc ts D dA aS ad bs A la C0 hl hP hD hS hA hAb h1 h2 h3 h4 h5 h6)
theorem z_iast {a n : Nat} {f : Nat → Int32} {i x : Int32} (hd : decode cc pc = .ok (.iastore, 1)) (ho : h[a]? = some (.inl (0, n, .inl f))) (hi : vp_in i n)
    (k0 : Z sc y cc nL ret d mc ms (pc + 1) ls st (h.set a (.inl (0, n, .inl (upd f i.toNatClampNeg x)))) r h') : Z sc y cc nL ret d mc ms pc ls (.int x :: .int i :: .ref a :: st) h r h' := by
  intro l p e R s m args below meth cd H locs cells slots tc ts D dA aS ad bs A la C0 hl hP hD hS hA hAb h1 h2 h3 h4 h5 h6
  have e1 : (zw ad dA h)[a]? = some (ad a, .inl (dA 0, n, .inl f)) := zw_get ho
  refine va_iast C0.1 C0.2.1 C0.2.2.2.2.2.2.2.2.2.2.2.1 hP hD hS a 0 e1 rfl hi hd (fun H1 locs1 hP1 hD1 hS1 => ?_)
  have e2 : (ad a, (Sum.inl (dA 0, n, .inl (upd f i.toNatClampNeg x)) : va_E)) = (ad a, zr ad dA (.inl (0, n, .inl (upd f i.toNatClampNeg x)))) := rfl
  rw [e2, zw_set] at hP1 hD1
  have hz := k0 l p e R s m args below meth cd H1 locs1 cells slots tc ts D dA aS ad bs A la C0 hl hP1 hD1 hS1 hA hAb h1 h2 h3 h4 h5 h6
  rw [List.length_set] at hz
  exact hz
theorem z_last {a n : Nat} {f : Nat → Int64} {i : Int32} {x : Int64} (hd : decode cc pc = .ok (.lastore, 1)) (ho : h[a]? = some (.inl (1, n, .inr (.inl f)))) (hi : vp_in i n)
    (k0 : Z sc y cc nL ret d mc ms (pc + 1) ls st (h.set a (.inl (1, n, .inr (.inl (vp_updL f i.toNatClampNeg x))))) r h') : Z sc y cc nL ret d mc ms pc ls (.long x :: .int i :: .ref a :: st) h r h' := by
  intro l p e R s m args below meth cd H locs cells slots tc ts D dA aS ad bs A la C0 hl hP hD hS hA hAb h1 h2 h3 h4 h5 h6
  have e1 : (zw ad dA h)[a]? = some (ad a, .inl (dA 1, n, .inr (.inl f))) := zw_get ho
  refine va_last C0.1 C0.2.1 C0.2.2.2.2.2.2.2.2.2.2.2.1 hP hD hS a 1 e1 rfl hi hd (fun H1 locs1 hP1 hD1 hS1 => ?_)
  have e2 : (ad a, (Sum.inl (dA 1, n, .inr (.inl (vp_updL f i.toNatClampNeg x))) : va_E)) = (ad a, zr ad dA (.inl (1, n, .inr (.inl (vp_updL f i.toNatClampNeg x))))) := rfl
  rw [e2, zw_set] at hP1 hD1
  have hz := k0 l p e R s m args below meth cd H1 locs1 cells slots tc ts D dA aS ad bs A la C0 hl hP1 hD1 hS1 hA hAb h1 h2 h3 h4 h5 h6
  rw [List.length_set] at hz
  exact hz
theorem va_rf_map (ad : Nat → Nat) (o : Option Nat) : va_rf (o.map ad) = zv ad (va_rf o) := by cases o <;> rfl
theorem z_aald {a n : Nat} {f : Nat → Option Nat} {i : Int32} (hd : decode cc pc = .ok (.aaload, 1)) (ho : h[a]? = some (.inl (5, n, .inr (.inr (.inr (.inr f)))))) (hi : vp_in i n)
    (k0 : Z sc y cc nL ret d mc ms (pc + 1) ls (va_rf (f i.toNatClampNeg) :: st) h r h') : Z sc y cc nL ret d mc ms pc ls (.int i :: .ref a :: st) h r h' := by
  intro l p e R s m args below meth cd H locs cells slots tc ts D dA aS ad bs A la C0 hl hP hD hS hA hAb h1 h2 h3 h4 h5 h6
  have e1 : (zw ad dA h)[a]? = some (ad a, .inl (dA 5, n, .inr (.inr (.inr (.inr (fun j => (f j).map ad)))))) := zw_get ho
  refine va_aldq C0.1 C0.2.1 C0.2.2.2.2.2.2.2.2.2.2.2.1 hP a 5 e1 rfl hi hd ?_
  rw [va_rf_map]
  exact (k0 l p e R s m args below meth cd H locs cells slots tc ts D dA aS ad bs A la C0 hl hP hD hS hA hAb h1 h2 h3 h4 h5 h6)
theorem z_aast {a n v : Nat} {f : Nat → Option Nat} {i : Int32} {vs : List Value} (hd : decode cc pc = .ok (.aastore, 1)) (ho : h[a]? = some (.inl (5, n, .inr (.inr (.inr (.inr f)))))) (hv : h[v]? = some (.inr (5, vs))) (hi : vp_in i n)
    (k0 : Z sc y cc nL ret d mc ms (pc + 1) ls st (h.set a (.inl (5, n, .inr (.inr (.inr (.inr (va_up f i.toNatClampNeg (some v)))))))) r h') : Z sc y cc nL ret d mc ms pc ls (.ref v :: .int i :: .ref a :: st) h r h' := by
  intro l p e R s m args below meth cd H locs cells slots tc ts D dA aS ad bs A la C0 hl hP hD hS hA hAb h1 h2 h3 h4 h5 h6
  have e1 : (zw ad dA h)[a]? = some (ad a, .inl (dA 5, n, .inr (.inr (.inr (.inr (fun j => (f j).map ad)))))) := zw_get ho
  have e3 : (zw ad dA h)[v]? = some (ad v, .inr (5, vs.map (zv ad))) := zw_get hv
  refine va_astq (r := (RX5, TX5, 12)) C0.1 C0.2.1 C0.2.2.2.2.2.2.2.2.2.2.2.1 hP hD hS a 5 v 5 e1 rfl e3 rfl hi hd (fun H1 locs1 hP1 hD1 hS1 => ?_)
  have e2 : (ad a, (Sum.inl (dA 5, n, .inr (.inr (.inr (.inr (va_up (fun j => (f j).map ad) i.toNatClampNeg (some (ad v))))))) : va_E)) = (ad a, zr ad dA (.inl (5, n, .inr (.inr (.inr (.inr (va_up f i.toNatClampNeg (some v)))))))) := by
    have e9 : va_up (fun j => (f j).map ad) i.toNatClampNeg (some (ad v)) = fun j => (va_up f i.toNatClampNeg (some v) j).map ad := by
      funext j
      simp only [va_up]
      split <;> rfl
    rw [e9]
    rfl
  rw [e2, zw_set] at hP1 hD1
  have hz := k0 l p e R s m args below meth cd H1 locs1 cells slots tc ts D dA aS ad bs A la C0 hl hP1 hD1 hS1 hA hAb h1 h2 h3 h4 h5 h6
  rw [List.length_set] at hz
  exact hz
theorem z_iret {v : Int32} {ty : FieldType} (hd : decode cc pc = .ok (.ireturn, 1)) (ht : ret = some ty) (hn : narrow ty (.int v) = .int v) (hr : Sum.inl (some (.int v)) = r) (hh : h = h') : Z sc y cc nL ret d mc ms pc ls [.int v] h r h' := by
  intro l p e R s m args below meth cd H locs cells slots tc ts D dA aS ad bs A la C0 hl hP hD hS hA hAb h1 h2 h3 h4 h5 h6
  subst hr; subst hh
  have hlk := C0.2.2.2.2.2.2.1
  refine W.widen (k := tc) (n := ts) (by omega) (by omega) ?_
  exact vx_ret (W.zret C0.1 C0.2.1 (C0.2.2.2.2.2.1.trans ht) hn (fun t hT hW => ⟨some (.int v), ad, rfl, rfl, fun i _ => rfl, by rw [hT]; exact hP, hD, hS.F hT⟩) hS.2.2 hd)
theorem z_vret (hd : decode cc pc = .ok (.return_, 1)) (ht : ret = none) (hr : Sum.inl none = r) (hh : h = h') : Z sc y cc nL ret d mc ms pc ls [] h r h' := by
  intro l p e R s m args below meth cd H locs cells slots tc ts D dA aS ad bs A la C0 hl hP hD hS hA hAb h1 h2 h3 h4 h5 h6
  subst hr; subst hh
  have hlk := C0.2.2.2.2.2.2.1
  refine W.widen (k := tc) (n := ts) (by omega) (by omega) ?_
  exact vx_ret (W.vret C0.1 C0.2.1 (C0.2.2.2.2.2.1.trans ht) (fun t hT hW => ⟨none, ad, rfl, rfl, fun i _ => rfl, by rw [hT]; exact hP, hD, hS.F hT⟩) hS.2.2 hd)
theorem z_lret {v : Int64} (hd : decode cc pc = .ok (.lreturn, 1)) (ht : ret = some .long) (hr : Sum.inl (some (.long v)) = r) (hh : h = h') : Z sc y cc nL ret d mc ms pc ls [.long v] h r h' := by
  intro l p e R s m args below meth cd H locs cells slots tc ts D dA aS ad bs A la C0 hl hP hD hS hA hAb h1 h2 h3 h4 h5 h6
  subst hr; subst hh
  have hlk := C0.2.2.2.2.2.2.1
  refine W.widen (k := tc) (n := ts) (by omega) (by omega) ?_
  exact vx_ret (W.lret C0.1 C0.2.1 (C0.2.2.2.2.2.1.trans ht) (fun t hT hW => ⟨some (.long v), ad, rfl, rfl, fun i _ => rfl, by rw [hT]; exact hP, hD, hS.F hT⟩) hS.2.2 hd)
theorem z_aret {v : Option Nat} {rt : FieldType} (hd : decode cc pc = .ok (.areturn, 1)) (ht : ret = some rt) (hrt : (∃ n, rt = .object n) ∨ ∃ t, rt = .array t) (hr : Sum.inl (some (va_rf v)) = r) (hh : h = h') : Z sc y cc nL ret d mc ms pc ls [va_rf v] h r h' := by
  intro l p e R s m args below meth cd H locs cells slots tc ts D dA aS ad bs A la C0 hl hP hD hS hA hAb h1 h2 h3 h4 h5 h6
  subst hr; subst hh
  have hlk := C0.2.2.2.2.2.2.1
  refine W.widen (k := tc) (n := ts) (by omega) (by omega) ?_
  have e9 : ([va_rf v].map (zv ad)) = [va_rf (v.map ad)] := by rw [va_rf_map]; rfl
  rw [e9]
  exact vx_ret (W.aret C0.1 C0.2.1 (C0.2.2.2.2.2.1.trans ht) hrt (va_rf_or _) (fun t hT hW => ⟨some (va_rf v), ad, rfl, by rw [va_rf_map]; rfl, fun i _ => rfl, by rw [hT]; exact hP, hD, hS.F hT⟩) hS.2.2 hd)
end ZHEAP
