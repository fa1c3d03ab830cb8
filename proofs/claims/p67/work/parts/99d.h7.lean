variable {sc : SC}
theorem zl_map (σ : Nat → Nat) : ∀ (ls : List (Option Value)) (k : Nat), zl k (ls.map (fun x => x.map (zv σ))) = (zl k ls).map (fun q => (q.1, zv σ q.2)) := by
  intro ls
  induction ls with
  | nil => intro k; rfl
  | cons x t ih =>
    intro k
    cases x with
    | none => exact ih (k + 1)
    | some v => exact congrArg (List.cons (k, zv σ v)) (ih (k + 1))
section ZPERM
variable {y : MethodName} {cc : ByteArray} {nL : Nat} {ret : Option FieldType} {d mc ms pc : Nat} {ls : List (Option Value)} {st : List Value} {h h2 : List zO} {r : zR} {h' h2' : List zO}
theorem Z.perm (n : Nat) (σ τ : Nat → Nat) (hn : h.length = n) (hn2 : h2.length = n) (hn' : h'.length = n) (hn2' : h2'.length = n) (hs : ∀ i, i < n → σ i < n ∧ τ (σ i) = i) (ht : ∀ i, i < n → τ i < n ∧ σ (τ i) = i) (hfix : ∀ i, τ (1000000 + i) = 1000000 + i) (hfs : ∀ i, σ (1000000 + i) = 1000000 + i)
    (e : ∀ i, i < n → h2[σ i]? = (h[i]?).map (zren σ)) (hb : zbh n h) (e' : ∀ i, i < n → h'[i]? = (h2'[σ i]?).map (zren τ)) (hl : ∀ v, some v ∈ ls → zbw n v) (hst : ∀ v ∈ st, zbw n v) (hv : ∀ v, r = .inl v → ∀ f g, v.map (zv f) = v.map (zv g))
    (k : Z sc y cc nL ret d mc ms pc (ls.map (fun x => x.map (zv σ))) (st.map (zv σ)) h2 r h2') : Z sc y cc nL ret d mc ms pc ls st h r h' := by
  intro l p e9 R s m args below meth cd H locs cells slots tc ts D dA aS ad bs A la C0 hla hP hD hS hA hAb h1 h2a h3 h4 h5 h6
  have hx : ∀ k, k < n → (zw (fun i => ad (τ i)) dA h2)[k]? = (zw ad dA h)[τ k]? := fun k hk => by
    obtain ⟨hk1, hk2⟩ := ht k hk
    have e1 := e (τ k) hk1
    rw [hk2] at e1
    have hlt : τ k < h.length := by omega
    rw [List.getElem?_eq_getElem hlt] at e1
    rw [zw_get e1, zw_get (List.getElem?_eq_getElem hlt), zr_ren]
    have e2 : zr (fun i => ad (τ (σ i))) dA h[τ k] = zr ad dA h[τ k] := zr_congr (hb _ (List.getElem_mem hlt)) (fun i hi => by rw [(hs i hi).2])
    exact congrArg some (congrArg (Prod.mk (ad (τ k))) e2)
  have hlt2 : ∀ k q, (zw (fun i => ad (τ i)) dA h2)[k]? = some q → k < n := fun k q hk => by
    have h9 := (List.getElem?_eq_some_iff.mp hk).1
    rw [zw_len] at h9
    omega
  have hP2 : va_P D vwCl (zw (fun i => ad (τ i)) dA h2) H := fun k q hk => hP (τ k) q (by rw [← hx k (hlt2 k q hk)]; exact hk)
  have hD2 : va_D A (zw (fun i => ad (τ i)) dA h2) := ⟨fun i j p9 q9 hi hj e5 => by
    have e6 := hD.1 (τ i) (τ j) p9 q9 (by rw [← hx i (hlt2 i _ hi)]; exact hi) (by rw [← hx j (hlt2 j _ hj)]; exact hj) e5
    rw [← (ht i (hlt2 i _ hi)).2, e6, (ht j (hlt2 j _ hj)).2], fun k q hk => hD.2 (τ k) q (by rw [← hx k (hlt2 k q hk)]; exact hk)⟩
  have C1 : zC sc y cc nL ret l p s m args meth cd D dA aS (fun i => ad (τ i)) bs := by
    obtain ⟨a1, a2, a3, a4, a5, a6, a7, a8, ⟨a9, a10⟩, a11⟩ := C0
    exact ⟨a1, a2, a3, a4, a5, a6, a7, a8, ⟨a9, fun i => (congrArg ad (hfix i)).trans (a10 i)⟩, a11⟩
  have hla2 : zLv (fun i => ad (τ i)) la nL (ls.map (fun x => x.map (zv σ))) := by
    show lv_has la nL _
    rw [zl_map, List.map_map]
    have e2 : (zl 0 ls).map ((fun q9 : Nat × Value => (q9.1, zv (fun i => ad (τ i)) q9.2)) ∘ fun q => (q.1, zv σ q.2)) = (zl 0 ls).map (fun q9 => (q9.1, zv ad q9.2)) := List.map_congr_left (fun x hx9 => by
      obtain ⟨i, g1, g2⟩ := zl_inv ls 0 x hx9
      show (x.1, zv (fun i => ad (τ i)) (zv σ x.2)) = _
      rw [zv_zv]
      exact congrArg (Prod.mk x.1) (zv_congrw (hl x.2 (List.mem_of_getElem? g2)) (fun i hi => by rw [(hs i hi).2]) (fun i => by rw [hfs, hfix])))
    rw [e2]
    exact hla
  have est : (st.map (zv σ)).map (zv (fun i => ad (τ i))) = st.map (zv ad) := by
    rw [List.map_map]
    exact List.map_congr_left (fun v hv9 => by
      show zv (fun i => ad (τ i)) (zv σ v) = _
      rw [zv_zv]
      exact zv_congrw (hst v hv9) (fun i hi => by rw [(hs i hi).2]) (fun i => by rw [hfs, hfix]))
  have hz := k l p e9 R s m args below meth cd H locs cells slots tc ts D dA aS (fun i => ad (τ i)) bs A la C1 hla2 hP2 hD2 hS hA hAb h1 h2a h3 h4 h5 h6
  rw [est] at hz
  have hfin : ∀ ad' s9 t9, zFin D dA (fun i => ad (τ i)) A h2.length h2' ad' s9 t9 → zFin D dA ad A h.length h' ad s9 t9 := fun ad' s9 t9 ⟨f1, f2, f3, f4⟩ => by
    have e8 : ad' = fun i => ad (τ i) := funext fun i => f1 i (Or.inr (by omega))
    subst e8
    have hy : ∀ k, k < n → (zw ad dA h')[k]? = (zw (fun i => ad (τ i)) dA h2')[σ k]? := fun k hk => by
      obtain ⟨hk1, hk2⟩ := hs k hk
      have e1 := e' k hk
      have hlt : σ k < h2'.length := by omega
      rw [List.getElem?_eq_getElem hlt] at e1
      rw [zw_get e1, zw_get (List.getElem?_eq_getElem hlt), zr_ren, hk2]
    have hlt3 : ∀ k q, (zw ad dA h')[k]? = some q → k < n := fun k q hk => by
      have h9 := (List.getElem?_eq_some_iff.mp hk).1
      rw [zw_len] at h9
      omega
    refine ⟨fun i hi => rfl, fun k q hk => f2 (σ k) q (by rw [← hy k (hlt3 k q hk)]; exact hk), ⟨fun i j p9 q9 hi hj e5 => ?_, fun k q hk => f3.2 (σ k) q (by rw [← hy k (hlt3 k q hk)]; exact hk)⟩, f4⟩
    have e6 := f3.1 (σ i) (σ j) p9 q9 (by rw [← hy i (hlt3 i _ hi)]; exact hi) (by rw [← hy j (hlt3 j _ hj)]; exact hj) e5
    rw [← (hs i (hlt3 i _ hi)).2, e6, (hs j (hlt3 j _ hj)).2]
  intro T hT X
  obtain ⟨t2, a1, b1⟩ := hz T hT X
  refine ⟨t2, a1, vx_MQ_mono ?_ ?_ b1⟩
  · rintro a s9 o t ⟨v, ad', f1, f2, f3⟩
    exact ⟨v, ad, f1, by rw [f2, hv v f1 _ ad], hfin _ _ _ f3⟩
  · rintro E s9 t ⟨f1, ad', f3⟩
    exact ⟨f1, ad, hfin _ _ _ f3⟩
end ZPERM
