variable {sc : SC}
/-! ===== the same picture in another order, where more is made behind it ===== -/
section ZPERMG
variable {y : MethodName} {cc : ByteArray} {nL : Nat} {ret : Option FieldType} {d mc ms pc : Nat} {ls : List (Option Value)} {st : List Value} {h h2 : List zO} {r : zR} {h' h2' : List zO}
theorem Z.permG (n n' : Nat) (σ τ : Nat → Nat) (hn : h.length = n) (hn2 : h2.length = n) (hn' : h'.length = n') (hn2' : h2'.length = n') (hnn : n < n') (hs : ∀ i, i < n → σ i < n ∧ τ (σ i) = i) (ht : ∀ i, i < n → τ i < n ∧ σ (τ i) = i) (hs' : ∀ i, i < n' → σ i < n' ∧ τ (σ i) = i) (ht' : ∀ i, i < n' → τ i < n' ∧ σ (τ i) = i) (hfix : ∀ i, τ (1000000 + i) = 1000000 + i) (hfs : ∀ i, σ (1000000 + i) = 1000000 + i)
    (e : ∀ i, i < n → h2[σ i]? = (h[i]?).map (zren σ)) (hb : zbh n h) (hb2 : zbh n' h2') (e' : ∀ i, i < n' → h'[i]? = (h2'[σ i]?).map (zren τ)) (hl : ∀ v, some v ∈ ls → zbw n v) (hst : ∀ v ∈ st, zbw n v) (hv : ∀ v, r = .inl v → ∀ f g, v.map (zv f) = v.map (zv g))
    (k : Z sc y cc nL ret d mc ms pc (ls.map (fun x => x.map (zv σ))) (st.map (zv σ)) h2 r h2') : Z sc y cc nL ret d mc ms pc ls st h r h' := by
  intro l p e9 R s m args below meth cd H locs cells slots tc ts D dA aS ad bs A la C0 hla hP hD hS hA hAb h1 h2a h3 h4 h5 h6
  have hx : ∀ k, k < n → (zw (fun i => ad (τ i)) dA h2)[k]? = (zw ad dA h)[τ k]? := fun k hk => by
    obtain ⟨hk1, hk2⟩ := ht k hk
    have e1 := e (τ k) hk1
    rw [hk2] at e1
    have hlt : τ k < h.length := by omega
    rw [List.getElem?_eq_getElem hlt] at e1
    rw [zw_get e1, zw_get (List.getElem?_eq_getElem hlt), zr_ren]
    have e2 : zr (fun i => ad (τ (σ i))) dA h[τ k] = zr ad dA h[τ k] := zr_congr (hb _ (List.getElem_mem hlt)) (fun i hi => by rw [(hs i hi).2])
    exact congrArg some (congrArg (Prod.mk (ad (τ k))) e2)
  have hlt2 : ∀ k q, (zw (fun i => ad (τ i)) dA h2)[k]? = some q → k < n := fun k q hk => by
    have h9 := (List.getElem?_eq_some_iff.mp hk).1
    rw [zw_len] at h9
    omega
  have hP2 : va_P D vwCl (zw (fun i => ad (τ i)) dA h2) H := fun k q hk => hP (τ k) q (by rw [← hx k (hlt2 k q hk)]; exact hk)
  have hD2 : va_D A (zw (fun i => ad (τ i)) dA h2) := ⟨fun i j p9 q9 hi hj e5 => by
    have e6 := hD.1 (τ i) (τ j) p9 q9 (by rw [← hx i (hlt2 i _ hi)]; exact hi) (by rw [← hx j (hlt2 j _ hj)]; exact hj) e5
    rw [← (ht i (hlt2 i _ hi)).2, e6, (ht j (hlt2 j _ hj)).2], fun k q hk => hD.2 (τ k) q (by rw [← hx k (hlt2 k q hk)]; exact hk)⟩
  have C1 : zC sc y cc nL ret l p s m args meth cd D dA aS (fun i => ad (τ i)) bs := by
    obtain ⟨a1, a2, a3, a4, a5, a6, a7, a8, ⟨a9, a10⟩, a11⟩ := C0
    exact ⟨a1, a2, a3, a4, a5, a6, a7, a8, ⟨a9, fun i => (congrArg ad (hfix i)).trans (a10 i)⟩, a11⟩
  have hla2 : zLv (fun i => ad (τ i)) la nL (ls.map (fun x => x.map (zv σ))) := by
    show lv_has la nL _
    rw [zl_map, List.map_map]
    have e2 : (zl 0 ls).map ((fun q9 : Nat × Value => (q9.1, zv (fun i => ad (τ i)) q9.2)) ∘ fun q => (q.1, zv σ q.2)) = (zl 0 ls).map (fun q9 => (q9.1, zv ad q9.2)) := List.map_congr_left (fun x hx9 => by
      obtain ⟨i, g1, g2⟩ := zl_inv ls 0 x hx9
      show (x.1, zv (fun i => ad (τ i)) (zv σ x.2)) = _
      rw [zv_zv]
      exact congrArg (Prod.mk x.1) (zv_congrw (hl x.2 (List.mem_of_getElem? g2)) (fun i hi => by rw [(hs i hi).2]) (fun i => by rw [hfs, hfix])))
    rw [e2]
    exact hla
  have est : (st.map (zv σ)).map (zv (fun i => ad (τ i))) = st.map (zv ad) := by
    rw [List.map_map]
    exact List.map_congr_left (fun v hv9 => by
      show zv (fun i => ad (τ i)) (zv σ v) = _
      rw [zv_zv]
      exact zv_congrw (hst v hv9) (fun i hi => by rw [(hs i hi).2]) (fun i => by rw [hfs, hfix]))
  have hz := k l p e9 R s m args below meth cd H locs cells slots tc ts D dA aS (fun i => ad (τ i)) bs A la C1 hla2 hP2 hD2 hS hA hAb h1 h2a h3 h4 h5 h6
  rw [est] at hz
  have hfin : ∀ ad' s9 t9, zFin D dA (fun i => ad (τ i)) A h2.length h2' ad' s9 t9 → zFin D dA ad A h.length h' (fun i => ad' (σ i)) s9 t9 := fun ad' s9 t9 ⟨f1, f2, f3, f4⟩ => by
    have hy : ∀ k, k < n' → (zw (fun i => ad' (σ i)) dA h')[k]? = (zw ad' dA h2')[σ k]? := fun k hk => by
      obtain ⟨hk1, hk2⟩ := hs' k hk
      have e1 := e' k hk
      have hlt : σ k < h2'.length := by omega
      rw [List.getElem?_eq_getElem hlt] at e1
      rw [zw_get e1, zw_get (List.getElem?_eq_getElem hlt), zr_ren]
      have e2 : zr (fun i => ad' (σ (τ i))) dA h2'[σ k] = zr ad' dA h2'[σ k] := zr_congr (hb2 _ (List.getElem_mem hlt)) (fun i hi => by rw [(ht' i hi).2])
      exact congrArg some (congrArg (Prod.mk (ad' (σ k))) e2)
    have hlt3 : ∀ k q, (zw (fun i => ad' (σ i)) dA h')[k]? = some q → k < n' := fun k q hk => by
      have h9 := (List.getElem?_eq_some_iff.mp hk).1
      rw [zw_len] at h9
      omega
    refine ⟨fun i hi => ?_, fun k q hk => f2 (σ k) q (by rw [← hy k (hlt3 k q hk)]; exact hk), ⟨fun i j p9 q9 hi hj e5 => ?_, fun k q hk => f3.2 (σ k) q (by rw [← hy k (hlt3 k q hk)]; exact hk)⟩, f4⟩
    · have hi2 : i < n := by omega
      show ad' (σ i) = ad i
      exact (f1 (σ i) (Or.inl (by rw [hn2]; exact (hs i hi2).1))).trans (congrArg ad (hs i hi2).2)
    · have e6 := f3.1 (σ i) (σ j) p9 q9 (by rw [← hy i (hlt3 i _ hi)]; exact hi) (by rw [← hy j (hlt3 j _ hj)]; exact hj) e5
      rw [← (hs' i (hlt3 i _ hi)).2, e6, (hs' j (hlt3 j _ hj)).2]
  intro T hT X
  obtain ⟨t2, a1, b1⟩ := hz T hT X
  refine ⟨t2, a1, vx_MQ_mono ?_ ?_ b1⟩
  · rintro a s9 o t ⟨v, ad', f1, f2, f3⟩
    exact ⟨v, _, f1, by rw [f2, hv v f1 _ (fun i => ad' (σ i))], hfin _ _ _ f3⟩
  · rintro E s9 t ⟨f1, ad', f3⟩
    exact ⟨f1, _, hfin _ _ _ f3⟩
end ZPERMG
def lσ (i : Nat) : Nat := if i < 10 then i else if i < 93 then i + 22 else if i < 95 then i - 83 else if i < 113 then i - 81 else if i < 115 then i - 101 else i
def lτ (i : Nat) : Nat := if i < 10 then i else if i < 12 then i + 83 else if i < 14 then i + 101 else if i < 32 then i + 81 else if i < 115 then i - 22 else i
theorem lστ : ∀ i, i < 115 → lσ i < 115 ∧ lτ (lσ i) = i := by decide +kernel
theorem lτσ : ∀ i, i < 115 → lτ i < 115 ∧ lσ (lτ i) = i := by decide +kernel
theorem lστ' : ∀ i, i < 126 → lσ i < 126 ∧ lτ (lσ i) = i := by decide +kernel
theorem lτσ' : ∀ i, i < 126 → lτ i < 126 ∧ lσ (lτ i) = i := by decide +kernel
theorem lτ_fix (i : Nat) : lτ (1000000 + i) = 1000000 + i := by
  unfold lτ
  rw [if_neg (by omega), if_neg (by omega), if_neg (by omega), if_neg (by omega), if_neg (by omega)]
theorem lσ_fix (i : Nat) : lσ (1000000 + i) = 1000000 + i := by
  unfold lσ
  rw [if_neg (by omega), if_neg (by omega), if_neg (by omega), if_neg (by omega), if_neg (by omega)]
theorem l_hist : (iHi.map (zren (zs1 0))).map (zren lσ) = hist iZ 0 (fun _ => tZ) := by
  rw [iHi, hist, List.map_map, List.map_map]
  refine List.map_congr_left (fun x hx => ?_)
  have h1 := hho_b x hx
  show zren lσ (zren (zs1 0) (zren (zs1 10) x)) = _
  rw [zren_seg (k := zs1 10) h1 (fun i hi => by rw [zs1_lo (b := 10) (by omega), zs1_lo (b := 0) (by omega)]; omega)]
  exact zren_seg h1 (by decide +kernel)
noncomputable def LA : List zO := ([] : List zO) ++ (iH iT4).map (zren (zs1 0))
noncomputable def LI : List zO := FH iZ iZ iZ iT4 iZ tZ 0 (fun _ => tZ) tZ
theorem LA_len : LA.length = 115 := by
  simp only [LA, List.length_append, List.length_map, List.length_nil, iH_len]
theorem l_seg0 : ∀ i, 0 ≤ i → i < 0 + 1 → LI[lσ i]? = (LA[i]?).map (zren lσ) :=
  zseg (A1 := ([] : List zO)) (C1 := ([iO]).map (zren (zs1 0))) (B1 := (((tho 1 iT4).map (zren (zs1 0)) : List zO) ++ ((iHi).map (zren (zs1 0)) : List zO) ++ ((tho 84 tZ).map (zren (zs1 0)) : List zO) ++ ((xho 93 iZ).map (zren (zs1 0)) : List zO) ++ ((sho 95 iZ tZ).map (zren (zs1 0)) : List zO) ++ ((rho 113 iZ).map (zren (zs1 0)) : List zO))) (A2 := ([] : List zO)) (C2 := ([.inr (6, [.ref 1, .ref 32, .ref 106, .int (iZ.1 0), .ref 10, .ref 14, .ref 12])] : List zO)) (B2 := ((tho 1 iT4 : List zO) ++ (xho 10 iZ : List zO) ++ (rho 12 iZ : List zO) ++ (sho 14 iZ tZ : List zO) ++ (hist iZ 0 (fun _ => tZ) : List zO) ++ (tho 106 tZ : List zO))) (a := 0) (b := 0) (m := 1) (by simp only [LA, iH, iC, List.map_append, List.append_assoc, List.cons_append, List.nil_append, List.append_nil, List.map_cons, List.map_nil]) (by simp only [LI, FH, qh, fr, List.map_append, List.append_assoc, List.cons_append, List.nil_append, List.append_nil, List.map_cons, List.map_nil]) (by simp only [hist, List.length_append, List.length_map, List.length_cons, List.length_nil, tho_len, iHi_len, xho_len, sho_len, rho_len]; all_goals rfl) (by simp only [hist, List.length_append, List.length_map, List.length_cons, List.length_nil, tho_len, hho_len, xho_len, sho_len, rho_len]; all_goals rfl) (by simp only [List.length_map, List.length_cons, List.length_nil, tho_len, iHi_len, xho_len, sho_len, rho_len]; all_goals rfl) (rfl) (by decide +kernel)
theorem l_seg1 : ∀ i, 1 ≤ i → i < 1 + 9 → LI[lσ i]? = (LA[i]?).map (zren lσ) :=
  zseg (A1 := ((([iO]).map (zren (zs1 0)) : List zO))) (C1 := (tho 1 iT4).map (zren (zs1 0))) (B1 := (((iHi).map (zren (zs1 0)) : List zO) ++ ((tho 84 tZ).map (zren (zs1 0)) : List zO) ++ ((xho 93 iZ).map (zren (zs1 0)) : List zO) ++ ((sho 95 iZ tZ).map (zren (zs1 0)) : List zO) ++ ((rho 113 iZ).map (zren (zs1 0)) : List zO))) (A2 := ((([.inr (6, [.ref 1, .ref 32, .ref 106, .int (iZ.1 0), .ref 10, .ref 14, .ref 12])] : List zO) : List zO))) (C2 := tho 1 iT4) (B2 := ((xho 10 iZ : List zO) ++ (rho 12 iZ : List zO) ++ (sho 14 iZ tZ : List zO) ++ (hist iZ 0 (fun _ => tZ) : List zO) ++ (tho 106 tZ : List zO))) (a := 1) (b := 1) (m := 9) (by simp only [LA, iH, iC, List.map_append, List.append_assoc, List.cons_append, List.nil_append, List.append_nil, List.map_cons, List.map_nil]) (by simp only [LI, FH, qh, fr, List.map_append, List.append_assoc, List.cons_append, List.nil_append, List.append_nil, List.map_cons, List.map_nil]) (by simp only [hist, List.length_append, List.length_map, List.length_cons, List.length_nil, tho_len, iHi_len, xho_len, sho_len, rho_len]; all_goals rfl) (by simp only [hist, List.length_append, List.length_map, List.length_cons, List.length_nil, tho_len, hho_len, xho_len, sho_len, rho_len]; all_goals rfl) (by simp only [List.length_map, List.length_cons, List.length_nil, tho_len, iHi_len, xho_len, sho_len, rho_len]; all_goals rfl) (rfl) (by decide +kernel)
theorem l_seg2 : ∀ i, 10 ≤ i → i < 10 + 74 → LI[lσ i]? = (LA[i]?).map (zren lσ) :=
  zseg (A1 := ((([iO]).map (zren (zs1 0)) : List zO) ++ ((tho 1 iT4).map (zren (zs1 0)) : List zO))) (C1 := (iHi).map (zren (zs1 0))) (B1 := (((tho 84 tZ).map (zren (zs1 0)) : List zO) ++ ((xho 93 iZ).map (zren (zs1 0)) : List zO) ++ ((sho 95 iZ tZ).map (zren (zs1 0)) : List zO) ++ ((rho 113 iZ).map (zren (zs1 0)) : List zO))) (A2 := ((([.inr (6, [.ref 1, .ref 32, .ref 106, .int (iZ.1 0), .ref 10, .ref 14, .ref 12])] : List zO) : List zO) ++ (tho 1 iT4 : List zO) ++ (xho 10 iZ : List zO) ++ (rho 12 iZ : List zO) ++ (sho 14 iZ tZ : List zO))) (C2 := hist iZ 0 (fun _ => tZ)) (B2 := ((tho 106 tZ : List zO))) (a := 10) (b := 32) (m := 74) (by simp only [LA, iH, iC, List.map_append, List.append_assoc, List.cons_append, List.nil_append, List.append_nil, List.map_cons, List.map_nil]) (by simp only [LI, FH, qh, fr, List.map_append, List.append_assoc, List.cons_append, List.nil_append, List.append_nil, List.map_cons, List.map_nil]) (by simp only [hist, List.length_append, List.length_map, List.length_cons, List.length_nil, tho_len, iHi_len, xho_len, sho_len, rho_len]; all_goals rfl) (by simp only [hist, List.length_append, List.length_map, List.length_cons, List.length_nil, tho_len, hho_len, xho_len, sho_len, rho_len]; all_goals rfl) (by simp only [List.length_map, List.length_cons, List.length_nil, tho_len, iHi_len, xho_len, sho_len, rho_len]; all_goals rfl) (l_hist) (by decide +kernel)
theorem l_seg3 : ∀ i, 84 ≤ i → i < 84 + 9 → LI[lσ i]? = (LA[i]?).map (zren lσ) :=
  zseg (A1 := ((([iO]).map (zren (zs1 0)) : List zO) ++ ((tho 1 iT4).map (zren (zs1 0)) : List zO) ++ ((iHi).map (zren (zs1 0)) : List zO))) (C1 := (tho 84 tZ).map (zren (zs1 0))) (B1 := (((xho 93 iZ).map (zren (zs1 0)) : List zO) ++ ((sho 95 iZ tZ).map (zren (zs1 0)) : List zO) ++ ((rho 113 iZ).map (zren (zs1 0)) : List zO))) (A2 := ((([.inr (6, [.ref 1, .ref 32, .ref 106, .int (iZ.1 0), .ref 10, .ref 14, .ref 12])] : List zO) : List zO) ++ (tho 1 iT4 : List zO) ++ (xho 10 iZ : List zO) ++ (rho 12 iZ : List zO) ++ (sho 14 iZ tZ : List zO) ++ (hist iZ 0 (fun _ => tZ) : List zO))) (C2 := tho 106 tZ) (B2 := ([] : List zO)) (a := 84) (b := 106) (m := 9) (by simp only [LA, iH, iC, List.map_append, List.append_assoc, List.cons_append, List.nil_append, List.append_nil, List.map_cons, List.map_nil]) (by simp only [LI, FH, qh, fr, List.map_append, List.append_assoc, List.cons_append, List.nil_append, List.append_nil, List.map_cons, List.map_nil]) (by simp only [hist, List.length_append, List.length_map, List.length_cons, List.length_nil, tho_len, iHi_len, xho_len, sho_len, rho_len]; all_goals rfl) (by simp only [hist, List.length_append, List.length_map, List.length_cons, List.length_nil, tho_len, hho_len, xho_len, sho_len, rho_len]; all_goals rfl) (by simp only [List.length_map, List.length_cons, List.length_nil, tho_len, iHi_len, xho_len, sho_len, rho_len]; all_goals rfl) (rfl) (by decide +kernel)
theorem l_seg4 : ∀ i, 93 ≤ i → i < 93 + 2 → LI[lσ i]? = (LA[i]?).map (zren lσ) :=
  zseg (A1 := ((([iO]).map (zren (zs1 0)) : List zO) ++ ((tho 1 iT4).map (zren (zs1 0)) : List zO) ++ ((iHi).map (zren (zs1 0)) : List zO) ++ ((tho 84 tZ).map (zren (zs1 0)) : List zO))) (C1 := (xho 93 iZ).map (zren (zs1 0))) (B1 := (((sho 95 iZ tZ).map (zren (zs1 0)) : List zO) ++ ((rho 113 iZ).map (zren (zs1 0)) : List zO))) (A2 := ((([.inr (6, [.ref 1, .ref 32, .ref 106, .int (iZ.1 0), .ref 10, .ref 14, .ref 12])] : List zO) : List zO) ++ (tho 1 iT4 : List zO))) (C2 := xho 10 iZ) (B2 := ((rho 12 iZ : List zO) ++ (sho 14 iZ tZ : List zO) ++ (hist iZ 0 (fun _ => tZ) : List zO) ++ (tho 106 tZ : List zO))) (a := 93) (b := 10) (m := 2) (by simp only [LA, iH, iC, List.map_append, List.append_assoc, List.cons_append, List.nil_append, List.append_nil, List.map_cons, List.map_nil]) (by simp only [LI, FH, qh, fr, List.map_append, List.append_assoc, List.cons_append, List.nil_append, List.append_nil, List.map_cons, List.map_nil]) (by simp only [hist, List.length_append, List.length_map, List.length_cons, List.length_nil, tho_len, iHi_len, xho_len, sho_len, rho_len]; all_goals rfl) (by simp only [hist, List.length_append, List.length_map, List.length_cons, List.length_nil, tho_len, hho_len, xho_len, sho_len, rho_len]; all_goals rfl) (by simp only [List.length_map, List.length_cons, List.length_nil, tho_len, iHi_len, xho_len, sho_len, rho_len]; all_goals rfl) (rfl) (by decide +kernel)
theorem l_seg5 : ∀ i, 95 ≤ i → i < 95 + 18 → LI[lσ i]? = (LA[i]?).map (zren lσ) :=
  zseg (A1 := ((([iO]).map (zren (zs1 0)) : List zO) ++ ((tho 1 iT4).map (zren (zs1 0)) : List zO) ++ ((iHi).map (zren (zs1 0)) : List zO) ++ ((tho 84 tZ).map (zren (zs1 0)) : List zO) ++ ((xho 93 iZ).map (zren (zs1 0)) : List zO))) (C1 := (sho 95 iZ tZ).map (zren (zs1 0))) (B1 := (((rho 113 iZ).map (zren (zs1 0)) : List zO))) (A2 := ((([.inr (6, [.ref 1, .ref 32, .ref 106, .int (iZ.1 0), .ref 10, .ref 14, .ref 12])] : List zO) : List zO) ++ (tho 1 iT4 : List zO) ++ (xho 10 iZ : List zO) ++ (rho 12 iZ : List zO))) (C2 := sho 14 iZ tZ) (B2 := ((hist iZ 0 (fun _ => tZ) : List zO) ++ (tho 106 tZ : List zO))) (a := 95) (b := 14) (m := 18) (by simp only [LA, iH, iC, List.map_append, List.append_assoc, List.cons_append, List.nil_append, List.append_nil, List.map_cons, List.map_nil]) (by simp only [LI, FH, qh, fr, List.map_append, List.append_assoc, List.cons_append, List.nil_append, List.append_nil, List.map_cons, List.map_nil]) (by simp only [hist, List.length_append, List.length_map, List.length_cons, List.length_nil, tho_len, iHi_len, xho_len, sho_len, rho_len]; all_goals rfl) (by simp only [hist, List.length_append, List.length_map, List.length_cons, List.length_nil, tho_len, hho_len, xho_len, sho_len, rho_len]; all_goals rfl) (by simp only [List.length_map, List.length_cons, List.length_nil, tho_len, iHi_len, xho_len, sho_len, rho_len]; all_goals rfl) (rfl) (by decide +kernel)
theorem l_seg6 : ∀ i, 113 ≤ i → i < 113 + 2 → LI[lσ i]? = (LA[i]?).map (zren lσ) :=
  zseg (A1 := ((([iO]).map (zren (zs1 0)) : List zO) ++ ((tho 1 iT4).map (zren (zs1 0)) : List zO) ++ ((iHi).map (zren (zs1 0)) : List zO) ++ ((tho 84 tZ).map (zren (zs1 0)) : List zO) ++ ((xho 93 iZ).map (zren (zs1 0)) : List zO) ++ ((sho 95 iZ tZ).map (zren (zs1 0)) : List zO))) (C1 := (rho 113 iZ).map (zren (zs1 0))) (B1 := ([] : List zO)) (A2 := ((([.inr (6, [.ref 1, .ref 32, .ref 106, .int (iZ.1 0), .ref 10, .ref 14, .ref 12])] : List zO) : List zO) ++ (tho 1 iT4 : List zO) ++ (xho 10 iZ : List zO))) (C2 := rho 12 iZ) (B2 := ((sho 14 iZ tZ : List zO) ++ (hist iZ 0 (fun _ => tZ) : List zO) ++ (tho 106 tZ : List zO))) (a := 113) (b := 12) (m := 2) (by simp only [LA, iH, iC, List.map_append, List.append_assoc, List.cons_append, List.nil_append, List.append_nil, List.map_cons, List.map_nil]) (by simp only [LI, FH, qh, fr, List.map_append, List.append_assoc, List.cons_append, List.nil_append, List.append_nil, List.map_cons, List.map_nil]) (by simp only [hist, List.length_append, List.length_map, List.length_cons, List.length_nil, tho_len, iHi_len, xho_len, sho_len, rho_len]; all_goals rfl) (by simp only [hist, List.length_append, List.length_map, List.length_cons, List.length_nil, tho_len, hho_len, xho_len, sho_len, rho_len]; all_goals rfl) (by simp only [List.length_map, List.length_cons, List.length_nil, tho_len, iHi_len, xho_len, sho_len, rho_len]; all_goals rfl) (rfl) (by decide +kernel)
theorem l_all : ∀ i, i < 115 → LI[lσ i]? = (LA[i]?).map (zren lσ) := by
  intro i hi
  rcases (by omega : (0 ≤ i ∧ i < 0 + 1) ∨ (1 ≤ i ∧ i < 1 + 9) ∨ (10 ≤ i ∧ i < 10 + 74) ∨ (84 ≤ i ∧ i < 84 + 9) ∨ (93 ≤ i ∧ i < 93 + 2) ∨ (95 ≤ i ∧ i < 95 + 18) ∨ (113 ≤ i ∧ i < 113 + 2)) with ⟨h1, h2⟩ | ⟨h1, h2⟩ | ⟨h1, h2⟩ | ⟨h1, h2⟩ | ⟨h1, h2⟩ | ⟨h1, h2⟩ | ⟨h1, h2⟩
  · exact l_seg0 i h1 h2
  · exact l_seg1 i h1 h2
  · exact l_seg2 i h1 h2
  · exact l_seg3 i h1 h2
  · exact l_seg4 i h1 h2
  · exact l_seg5 i h1 h2
  · exact l_seg6 i h1 h2
theorem LA_b : zbh 115 LA := by
  have h9 := iH_b
  rw [iH_len] at h9
  exact zbh_app (zbh_of rfl) (zbh_ren (m := 115) h9 (by decide) (by decide))
def lback (h2 : List zO) : List zO := (List.range 126).map (fun i => zren lτ ((h2[lσ i]?).getD (.inl (0, 0, .inl (fun _ => 0)))))
theorem lback_len (h2 : List zO) : (lback h2).length = 126 := by rw [lback, List.length_map, List.length_range]
theorem lback_at {h2 : List zO} (hl : h2.length = 126) : ∀ i, i < 126 → (lback h2)[i]? = (h2[lσ i]?).map (zren lτ) := by
  intro i hi
  have h3 := (lστ' i hi).1
  rw [lback, List.getElem?_map, List.getElem?_range hi]
  have e9 : h2[lσ i]? = some h2[lσ i] := List.getElem?_eq_getElem (show lσ i < h2.length by omega)
  show some (zren lτ ((h2[lσ i]?).getD (.inl (0, 0, .inl (fun _ => 0))))) = (h2[lσ i]?).map (zren lτ)
  rw [e9]
  rfl
/-- a new object: the picture as it is told -/
theorem l_new {mc ms : Nat} {v : Int32} {h2 : List zO} (hl : h2.length = 126) (hb2 : zbh 126 h2)
    (k : Z sc yL_law cL_law 22 (some .boolean) 5 mc ms 8 ([some (.ref 1000202), some (.ref 0)] ++ List.replicate 20 none) [] LI (.inl (some (.int v))) h2) :
    Z sc yL_law cL_law 22 (some .boolean) 5 (mc + 114 + 1) (ms + 13269 + 7) 0 ([some (.ref 1000202)] ++ List.replicate 21 none) [] ([] : List zO) (.inl (some (.int v))) (lback h2) := by
  refine z_mkX6n (h := ([] : List zO)) dL_law_0 dL_law_3 dL_law_4 zcl_L_8 zm_L_69 (by decide) (Nat.le_of_ble_eq_true rfl) (zbh_of rfl) (zbl_of rfl) (zbs_of rfl) (by rw [lback_len]; exact (show 0 + 115 ≤ 126 by decide)) (show (0 : Nat) < 999000 by decide) ?_
  rw [show ([] : List zO).length = 0 from rfl]
  refine z_astore_1 dL_law_7 rfl (by decide) ?_
  exact Z.permG (h := LA) (h2 := LI) 115 126 lσ lτ LA_len (FH_len9 _ _ _ _ _ _ _ _ _) (lback_len h2) hl (by decide) lστ lτσ lστ' lτσ' lτ_fix lσ_fix l_all LA_b hb2 (lback_at hl) (zbl_of rfl) (zbs_of rfl) (fun v e f g => by cases e; rfl) k
