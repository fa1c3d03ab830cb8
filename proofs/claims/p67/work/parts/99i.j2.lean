variable {sc : SC}
section ZCB
variable {y : MethodName} {cc : ByteArray} {nL : Nat} {ret : Option FieldType} {d mc ms pc : Nat} {ls : List (Option Value)} {st : List Value} {h : List zO} {r : zR} {h' : List zO}
variable {y2 : MethodName} {cc2 : ByteArray} {nL2 : Nat} {ret2 : Option FieldType} {d2 mc2 ms2 : Nat} {av : List Value} {hc hc' rest : List zO} {stk : List Value} {ρ : Nat → Nat} {rv : Option Value}
theorem Z.callB (g : zRun sc y cc nL ret d pc h stk st y2 cc2 nL2 ret2 d2 mc2 ms2 av hc (.inl rv) hc' ρ) (hf : zfit ρ 0 h hc) (hinj : ∀ i j, i < hc.length → j < hc.length → ρ i = ρ j → i = j) (hlen : hc'.length = hc.length)
    (k : Z sc y cc nL ret d mc ms (pc + 3) ls (rv.toList.map (zv ρ) ++ st) (zplug ρ 0 h hc') r h') : Z sc y cc nL ret d (mc + mc2) (ms + ms2) pc ls stk h r h' := by
  intro l p e R s m args below meth cd H locs cells slots tc ts D dA aS ad bs A la C0 hl hP hD hS hA hAb h1 h2 h3 h4 h5 h6
  have hK := C0.2.2.2.2.2.2.2.2.2
  have hkb : ∀ a : Nat, a < s.heap.size → ¬ bs ≤ a → H[a]? = s.heap[a]? := fun a ha hb => hS.2.1 a ha (fun z => hb (hAb a z))
  have hF : ∀ q, va_A (zw (fun i => ad (ρ i)) dA hc) H.size q → A q := fun q hq => by
    rcases hq with ⟨k9, e9, hq⟩ | hq
    · exact (zcutD (B := A) hD hf hinj (fun _ z => z)).2 k9 (q, e9) hq
    · exact hA q (Nat.le_trans hS.1 hq)
  have hrun := g l p e R s m args below meth cd H locs cells slots D dA aS ad bs la C0 hP hl.1 hkb h1 h2 (by omega) (by omega)
    (fun U hU hW => ⟨rfl, by rw [hU], by rw [hU]; exact zcut (A := A) hP hf, hK.moved hW (by rw [hU]; exact hS.1) (fun a ha hb => by rw [hU]; exact hkb a ha hb), zcutD hD hf hinj hAb⟩)
  intro T hT X
  rcases hrun T hT X with ⟨v, st₀, t, T', L, h0, X', hL, e1, e2, ⟨v', ad', hv', hov, hfin⟩, stp⟩ | ⟨q, st₀, t, T', L, E, ce, h0, X', hL, e1, e2, ⟨hbad, -⟩, -⟩
  · obtain ⟨had, hPc, hDc, hFc⟩ := hfin
    have e9 : ad' = fun i => ad (ρ i) := funext fun i => had i (Or.inr hlen)
    subst e9
    cases hv'
    have hov2 : v = rv.map (zv (fun i => ad (ρ i))) := by injection hov
    subst hov2
    obtain ⟨k1, k2, k3⟩ := vx_keep h0 e1 hS (fun q _ z => hF q z) hF hL hFc
    have hP2 := zjoin (H1 := T'.heap) hP hD hf hinj hlen (by rw [e1]; exact hPc) k2
    have hD2 : va_D A (zw ad dA (zplug ρ 0 h hc')) := zD_len (zplug_len hc' 0 h).symm hD
    have hz := k l p e R s m args below meth cd T'.heap (locs ++ L) (cells + mc2) (slots + ms2) tc ts D dA aS ad bs A la C0 hl hP2 hD2 k3 hA hAb h1 h2 (by omega) (by omega) h5 h6
    rw [zplug_len] at hz
    have e10 : ((rv.map (zv (fun i => ad (ρ i)))).toList ++ st.map (zv ad)) = (rv.toList.map (zv ρ) ++ st).map (zv ad) := by
      cases rv with
      | none => simp
      | some w => simp [zv_zv]
    obtain ⟨t2, a1, b1⟩ := hz T' rfl X'
    refine ⟨t2, stp t2 ?_, b1⟩
    show Steps p.tables e below (T'.setTop (F0 m (pc + 3) la ((rv.map (zv (fun i => ad (ρ i)))).toList ++ st.map (zv ad)))) t2
    rw [e10]
    exact a1
  · cases hbad
theorem Z.callPB {v : Value} (g : zRun sc y cc nL ret d pc (h ++ rest) stk st y2 cc2 nL2 ret2 d2 mc2 ms2 av h (.inl (some v)) hc' (fun i => i)) (hlen : hc'.length = h.length)
    (k : Z sc y cc nL ret d mc ms (pc + 3) ls (v :: st) (hc' ++ rest) r h') : Z sc y cc nL ret d (mc + mc2) (ms + ms2) pc ls stk (h ++ rest) r h' :=
  Z.callB g (zfit_pre h rest) (fun _ _ _ _ e => e) hlen (by rw [zplug_pre hlen]; show Z sc y cc nL ret d mc ms (pc + 3) ls (zv (fun i => i) v :: st) (hc' ++ rest) r h'; rw [zv_id]; exact k)
end ZCB
