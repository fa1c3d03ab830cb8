variable {sc : SC}
theorem zv_congr {f g : Nat → Nat} {n : Nat} {v : Value} (h : zbv n v) (e : ∀ i, i < n → f i = g i) : zv f v = zv g v := by
  cases v with
  | ref a => exact congrArg Value.ref (e a (h a rfl))
  | int x => rfl
  | long x => rfl
  | float x => rfl
  | double x => rfl
  | null => rfl
  | retAddr x => rfl
theorem zv_congrw {f g : Nat → Nat} {n : Nat} {v : Value} (h : zbw n v) (e : ∀ i, i < n → f i = g i) (e2 : ∀ i, f (1000000 + i) = g (1000000 + i)) : zv f v = zv g v := by
  cases v with
  | ref a =>
    refine congrArg Value.ref ((h a rfl).elim (e a) (fun z => ?_))
    have := e2 (a - 1000000)
    rw [Nat.add_sub_cancel' z] at this
    exact this
  | int x => rfl
  | long x => rfl
  | float x => rfl
  | double x => rfl
  | null => rfl
  | retAddr x => rfl
theorem zr_congr {f g : Nat → Nat} {dA : Nat → ClassId} {n : Nat} {o : zO} (h : zbo n o) (e : ∀ i, i < n → f i = g i) : zr f dA o = zr g dA o := by
  rcases o with ⟨t, k, x | x | x | x | x⟩ | ⟨ci, fs⟩
  · rfl
  · rfl
  · rfl
  · rfl
  · show (Sum.inl (dA t, (k, .inr (.inr (.inr (.inr (fun j => (x j).map f)))))) : va_E) = Sum.inl (dA t, (k, .inr (.inr (.inr (.inr (fun j => (x j).map g))))))
    have e2 : (fun j => (x j).map f) = fun j => (x j).map g := by
      funext j
      have h2 := h j
      cases e3 : x j with
      | none => rfl
      | some a => exact congrArg some (e a (h2 a e3))
    rw [e2]
  · show (Sum.inr (ci, fs.map (zv f)) : va_E) = Sum.inr (ci, fs.map (zv g))
    have e2 : fs.map (zv f) = fs.map (zv g) := List.map_congr_left (fun v hv => zv_congr (h v hv) e)
    rw [e2]
theorem zLv_congr {ad ad' : Nat → Nat} {la : Array Slot} {nL n : Nat} {ls : List (Option Value)} (h : zLv ad la nL ls) (hb : ∀ v, some v ∈ ls → zbw n v) (e : ∀ i, i < n → ad' i = ad i) (e3 : ∀ i, ad' (1000000 + i) = ad (1000000 + i)) : zLv ad' la nL ls := by
  have e2 : (zl 0 ls).map (fun q9 => (q9.1, zv ad' q9.2)) = (zl 0 ls).map (fun q9 => (q9.1, zv ad q9.2)) := List.map_congr_left (fun x hx => by
    obtain ⟨i, h1, h2⟩ := zl_inv ls 0 x hx
    exact congrArg (Prod.mk x.1) (zv_congrw (hb x.2 (List.mem_of_getElem? h2)) e e3))
  show lv_has la nL _
  rw [e2]
  exact h
section ZCALLG2
variable {y : MethodName} {cc : ByteArray} {nL : Nat} {ret : Option FieldType} {d mc ms pc : Nat} {ls : List (Option Value)} {st : List Value} {r : zR} {h' : List zO}
variable {y2 : MethodName} {cc2 : ByteArray} {nL2 : Nat} {d2 mc2 ms2 : Nat} {hc' : List zO} {A0 : List zO} {x : zO} {stk : List Value}
theorem Z.callG (g : zRun sc y cc nL ret d pc (A0 ++ [zren (zs1 A0.length) x]) stk st y2 cc2 nL2 none d2 mc2 ms2 [.ref 0] [x] (.inl none) hc' (zs1 A0.length)) (hn : 1 < hc'.length) (hN : A0.length + hc'.length < 1000000) (hcb : zbh hc'.length hc') (hb : zbh A0.length A0) (hl : ∀ v, some v ∈ ls → zbw (A0.length + 1) v) (hs : ∀ v ∈ st, zbw (A0.length + 1) v) (hg : A0.length + 1 < h'.length)
    (k : Z sc y cc nL ret d mc ms (pc + 3) ls st (A0 ++ hc'.map (zren (zs1 A0.length))) r h') : Z sc y cc nL ret d (mc + mc2) (ms + ms2) pc ls stk (A0 ++ [zren (zs1 A0.length) x]) r h' := by
  intro l p e R s m args below meth cd H locs cells slots tc ts D dA aS ad bs A la C0 hla hP hD hS hA hAb h1 h2 h3 h4 h5 h6
  have hK := C0.2.2.2.2.2.2.2.2.2
  have hkb : ∀ a : Nat, a < s.heap.size → ¬ bs ≤ a → H[a]? = s.heap[a]? := fun a ha hb9 => hS.2.1 a ha (fun z => hb9 (hAb a z))
  have hf : zfit (zs1 A0.length) 0 (A0 ++ [zren (zs1 A0.length) x]) [x] := by
    refine ⟨?_, trivial⟩
    show (A0 ++ [zren (zs1 A0.length) x])[zs1 A0.length 0]? = _
    rw [zs1_lo (by decide), Nat.add_zero, List.getElem?_append_right (Nat.le_refl _), Nat.sub_self]
    rfl
  have hinj : ∀ i j, i < [x].length → j < [x].length → zs1 A0.length i = zs1 A0.length j → i = j := fun i j hi hj _ => by
    simp only [List.length_singleton] at hi hj
    omega
  have hF : ∀ q, va_A (zw (fun i => ad (zs1 A0.length i)) dA [x]) H.size q → A q := fun q hq => by
    rcases hq with ⟨k9, e9, hq⟩ | hq
    · exact (zcutD (B := A) hD hf hinj (fun _ z => z)).2 k9 (q, e9) hq
    · exact hA q (Nat.le_trans hS.1 hq)
  have hrun := g l p e R s m args below meth cd H locs cells slots D dA aS ad bs la C0 hP hla.1 hkb h1 h2 (by omega) (by omega)
    (fun U hU hW => ⟨rfl, by rw [hU], by rw [hU]; exact zcut (A := A) hP hf, hK.moved hW (by rw [hU]; exact hS.1) (fun a ha hb9 => by rw [hU]; exact hkb a ha hb9), zcutD hD hf hinj hAb⟩)
  intro T hT X
  rcases hrun T hT X with ⟨v, st₀, t, T', L, h0, X', hL, e1, e2, ⟨v', ad1, hv', hov, hfin⟩, stp⟩ | ⟨q, st₀, t, T', L, E, ce, h0, X', hL, e1, e2, ⟨hbad, -⟩, -⟩
  · obtain ⟨had, hPc, hDc, hFc⟩ := hfin
    cases hv'
    have hov2 : v = none := by injection hov
    subst hov2
    obtain ⟨k1, k2, k3⟩ := vx_keep h0 e1 hS (fun q _ z => hF q z) hF hL hFc
    -- the new places
    have hAx : ∀ i, i < A0.length → ∃ o, A0[i]? = some o := fun i hi => ⟨A0[i], List.getElem?_eq_getElem hi⟩
    generalize ea : (fun i => if i < A0.length + 1 then ad i else if i < A0.length + hc'.length then ad1 (i - A0.length) else ad i) = ad2
    have a0 : ad1 0 = ad A0.length := by
      have := had 0 (Or.inl (by simp))
      rw [this]
      show ad (zs1 A0.length 0) = ad A0.length
      rw [zs1_lo (by decide), Nat.add_zero]
    have a1 : ∀ i, i < hc'.length → ad2 (A0.length + i) = ad1 i := fun i hi => by
      rw [← ea]
      show (if A0.length + i < A0.length + 1 then ad (A0.length + i) else if A0.length + i < A0.length + hc'.length then ad1 (A0.length + i - A0.length) else _) = _
      by_cases c : i = 0
      · subst c
        rw [if_pos (by omega), Nat.add_zero, a0]
      · rw [if_neg (by omega), if_pos (by omega), Nat.add_sub_cancel_left]
    have a2 : ∀ i, i < A0.length + 1 → ad2 i = ad i := fun i hi => by rw [← ea]; exact if_pos hi
    have a3 : ∀ i, ad2 (1000000 + i) = ad (1000000 + i) := fun i => by
      rw [← ea]
      show (if 1000000 + i < A0.length + 1 then _ else if 1000000 + i < A0.length + hc'.length then _ else ad (1000000 + i)) = _
      rw [if_neg (by omega), if_neg (by omega)]
    have aA : ∀ (i : Nat) (o : zO), A0[i]? = some o → (zw ad dA (A0 ++ [zren (zs1 A0.length) x]))[i]? = some (ad i, zr ad dA o) := fun i o ho => zw_get (by rw [List.getElem?_append_left (List.getElem?_eq_some_iff.mp ho).1]; exact ho)
    have aX : (zw ad dA (A0 ++ [zren (zs1 A0.length) x]))[A0.length]? = some (ad A0.length, zr ad dA (zren (zs1 A0.length) x)) := zw_get (by rw [List.getElem?_append_right (Nat.le_refl _), Nat.sub_self]; rfl)
    have aN : ∀ (j : Nat) (o : zO), hc'[j]? = some o → zr ad2 dA (zren (zs1 A0.length) o) = zr ad1 dA o := fun j o ho => by
      rw [zr_ren]
      refine zr_congr (n := hc'.length) (hcb o (List.mem_of_getElem? ho)) (fun i hi => ?_)
      rw [zs1_lo (by omega)]
      exact a1 i hi
    have key : ∀ (i : Nat) (q : Nat × va_E), (zw ad2 dA (A0 ++ hc'.map (zren (zs1 A0.length))))[i]? = some q → (∃ o, A0[i]? = some o ∧ q = (ad i, zr ad dA o)) ∨ ∃ j o, i = A0.length + j ∧ hc'[j]? = some o ∧ q = (ad1 j, zr ad1 dA o) := fun i q hi => by
      obtain ⟨o, ho, rfl⟩ := zw_inv hi
      by_cases c : i < A0.length
      · rw [List.getElem?_append_left c] at ho
        refine Or.inl ⟨o, ho, ?_⟩
        rw [a2 i (by omega), zr_congr (f := ad2) (g := ad) (n := A0.length) (hb o (List.mem_of_getElem? ho)) (fun i hi => a2 i (by omega))]
      · rw [List.getElem?_append_right (by omega), List.getElem?_map, Option.map_eq_some_iff] at ho
        obtain ⟨o2, ho2, rfl⟩ := ho
        have hj := (List.getElem?_eq_some_iff.mp ho2).1
        refine Or.inr ⟨i - A0.length, o2, by omega, ho2, ?_⟩
        rw [aN _ o2 ho2, ← a1 _ hj, show A0.length + (i - A0.length) = i by omega]
    have hnot : ∀ i o, A0[i]? = some o → ¬ va_A (zw (fun i => ad (zs1 A0.length i)) dA [x]) H.size (ad i) := fun i o ho hq => by
      have h9 := hP i _ (aA i o ho)
      rcases hq with ⟨k9, e9, hq⟩ | hq
      · obtain ⟨o9, ho9, e10⟩ := zw_inv hq
        have hk9 : k9 = 0 := by
          have := (List.getElem?_eq_some_iff.mp ho9).1
          simp only [List.length_singleton] at this
          omega
        subst hk9
        have e11 : ad i = ad A0.length := by
          have e12 : ad i = ad (zs1 A0.length 0) := congrArg Prod.fst e10
          rw [zs1_lo (by decide), Nat.add_zero] at e12
          exact e12
        have := hD.1 i A0.length _ _ (aA i o ho) aX e11
        have := (List.getElem?_eq_some_iff.mp ho).1
        omega
      · have := h9.lt
        omega
    have hP2 : va_P D vwCl (zw ad2 dA (A0 ++ hc'.map (zren (zs1 A0.length)))) T'.heap := by
      intro i q hi
      rcases key i q hi with ⟨o, ho, rfl⟩ | ⟨j, o, -, ho, rfl⟩
      · have h9 := hP i _ (aA i o ho)
        exact h9.kept (k2 (ad i) h9.lt (hnot i o ho))
      · rw [e1]
        exact hPc j _ (zw_get ho)
    have hD2 : va_D A (zw ad2 dA (A0 ++ hc'.map (zren (zs1 A0.length)))) := by
      refine ⟨fun i j p q hi hj hpq => ?_, fun i q hi => ?_⟩
      · rcases key i p hi with ⟨o, ho, rfl⟩ | ⟨i', o, ei, ho, rfl⟩ <;> rcases key j q hj with ⟨o2, ho2, rfl⟩ | ⟨j', o2, ej, ho2, rfl⟩
        · exact hD.1 i j _ _ (aA i o ho) (aA j o2 ho2) hpq
        · have h9 := hDc.2 j' _ (zw_get ho2)
          have e9 : ad i = ad1 j' := hpq
          rw [← e9] at h9
          exact absurd h9 (hnot i o ho)
        · have h9 := hDc.2 i' _ (zw_get ho)
          have e9 : ad1 i' = ad j := hpq
          rw [e9] at h9
          exact absurd h9 (hnot j o2 ho2)
        · have := hDc.1 i' j' _ _ (zw_get ho) (zw_get ho2) hpq
          omega
      · rcases key i q hi with ⟨o, ho, rfl⟩ | ⟨j, o, -, ho, rfl⟩
        · exact hD.2 i _ (aA i o ho)
        · exact hF _ (hDc.2 j _ (zw_get ho))
    have C1 : zC sc y cc nL ret l p s m args meth cd D dA aS ad2 bs := by
      obtain ⟨b1, b2, b3, b4, b5, b6, b7, b8, ⟨b9, b10⟩, b11⟩ := C0
      exact ⟨b1, b2, b3, b4, b5, b6, b7, b8, ⟨b9, fun i => by rw [a3]; exact b10 i⟩, b11⟩
    have hz := k l p e R s m args below meth cd T'.heap (locs ++ L) (cells + mc2) (slots + ms2) tc ts D dA aS ad2 bs A la C1 (zLv_congr hla hl a2 a3) hP2 hD2 k3 hA hAb h1 h2 (by omega) (by omega) h5 h6
    have es : st.map (zv ad2) = st.map (zv ad) := List.map_congr_left (fun v hv => zv_congrw (hs v hv) a2 a3)
    rw [es] at hz
    obtain ⟨t2, b1, b2⟩ := hz T' rfl X'
    refine ⟨t2, stp t2 b1, vx_MQ_mono ?_ ?_ b2⟩
    · rintro a s o t ⟨v, ad', f1, f2, f3, f4⟩
      refine ⟨v, ad', f1, f2, fun i hi => ?_, f4⟩
      have hlen : (A0 ++ [zren (zs1 A0.length) x]).length = A0.length + 1 := by simp
      rw [hlen] at hi
      have hi2 : i < A0.length + 1 := by omega
      rw [f3 i (Or.inl (by rw [List.length_append, List.length_map]; omega)), a2 i hi2]
    · rintro E s t ⟨f1, ad', f3, f4⟩
      refine ⟨f1, ad', fun i hi => ?_, f4⟩
      have hlen : (A0 ++ [zren (zs1 A0.length) x]).length = A0.length + 1 := by simp
      rw [hlen] at hi
      have hi2 : i < A0.length + 1 := by omega
      rw [f3 i (Or.inl (by rw [List.length_append, List.length_map]; omega)), a2 i hi2]
  · cases hbad
end ZCALLG2
