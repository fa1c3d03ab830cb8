variable {sc : SC}
def zfit (ρ : Nat → Nat) : Nat → List zO → List zO → Prop
  | _, _, [] => True
  | i, h, o :: t => h[ρ i]? = some (zren ρ o) ∧ zfit ρ (i + 1) h t
def zplug (ρ : Nat → Nat) : Nat → List zO → List zO → List zO
  | _, h, [] => h
  | i, h, o :: t => zplug ρ (i + 1) (h.set (ρ i) (zren ρ o)) t
theorem zfit_get {ρ : Nat → Nat} {h : List zO} : ∀ (hc : List zO) (k i : Nat) (o : zO), zfit ρ k h hc → hc[i]? = some o → h[ρ (k + i)]? = some (zren ρ o) := by
  intro hc
  induction hc with
  | nil => intro k i o _ hi; simp at hi
  | cons x t ih =>
    intro k i o hf hi
    cases i with
    | zero =>
      simp only [List.getElem?_cons_zero, Option.some.injEq] at hi
      subst hi
      exact hf.1
    | succ i =>
      rw [List.getElem?_cons_succ] at hi
      have h2 := ih (k + 1) i o hf.2 hi
      have e : k + 1 + i = k + (i + 1) := by omega
      rw [e] at h2
      exact h2
theorem zplug_len {ρ : Nat → Nat} : ∀ (hc : List zO) (k : Nat) (h : List zO), (zplug ρ k h hc).length = h.length := by
  intro hc
  induction hc with
  | nil => intro k h; rfl
  | cons x t ih =>
    intro k h
    show (zplug ρ (k + 1) (h.set (ρ k) (zren ρ x)) t).length = _
    rw [ih, List.length_set]
theorem zplug_out {ρ : Nat → Nat} : ∀ (hc : List zO) (k : Nat) (h : List zO) (j : Nat), (∀ i, i < hc.length → ρ (k + i) ≠ j) → (zplug ρ k h hc)[j]? = h[j]? := by
  intro hc
  induction hc with
  | nil => intro k h j _; rfl
  | cons x t ih =>
    intro k h j hj
    show (zplug ρ (k + 1) (h.set (ρ k) (zren ρ x)) t)[j]? = _
    rw [ih (k + 1) _ j (fun i hi => by
      have h9 := hj (i + 1) (by simp only [List.length_cons]; omega)
      have e : k + 1 + i = k + (i + 1) := by omega
      rw [e]; exact h9)]
    exact List.getElem?_set_ne (hj 0 (by simp only [List.length_cons]; omega))
theorem zplug_in {ρ : Nat → Nat} : ∀ (hc : List zO) (k : Nat) (h : List zO) (i : Nat) (o : zO), (∀ a b, a < hc.length → b < hc.length → ρ (k + a) = ρ (k + b) → a = b) → (∀ a, a < hc.length → ρ (k + a) < h.length) → hc[i]? = some o → (zplug ρ k h hc)[ρ (k + i)]? = some (zren ρ o) := by
  intro hc
  induction hc with
  | nil => intro k h i o _ _ hi; simp at hi
  | cons x t ih =>
    intro k h i o hinj hlt hi
    show (zplug ρ (k + 1) (h.set (ρ k) (zren ρ x)) t)[ρ (k + i)]? = _
    have hinj2 : ∀ a b, a < t.length → b < t.length → ρ (k + 1 + a) = ρ (k + 1 + b) → a = b := fun a b ha hb hab => by
      have e1 : k + 1 + a = k + (a + 1) := by omega
      have e2 : k + 1 + b = k + (b + 1) := by omega
      rw [e1, e2] at hab
      have := hinj (a + 1) (b + 1) (by simp only [List.length_cons]; omega) (by simp only [List.length_cons]; omega) hab
      omega
    have hlt2 : ∀ a, a < t.length → ρ (k + 1 + a) < (h.set (ρ k) (zren ρ x)).length := fun a ha => by
      have e1 : k + 1 + a = k + (a + 1) := by omega
      rw [e1, List.length_set]
      exact hlt (a + 1) (by simp only [List.length_cons]; omega)
    cases i with
    | zero =>
      simp only [List.getElem?_cons_zero, Option.some.injEq] at hi
      subst hi
      rw [zplug_out t (k + 1) _ _ (fun a ha hab => by
        have e1 : k + 1 + a = k + (a + 1) := by omega
        rw [e1] at hab
        have := hinj (a + 1) 0 (by simp only [List.length_cons]; omega) (by simp only [List.length_cons]; omega) hab
        omega)]
      have h0 : ρ (k + 0) < h.length := hlt 0 (by simp only [List.length_cons]; omega)
      rw [Nat.add_zero] at h0 ⊢
      rw [List.getElem?_set_self h0]
    | succ i =>
      rw [List.getElem?_cons_succ] at hi
      have h2 := ih (k + 1) (h.set (ρ k) (zren ρ x)) i o hinj2 hlt2 hi
      have e : k + 1 + i = k + (i + 1) := by omega
      rw [e] at h2
      exact h2
theorem zD_len {A : Nat → Prop} {ad : Nat → Nat} {dA : Nat → ClassId} {h1 h2 : List zO} (hn : h1.length = h2.length) (hD : va_D A (zw ad dA h1)) : va_D A (zw ad dA h2) := by
  have key : ∀ (i : Nat) (q : Nat × va_E), (zw ad dA h2)[i]? = some q → ∃ q1, (zw ad dA h1)[i]? = some q1 ∧ q1.1 = q.1 := by
    intro i q hi
    obtain ⟨o, ho, rfl⟩ := zw_inv hi
    have hl := (List.getElem?_eq_some_iff.mp ho).1
    rw [← hn] at hl
    exact ⟨_, zw_get (List.getElem?_eq_getElem hl), rfl⟩
  refine ⟨fun i j p q hi hj hpq => ?_, fun k q hk => ?_⟩
  · obtain ⟨p1, a1, b1⟩ := key i p hi
    obtain ⟨q1, a2, b2⟩ := key j q hj
    exact hD.1 i j p1 q1 a1 a2 (b1.trans (hpq.trans b2.symm))
  · obtain ⟨q1, a1, b1⟩ := key k q hk
    rw [← b1]
    exact hD.2 k q1 a1
theorem zcut {D : va_G} {A : Nat → Prop} {ad ρ : Nat → Nat} {dA : Nat → ClassId} {h hc : List zO} {H : Heap} (hP : va_P D vwCl (zw ad dA h) H) (hf : zfit ρ 0 h hc) : va_P D vwCl (zw (fun i => ad (ρ i)) dA hc) H := by
  intro k q hk
  obtain ⟨o, ho, rfl⟩ := zw_inv hk
  have h1 := zfit_get hc 0 k o hf ho
  rw [Nat.zero_add] at h1
  have h2 := hP (ρ k) _ (zw_get h1)
  rw [zr_ren] at h2
  exact h2
theorem zcutD {A B : Nat → Prop} {ad ρ : Nat → Nat} {dA : Nat → ClassId} {h hc : List zO} (hD : va_D A (zw ad dA h)) (hf : zfit ρ 0 h hc) (hinj : ∀ i j, i < hc.length → j < hc.length → ρ i = ρ j → i = j) (hAB : ∀ q, A q → B q) : va_D B (zw (fun i => ad (ρ i)) dA hc) := by
  refine ⟨fun i j p q hi hj hpq => ?_, fun k q hk => ?_⟩
  · obtain ⟨o, ho, rfl⟩ := zw_inv hi
    obtain ⟨o2, ho2, rfl⟩ := zw_inv hj
    have h1 := zfit_get hc 0 i o hf ho
    have h2 := zfit_get hc 0 j o2 hf ho2
    rw [Nat.zero_add] at h1 h2
    exact hinj i j (List.getElem?_eq_some_iff.mp ho).1 (List.getElem?_eq_some_iff.mp ho2).1 (hD.1 _ _ _ _ (zw_get h1) (zw_get h2) hpq)
  · obtain ⟨o, ho, rfl⟩ := zw_inv hk
    have h1 := zfit_get hc 0 k o hf ho
    rw [Nat.zero_add] at h1
    exact hAB _ (hD.2 (ρ k) (ad (ρ k), zr ad dA (zren ρ o)) (zw_get h1))
theorem zjoin {D : va_G} {A : Nat → Prop} {ad ρ : Nat → Nat} {dA : Nat → ClassId} {h hc hc' : List zO} {H H1 : Heap} (hP : va_P D vwCl (zw ad dA h) H) (hD : va_D A (zw ad dA h)) (hf : zfit ρ 0 h hc) (hinj : ∀ i j, i < hc.length → j < hc.length → ρ i = ρ j → i = j) (hlen : hc'.length = hc.length)
    (hP1 : va_P D vwCl (zw (fun i => ad (ρ i)) dA hc') H1) (hk : ∀ q : Nat, q < H.size → ¬ va_A (zw (fun i => ad (ρ i)) dA hc) H.size q → H1[q]? = H[q]?) : va_P D vwCl (zw ad dA (zplug ρ 0 h hc')) H1 := by
  have hlt : ∀ a, a < hc'.length → ρ (0 + a) < h.length := fun a ha => by
    rw [hlen] at ha
    have h1 := zfit_get hc 0 a _ hf (List.getElem?_eq_getElem ha)
    exact (List.getElem?_eq_some_iff.mp h1).1
  have hinj2 : ∀ a b, a < hc'.length → b < hc'.length → ρ (0 + a) = ρ (0 + b) → a = b := fun a b ha hb hab => by
    rw [Nat.zero_add, Nat.zero_add] at hab
    exact hinj a b (by omega) (by omega) hab
  intro j q hj
  obtain ⟨o, ho, rfl⟩ := zw_inv hj
  by_cases hex : ∃ i, i < hc'.length ∧ ρ i = j
  · obtain ⟨i, hi, rfl⟩ := hex
    have h1 := zplug_in hc' 0 h i hc'[i] hinj2 hlt (List.getElem?_eq_getElem hi)
    rw [Nat.zero_add] at h1
    rw [h1] at ho
    cases ho
    have h2 := hP1 i _ (zw_get (List.getElem?_eq_getElem hi))
    rw [zr_ren]
    exact h2
  · have h1 := zplug_out hc' 0 h j (fun i hi hij => hex ⟨i, hi, by rw [Nat.zero_add] at hij; exact hij⟩)
    rw [h1] at ho
    have h2 := hP j _ (zw_get ho)
    refine h2.kept (hk (ad j) h2.lt (fun hA => ?_))
    rcases hA with ⟨k, e, hA⟩ | hA
    · obtain ⟨o2, ho2, e2⟩ := zw_inv hA
      have h3 := zfit_get hc 0 k o2 hf ho2
      rw [Nat.zero_add] at h3
      have e3 : ad j = ad (ρ k) := congrArg Prod.fst e2
      have h4 := hD.1 _ _ _ _ (zw_get ho) (zw_get h3) e3
      exact hex ⟨k, by rw [hlen]; exact (List.getElem?_eq_some_iff.mp ho2).1, h4.symm⟩
    · have := h2.lt
      omega
theorem zgood {w : Cond} (h : w ∈ zT) : (w.onTables && w.keeps) = true ∨ ∃ ty, w = .arrayClass ty := good_of_word (List.mem_filter.mp h).2
theorem zPc_blind {l : Launch} {D : va_G} {dA : Nat → ClassId} {aS ad : Nat → Nat} {bs sz : Nat} {av : List Value} {hc : List zO} : FrameBlind (va_Pc av (fun U => U.heap.size = sz ∧ va_P D vwCl (zw ad dA hc) U.heap ∧ ZK sc l D dA aS bs U ∧ va_D (fun q => bs ≤ q) (zw ad dA hc))) := by
  intro a U g mk hp
  obtain ⟨q1, q2, q3, q4, q5⟩ := hp
  exact ⟨q1, q2, q3, q4.blind (U := U.calling g mk a) rfl rfl, q5⟩
section ZCALL
variable {y : MethodName} {cc : ByteArray} {nL : Nat} {ret : Option FieldType} {d mc ms pc : Nat} {ls : List (Option Value)} {st : List Value} {h : List zO} {r : zR} {h' : List zO}
variable {y2 : MethodName} {cc2 : ByteArray} {nL2 : Nat} {ret2 : Option FieldType} {d2 mc2 ms2 : Nat} {av : List Value} {hc : List zO} {rv : Option Value} {hc' : List zO} {ρ : Nat → Nat} {stk : List Value}
def zRun (sc : SC) (y : MethodName) (cc : ByteArray) (nL : Nat) (ret : Option FieldType) (d pc : Nat) (h : List zO) (stk st : List Value) (y2 : MethodName) (cc2 : ByteArray) (nL2 : Nat) (ret2 : Option FieldType) (d2 mc2 ms2 : Nat) (av : List Value) (hc : List zO) (r2 : zR) (hc' : List zO) (ρ : Nat → Nat) : Prop :=
  ∀ (l : Launch) (p : Program) (e : Env) (R : Room) (s : State) (m : MethodId) (args : Array Value) (below : List Frame) (meth : Method) (cd : Code) (H : Heap) (locs : List Loc) (cells slots : Nat) (D : va_G) (dA : Nat → ClassId) (aS ad : Nat → Nat) (bs : Nat) (la : Array Slot),
    zC sc y cc nL ret l p s m args meth cd D dA aS ad bs → va_P D vwCl (zw ad dA h) H → la.size = nL → (∀ a : Nat, a < s.heap.size → ¬ bs ≤ a → H[a]? = s.heap[a]?) → d ≤ R.frames → 80 * d ≤ R.locals → cells + mc2 ≤ R.cells → slots + ms2 ≤ R.slots →
    (∀ U : State, U.heap = H → s.WarmedH U.vm → va_Pc (av.map (zv (fun i => ad (ρ i)))) (fun U => U.heap.size = H.size ∧ va_P D vwCl (zw (fun i => ad (ρ i)) dA hc) U.heap ∧ ZK sc l D dA aS bs U ∧ va_D (fun q => bs ≤ q) (zw (fun i => ad (ρ i)) dA hc)) (av.map (zv (fun i => ad (ρ i)))).toArray U) →
    vx_Run p l e R s m args below meth cd H locs cells slots mc2 ms2 (F0 m pc la (stk.map (zv ad))) (st.map (zv ad)) (zQ D dA (fun i => ad (ρ i)) (va_A (zw (fun i => ad (ρ i)) dA hc) H.size) hc.length hc' r2 (av.map (zv (fun i => ad (ρ i)))).toArray) (zXc D dA (fun i => ad (ρ i)) (va_A (zw (fun i => ad (ρ i)) dA hc) H.size) hc.length hc' r2) (va_A (zw (fun i => ad (ρ i)) dA hc) H.size)
theorem Z.call (g : zRun sc y cc nL ret d pc h stk st y2 cc2 nL2 ret2 d2 0 0 av hc (.inl rv) hc' ρ) (hf : zfit ρ 0 h hc) (hinj : ∀ i j, i < hc.length → j < hc.length → ρ i = ρ j → i = j) (hlen : hc'.length = hc.length)
    (k : Z sc y cc nL ret d mc ms (pc + 3) ls (rv.toList.map (zv ρ) ++ st) (zplug ρ 0 h hc') r h') : Z sc y cc nL ret d mc ms pc ls stk h r h' := by
  intro l p e R s m args below meth cd H locs cells slots tc ts D dA aS ad bs A la C0 hl hP hD hS hA hAb h1 h2 h3 h4 h5 h6
  have hK := C0.2.2.2.2.2.2.2.2.2
  have hkb : ∀ a : Nat, a < s.heap.size → ¬ bs ≤ a → H[a]? = s.heap[a]? := fun a ha hb => hS.2.1 a ha (fun z => hb (hAb a z))
  have hF : ∀ q, va_A (zw (fun i => ad (ρ i)) dA hc) H.size q → A q := fun q hq => by
    rcases hq with ⟨k9, e9, hq⟩ | hq
    · exact (zcutD (B := A) hD hf hinj (fun _ z => z)).2 k9 (q, e9) hq
    · exact hA q (Nat.le_trans hS.1 hq)
  have hrun := g l p e R s m args below meth cd H locs cells slots D dA aS ad bs la C0 hP hl.1 hkb h1 h2 (by omega) (by omega)
    (fun U hU hW => ⟨rfl, by rw [hU], by rw [hU]; exact zcut (A := A) hP hf, hK.moved hW (by rw [hU]; exact hS.1) (fun a ha hb => by rw [hU]; exact hkb a ha hb), zcutD hD hf hinj hAb⟩)
  intro T hT X
  rcases hrun T hT X with ⟨v, st₀, t, T', L, h0, X', hL, e1, e2, ⟨v', ad', hv', hov, hfin⟩, stp⟩ | ⟨q, st₀, t, T', L, E, ce, h0, X', hL, e1, e2, ⟨hbad, -⟩, -⟩
  · obtain ⟨had, hPc, hDc, hFc⟩ := hfin
    have e9 : ad' = fun i => ad (ρ i) := funext fun i => had i (Or.inr hlen)
    subst e9
    cases hv'
    have hov2 : v = rv.map (zv (fun i => ad (ρ i))) := by injection hov
    subst hov2
    obtain ⟨k1, k2, k3⟩ := vx_keep h0 e1 hS (fun q _ z => hF q z) hF hL hFc
    have hP2 := zjoin (H1 := T'.heap) hP hD hf hinj hlen (by rw [e1]; exact hPc) k2
    have hD2 : va_D A (zw ad dA (zplug ρ 0 h hc')) := zD_len (zplug_len hc' 0 h).symm hD
    have hz := k l p e R s m args below meth cd T'.heap (locs ++ L) (cells + 0) (slots + 0) tc ts D dA aS ad bs A la C0 hl hP2 hD2 k3 hA hAb h1 h2 (by omega) (by omega) h5 h6
    rw [zplug_len] at hz
    have e10 : ((rv.map (zv (fun i => ad (ρ i)))).toList ++ st.map (zv ad)) = (rv.toList.map (zv ρ) ++ st).map (zv ad) := by
      cases rv with
      | none => simp
      | some w => simp [zv_zv]
    obtain ⟨t2, a1, b1⟩ := hz T' rfl X'
    refine ⟨t2, stp t2 ?_, b1⟩
    show Steps p.tables e below (T'.setTop (F0 m (pc + 3) la ((rv.map (zv (fun i => ad (ρ i)))).toList ++ st.map (zv ad)))) t2
    rw [e10]
    exact a1
  · cases hbad
theorem Z.callX {E : String} (g : zRun sc y cc nL ret d pc h stk st y2 cc2 nL2 ret2 d2 mc ms av hc (.inr E) hc' ρ) (hf : zfit ρ 0 h hc) (hinj : ∀ i j, i < hc.length → j < hc.length → ρ i = ρ j → i = j) (hlen : hc'.length = hc.length) (hr : Sum.inr E = r) (hh : zplug ρ 0 h hc' = h') (hE : zEx y = [] := by decide +kernel) : Z sc y cc nL ret d mc ms pc ls stk h r h' := by
  subst hr; subst hh
  intro l p e R s m args below meth cd H locs cells slots tc ts D dA aS ad bs A la C0 hl hP hD hS hA hAb h1 h2 h3 h4 h5 h6
  have hK := C0.2.2.2.2.2.2.2.2.2
  have hkb : ∀ a : Nat, a < s.heap.size → ¬ bs ≤ a → H[a]? = s.heap[a]? := fun a ha hb => hS.2.1 a ha (fun z => hb (hAb a z))
  have hF : ∀ q, va_A (zw (fun i => ad (ρ i)) dA hc) H.size q → A q := fun q hq => by
    rcases hq with ⟨k9, e9, hq⟩ | hq
    · exact (zcutD (B := A) hD hf hinj (fun _ z => z)).2 k9 (q, e9) hq
    · exact hA q (Nat.le_trans hS.1 hq)
  have hrun := g l p e R s m args below meth cd H locs cells slots D dA aS ad bs la C0 hP hl.1 hkb h1 h2 (by omega) (by omega)
    (fun U hU hW => ⟨rfl, by rw [hU], by rw [hU]; exact zcut (A := A) hP hf, hK.moved hW (by rw [hU]; exact hS.1) (fun a ha hb => by rw [hU]; exact hkb a ha hb), zcutD hD hf hinj hAb⟩)
  intro T hT X
  rcases hrun T hT X with ⟨v, st₀, t, T', L, h0, X', hL, e1, e2, ⟨v', ad', hv', hov, hfin⟩, stp⟩ | ⟨q, st₀, t, T', L, E', ce, h0, X', hL, e1, e2, ⟨hE, ad', hfin⟩, hce, hcv, hcl, stp⟩
  · cases hv'
  · obtain ⟨had, hPc, hDc, hFc⟩ := hfin
    have e9 : ad' = fun i => ad (ρ i) := funext fun i => had i (Or.inr hlen)
    subst e9
    cases hE
    obtain ⟨k1, k2, k3⟩ := vx_keep h0 e1 hS (fun q _ z => hF q z) hF hL hFc
    have hP2 := zjoin (H1 := T'.heap) hP hD hf hinj hlen (by rw [e1]; exact hPc) k2
    have hD2 : va_D A (zw ad dA (zplug ρ 0 h hc')) := zD_len (zplug_len hc' 0 h).symm hD
    have hout : vx_W p l e R s m args below meth cd T'.heap (locs ++ L) (cells + mc) (slots + ms) (vx_MQ below (zQ D dA ad A h.length (zplug ρ 0 h hc') (.inr E)) (zXc D dA ad A h.length (zplug ρ 0 h hc') (.inr E)) args s tc ts A) (F0 m pc la (st.map (zv ad))) q :=
      vx_out (E := E) (ce := ce) (fun x hx => by rw [C0.2.2.2.2.2.2.2.1, hE] at hx; exact nomatch hx) C0.2.2.2.2.2.2.1 (by rw [e1]; exact hce) hcv hcl (fun t9 ht9 _ => ⟨rfl, ad, fun i _ => rfl, by rw [ht9]; exact hP2, hD2, k3.F ht9⟩) k3.2.2 h3 h4
    obtain ⟨t2, a1, b1⟩ := hout T' rfl X'
    exact ⟨t2, stp.trans a1, b1⟩
theorem zgoodIn {idx : Nat} {own : String} {C : String} {ret2 : Option FieldType} (hc : Cond.code y2 cc2 nL2 ret2 ∈ zT) : ∀ w ∈ (Cond.code y2 cc2 nL2 ret2 :: zT), w ∈ zT ∧ ((w.onTables && w.keeps) = true ∨ ∃ ty, w = .arrayClass ty) := fun w hw => by
  rcases List.mem_cons.mp hw with rfl | hw
  · exact ⟨hc, zgood hc⟩
  · exact ⟨hw, zgood hw⟩
theorem zRun.V {n ci b idx : Nat} {fs : List Value} {T2 : u_T} {N2 : Nat} {As : List Value} (hM : zM sc y2 cc2 nL2 ret2 d2 mc2 ms2 (.ref b :: As) hc r hc') (hd : decode cc pc = .ok (.invokevirtual idx, 3)) (hY : zYV y2 cc2 nL2 ret2 n) (hlk : Cond.methodLink y.cls idx y2 ∈ zT) (hn : As.length = n) (ho : h[ρ b]? = some (.inr (ci, fs))) (hci : vwCl[ci]? = some (y2.cls, T2, N2)) (hst : stk = (As.map (zv ρ)).reverse ++ .ref (ρ b) :: st) (hcat : (st.map fun v => v.category).sum ≤ 8) (hd2 : d2 + 1 ≤ d) (hnL : nL2 ≤ 61) (hρ : ∀ i, ρ (1000000 + i) = 1000000 + i := by first | exact fun _ => rfl | exact fun i => if_neg (by omega)) :
    zRun sc y cc nL ret d pc h stk st y2 cc2 nL2 ret2 d2 mc2 ms2 (.ref b :: As) hc r hc' ρ := by
  intro l p e R s m args below meth cd H locs cells slots D dA aS ad bs la C0 hP hsz hkb h1 h2 h3 h4 hpre
  obtain ⟨q1, q2, q3, q4, ⟨q5, q6, q7⟩, q8⟩ := hY
  have hts := C0.2.2.2.2.1
  have hK := C0.2.2.2.2.2.2.2.2.2
  have hcw : CallW R s args y.cls y2.cls idx y2 cc2 nL2 ret2 (Cond.code y2 cc2 nL2 ret2 :: zT) { frames := d2, cells := mc2, slots := ms2, locals := 80 * d2 } mc2 ms2 n :=
    cwV n hts (fun w hw => by
      rcases List.mem_append.mp hw with hw | hw
      · simp only [List.mem_cons, List.not_mem_nil, or_false] at hw
        rcases hw with rfl | rfl | rfl | rfl
        · exact ⟨hlk, zgood hlk⟩
        · exact ⟨q2, zgood q2⟩
        · exact ⟨q3, zgood q3⟩
        · exact ⟨q4, zgood q4⟩
      · exact zgoodIn (idx := idx) (own := y.cls) (C := y2.cls) q1 w hw) rfl rfl rfl ⟨rfl, q5, q6, q7⟩ ⟨by show d2 + 1 ≤ R.frames; omega, by show 8 + (nL2 + 11) + 80 * d2 ≤ R.locals; omega⟩
  have e1 : (zw ad dA h)[ρ b]? = some (ad (ρ b), .inr (ci, fs.map (zv ad))) := zw_get ho
  have hrecv := va_recv hK.2.2.1 hP hci e1
  have hst2 : stk.map (zv ad) = ((As.map (zv (fun i => ad (ρ i)))).reverse ++ .ref (ad (ρ b)) :: st.map (zv ad)) := by
    rw [hst, List.map_append, List.map_reverse, List.map_map]
    have e3 : As.map (zv ad ∘ zv ρ) = As.map (zv (fun i => ad (ρ i))) := List.map_congr_left (fun v _ => zv_zv ad ρ v)
    rw [e3]
    rfl
  exact vx_runV (g := F0 m pc la (stk.map (zv ad))) ⟨C0.1, C0.2.1, C0.2.2.1, C0.2.2.2.1, hts⟩ (hM l D dA aS (fun i => ad (ρ i)) bs H.size (fun i => by rw [hρ]; exact C0.2.2.2.2.2.2.2.2.1.2 i)) hcw ⟨zPc_blind, hrecv, fun U hU hW => hpre U hU hW⟩ rfl (by rw [List.length_map]; exact hn) hsz hst2 (by
      have e4 : ((st.map (zv ad)).map fun v => v.category) = st.map fun v => v.category := by
        rw [List.map_map]; exact List.map_congr_left (fun v _ => zv_cat ad v)
      show 2 * 0 + _ ≤ 8
      rw [e4]; omega) hd ⟨h3, h4⟩
theorem zRun.S {n idx : Nat} (hM : zM sc y2 cc2 nL2 ret2 d2 mc2 ms2 av hc r hc') (hd : decode cc pc = .ok (.invokestatic idx, 3)) (hY : zYS y2 cc2 nL2 ret2 n) (hlk : Cond.methodLink y.cls idx y2 ∈ zT) (hn : av.length = n) (hst : stk = (av.map (zv ρ)).reverse ++ st) (hcat : (st.map fun v => v.category).sum ≤ 8) (hd2 : d2 + 1 ≤ d) (hnL : nL2 ≤ 61) (hρ : ∀ i, ρ (1000000 + i) = 1000000 + i := by first | exact fun _ => rfl | exact fun i => if_neg (by omega)) :
    zRun sc y cc nL ret d pc h stk st y2 cc2 nL2 ret2 d2 mc2 ms2 av hc r hc' ρ := by
  intro l p e R s m args below meth cd H locs cells slots D dA aS ad bs la C0 hP hsz hkb h1 h2 h3 h4 hpre
  obtain ⟨q1, q2, q3, ⟨q5, q6, q7⟩, q8⟩ := hY
  have hts := C0.2.2.2.2.1
  have hcw : CallB R s args y.cls idx y2 cc2 nL2 ret2 (Cond.code y2 cc2 nL2 ret2 :: zT) { frames := d2, cells := mc2, slots := ms2, locals := 80 * d2 } mc2 ms2 n ∧ (Cond.static y2).before args s = true :=
    ⟨callB_of n hts (fun w hw => zgoodIn (idx := idx) (own := y.cls) (C := y2.cls) q1 w hw) rfl rfl rfl (hts _ q3) (hts _ hlk) ⟨q5, q6, q7⟩ ⟨by show d2 + 1 ≤ R.frames; omega, by show 8 + (nL2 + 11) + 80 * d2 ≤ R.locals; omega⟩, hts _ q2⟩
  have hst2 : stk.map (zv ad) = ((av.map (zv (fun i => ad (ρ i)))).reverse ++ st.map (zv ad)) := by
    rw [hst, List.map_append, List.map_reverse, List.map_map]
    have e3 : av.map (zv ad ∘ zv ρ) = av.map (zv (fun i => ad (ρ i))) := List.map_congr_left (fun v _ => zv_zv ad ρ v)
    rw [e3]
  exact vx_runS (g := F0 m pc la (stk.map (zv ad))) ⟨C0.1, C0.2.1, C0.2.2.1, C0.2.2.2.1, hts⟩ (hM l D dA aS (fun i => ad (ρ i)) bs H.size (fun i => by rw [hρ]; exact C0.2.2.2.2.2.2.2.2.1.2 i)) hcw ⟨zPc_blind, fun U hU hW => hpre U hU hW⟩ rfl (by rw [List.length_map]; exact hn) hsz hst2 (by
      have e4 : ((st.map (zv ad)).map fun v => v.category) = st.map fun v => v.category := by
        rw [List.map_map]; exact List.map_congr_left (fun v _ => zv_cat ad v)
      show 2 * 0 + _ ≤ 8
      rw [e4]; omega) hd ⟨h3, h4⟩
end ZCALL
