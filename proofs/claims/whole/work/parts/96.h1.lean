variable {sc : SC}
/-! ===== the law's calls of what throws: their contracts, and catching ===== -/
/-- a contract of a static method with handlers: it returns -/
def zMW (sc : SC) (y : MethodName) (cc : ByteArray) (nL : Nat) (ret : Option FieldType) (d mc ms : Nat) (av : List Value) (h : List zO) (v : Option Value) (h' : List zO) : Prop :=
  ∀ (l : Launch) (D : va_G) (dA : Nat → ClassId) (aS ad : Nat → Nat) (bs sz : Nat), (∀ i, ad (1000000 + i) = aS i) →
    Met l y (Cond.codeWith y cc nL ret (zEx y) :: zT) { frames := d, cells := mc, slots := ms, locals := 100 * d }
      (va_Pc (av.map (zv ad)) (fun U => U.heap.size = sz ∧ va_P D vwCl (zw ad dA h) U.heap ∧ ZK sc l D dA aS bs U ∧ va_D (fun q => bs ≤ q) (zw ad dA h)))
      (zQ D dA ad (va_A (zw ad dA h) sz) h.length h' (.inl v)) mc ms (va_A (zw ad dA h) sz)
theorem zMW.at {y : MethodName} {cc : ByteArray} {nL : Nat} {ret : Option FieldType} {d mc ms : Nat} {av : List Value} {ls : List (Option Value)} {h : List zO} {v : Option Value} {h' : List zO} (hy : plainName y.cls = true) (hn : (lg_sl av).length ≤ nL) (hls : zent nL av = ls) (k : Z sc y cc nL ret d mc ms 0 ls [] h (.inl v) h') : zMW sc y cc nL ret d mc ms av h v h' := by
  subst hls
  intro l D dA aS ad bs sz hAS
  refine va_MetW (cc := cc) (maxL := nL) (ret := ret) (hh := zEx y) hy rfl ?_
  intro p e s m args below meth cd s₁ B hml hv
  obtain ⟨rfl, hsz, hP, hK, hD⟩ := hv
  have hts := atoms_spec (ws := Cond.codeWith y cc nL ret (zEx y) :: zT) B.pre
  have hown : s.vm.findClass y.cls = some m.cls := findClass_of_methodNamed B.named
  subst hsz
  have hD2 := hD.self (sz := s.heap.size)
  have hA : ∀ q : Nat, s.heap.size ≤ q → va_A (zw ad dA h) s.heap.size q := fun q h9 => Or.inr h9
  have hAb : ∀ q : Nat, va_A (zw ad dA h) s.heap.size q → bs ≤ q := fun q h9 => by
    rcases h9 with ⟨k9, e9, h9⟩ | h9
    · exact hD.2 k9 (q, e9) h9
    · exact Nat.le_trans hK.2.1 h9
  have hl0 : (lg_sl (av.map (zv ad))).length ≤ nL := by rw [zargs_map, List.length_map]; exact hn
  have hl := lv_entry (av.map (zv ad)) (n := nL) hl0
  rw [lg_entry_eq]
  have hl2 : zLv ad ((lg_sl (av.map (zv ad)) ++ List.replicate (nL - (lg_sl (av.map (zv ad))).length) Slot.unset).toArray) nL (zent nL av) :=
    zLv.to (ad' := ad) hl (fun i v hi => by
      have h9 := zent_in av nL 0 i v hi
      rw [Nat.zero_add] at h9
      exact zargs_zv ad av 0 (i, v) h9)
  have hz := k l p e ({ frames := d, cells := mc, slots := ms, locals := 100 * d } : Room) s m _ below meth cd s.heap [] 0 0 mc ms D dA aS ad bs (va_A (zw ad dA h) s.heap.size) _
    ⟨B.exec, B.bytes, hml, hown, fun w hw => hts w (List.mem_cons_of_mem _ hw), B.returns, B.notSynchronized, vx_table (x := y) B (hts _ List.mem_cons_self), ⟨(name_of_methodNamed B.named B.method).1, hAS⟩, hK⟩ hl2 hP hD2 va_S.rf hA hAb (Nat.le_refl _) (Nat.le_refl _) (by omega) (by omega) (Nat.le_refl _) (Nat.le_refl _)
  intro T hT X
  obtain ⟨t, a, oc, b1, b2, b3⟩ := hz T hT X
  refine ⟨t, a, oc, b1, b2, ?_⟩
  rcases b3 with ⟨b4, b5⟩ | ⟨q, b4, E, ce, L, ⟨b5, -⟩, -⟩
  · exact ⟨b4, b5⟩
  · cases b5
section ZLAW
variable {y : MethodName} {cc : ByteArray} {nL : Nat} {ret : Option FieldType} {d mc ms pc : Nat} {ls : List (Option Value)} {st : List Value} {h rest : List zO} {r : zR} {h' : List zO}
variable {y2 : MethodName} {cc2 : ByteArray} {nL2 : Nat} {ret2 : Option FieldType} {d2 mc2 ms2 : Nat} {av : List Value} {hc' : List zO} {stk : List Value}
/-- a callee that throws, and the handler here -/
theorem Z.callC {E nm : String} {T9 : List (Nat × Nat × Nat × Nat)} (pre : List ExceptionTableEntry) (x : ExceptionTableEntry) (suf : List ExceptionTableEntry) (g : zRun sc y cc nL ret d pc (h ++ rest) stk st y2 cc2 nL2 ret2 d2 mc2 ms2 av h (.inr E) h (fun i => i)) (htab : zEx y = T9) (hsplit : tableOf T9 = pre ++ x :: suf)
    (hpass : ∀ z ∈ pre, z.catchType ≠ 0 ∧ ∃ n9 : String, Cond.classLink y.cls z.catchType n9 ∈ zT ∧ ∀ aS bs s, zKs sc aS bs s → va_Nc E n9 s) (hx : covers x pc = true) (h0 : x.catchType ≠ 0) (hlink : Cond.classLink y.cls x.catchType nm ∈ zT) (hcast : Cond.castable E nm ∈ zB)
    (hb : zbh (h ++ rest).length (h ++ rest)) (hl : ∀ v, some v ∈ ls → zbw (h ++ rest).length v) (hN : (h ++ rest).length < 1000000) (hlen : h'.length = (h ++ rest).length) (hb' : zbh (h ++ rest).length h') (hv : ∀ v, r = .inl v → ∀ f g, v.map (zv f) = v.map (zv g))
    (k : Z sc y cc nL ret d mc ms x.handlerPc ls [.ref (h ++ rest).length] (h ++ rest) r h') : Z sc y cc nL ret d (mc + mc2) (ms + ms2) pc ls stk (h ++ rest) r h' := by
  intro l p e R s m args below meth cd H locs cells slots tc ts D dA aS ad bs A la C0 hla hP hD hS hA hAb h1 h2 h3 h4 h5 h6
  have hK := C0.2.2.2.2.2.2.2.2.2
  have hts := C0.2.2.2.2.1
  have hkb : ∀ a : Nat, a < s.heap.size → ¬ bs ≤ a → H[a]? = s.heap[a]? := fun a ha hb9 => hS.2.1 a ha (fun z => hb9 (hAb a z))
  have hf : zfit (fun i => i) 0 (h ++ rest) h := zfit_pre h rest
  have hinj : ∀ i j, i < h.length → j < h.length → (fun i : Nat => i) i = (fun i : Nat => i) j → i = j := fun _ _ _ _ e => e
  have hF : ∀ q, va_A (zw (fun i => ad ((fun i => i) i)) dA h) H.size q → A q := fun q hq => by
    rcases hq with ⟨k9, e9, hq⟩ | hq
    · exact (zcutD (ρ := fun i => i) (B := A) hD hf hinj (fun _ z => z)).2 k9 (q, e9) hq
    · exact hA q (Nat.le_trans hS.1 hq)
  have hrun := g l p e R s m args below meth cd H locs cells slots D dA aS ad bs la C0 hP hla.1 hkb h1 h2 (by omega) (by omega)
    (fun U hU hW => ⟨rfl, by rw [hU], by rw [hU]; exact zcut (ρ := fun i => i) (A := A) hP hf, hK.moved hW (by rw [hU]; exact hS.1) (fun a ha hb9 => by rw [hU]; exact hkb a ha hb9), zcutD (ρ := fun i => i) hD hf hinj hAb⟩)
  intro T hT X
  rcases hrun T hT X with ⟨v, st₀, t, T', L, hh0, X', hL, e1, e2, ⟨v', ad', hv', hov, hfin⟩, stp⟩ | ⟨q, st₀, t, T', L, E', ce, hh0, X', hL, e1, e2, ⟨hE, ad', hfin⟩, hce, hcv, hcl, stp⟩
  · cases hv'
  · obtain ⟨had, hPc, hDc, hFc⟩ := hfin
    cases hE
    have e9 : ad' = fun i => ad i := funext fun i => had i (Or.inr rfl)
    subst e9
    obtain ⟨k1, k2, k3⟩ := vx_keep hh0 e1 hS (fun q _ z => hF q z) hF hL hFc
    have hP2 := zjoin (ρ := fun i => i) (hc' := h) (H1 := T'.heap) hP hD hf hinj rfl (by rw [e1]; exact hPc) k2
    rw [zplug_pre rfl] at hP2
    have C1 : zC sc y cc nL ret l p s m args meth cd D dA aS (zadd ad (h ++ rest).length q) bs := by
      obtain ⟨a1, a2, a3, a4, a5, a6, a7, a8, ⟨a9, a10⟩, a11⟩ := C0
      exact ⟨a1, a2, a3, a4, a5, a6, a7, a8, ⟨a9, fun i => by rw [zadd_o ad (by omega)]; exact a10 i⟩, a11⟩
    rw [← zw_add (q := q) hb] at hP2 hD
    have hz := k l p e R s m args below meth cd T'.heap (locs ++ L) (cells + mc2) (slots + ms2) tc ts D dA aS (zadd ad (h ++ rest).length q) bs A la C1 (zLv_add hla hl hN) hP2 hD k3 hA hAb h1 h2 (by omega) (by omega) h5 h6
    have es : ([.ref (h ++ rest).length] : List Value).map (zv (zadd ad (h ++ rest).length q)) = [.ref q] := by
      show [Value.ref (zadd ad (h ++ rest).length q (h ++ rest).length)] = _
      rw [zadd_n]
    rw [es] at hz
    have hcat := vx_catch (Q := vx_MQ below (zQ D dA (zadd ad (h ++ rest).length q) A (h ++ rest).length h' r) (zXc D dA (zadd ad (h ++ rest).length q) A (h ++ rest).length h' r) args s tc ts A) (rest := st.map (zv ad)) (pc := pc) (ls := la) (own := y.cls) (name := nm) (E := E) C0.2.2.2.1 pre x suf (by rw [C0.2.2.2.2.2.2.2.1, htab]; exact hsplit)
      (fun z hz9 => by
        obtain ⟨g1, n9, g2, g3⟩ := hpass z hz9
        exact Or.inr ⟨g1, n9, hts _ g2, g3 aS bs s hK.2.2.2.2.2.2⟩) hx h0 (hts _ hlink) (va_Nw.use (zBon (List.mem_filter.mp hcast).2) (hK.2.2.2.1 _ hcast)) (by rw [e1]; exact hce) hcv hcl hz
    obtain ⟨t2, a1, b1⟩ := hcat T' rfl X'
    refine ⟨t2, stp.trans a1, vx_MQ_mono ?_ ?_ b1⟩
    · rintro a s o t ⟨v, ad', f1, f2, f3, f4, f5, f6⟩
      have e9 : ad' = zadd ad (h ++ rest).length q := funext fun i => f3 i (Or.inr hlen)
      subst e9
      have ew : zw (zadd ad (h ++ rest).length q) dA h' = zw ad dA h' := by
        rw [← hlen] at hb' ⊢
        exact zw_add hb'
      rw [ew] at f4 f5
      exact ⟨v, ad, f1, by rw [f2, hv v f1 _ ad], fun _ _ => rfl, f4, f5, f6⟩
    · rintro E s t ⟨f1, ad', f3, f4, f5, f6⟩
      have e9 : ad' = zadd ad (h ++ rest).length q := funext fun i => f3 i (Or.inr hlen)
      subst e9
      have ew : zw (zadd ad (h ++ rest).length q) dA h' = zw ad dA h' := by
        rw [← hlen] at hb' ⊢
        exact zw_add hb'
      rw [ew] at f4 f5
      exact ⟨f1, ad, fun _ _ => rfl, f4, f5, f6⟩
end ZLAW
