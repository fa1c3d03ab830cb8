variable {sc : SC}
def zbv (n : Nat) (v : Value) : Prop := ∀ a : Nat, v = .ref a → a < n
def zbo (n : Nat) (o : zO) : Prop := match o with
  | .inr (_, fs) => ∀ v ∈ fs, zbv n v
  | .inl (_, (_, .inr (.inr (.inr (.inr f))))) => ∀ j a, f j = some a → a < n
  | _ => True
def zbh (n : Nat) (h : List zO) : Prop := ∀ o ∈ h, zbo n o
def zadd (ad : Nat → Nat) (n q : Nat) : Nat → Nat := fun i => if i = n then q else ad i
theorem zadd_n (ad : Nat → Nat) (n q : Nat) : zadd ad n q n = q := if_pos rfl
theorem zadd_o (ad : Nat → Nat) {n q i : Nat} (h : ¬ i = n) : zadd ad n q i = ad i := if_neg h
theorem zv_add {ad : Nat → Nat} {n q : Nat} {v : Value} (h : zbv n v) : zv (zadd ad n q) v = zv ad v := by
  cases v with
  | ref a =>
    have h9 : (a : Nat) < n := h a rfl
    exact congrArg Value.ref (zadd_o ad (i := a) (fun e => by rw [e] at h9; exact absurd h9 (Nat.lt_irrefl _)))
  | int x => rfl
  | long x => rfl
  | float x => rfl
  | double x => rfl
  | null => rfl
  | retAddr x => rfl
theorem zr_add {ad : Nat → Nat} {dA : Nat → ClassId} {n q : Nat} {o : zO} (h : zbo n o) : zr (zadd ad n q) dA o = zr ad dA o := by
  rcases o with ⟨t, k, f | f | f | f | f⟩ | ⟨ci, fs⟩
  · rfl
  · rfl
  · rfl
  · rfl
  · show (Sum.inl (dA t, (k, .inr (.inr (.inr (.inr (fun j => (f j).map (zadd ad n q))))))) : va_E) = Sum.inl (dA t, (k, .inr (.inr (.inr (.inr (fun j => (f j).map ad))))))
    have e : (fun j => (f j).map (zadd ad n q)) = fun j => (f j).map ad := by
      funext j
      have h2 := h j
      cases e : f j with
      | none => rfl
      | some a => exact congrArg some (zadd_o ad (by have := h2 a e; omega))
    rw [e]
  · show (Sum.inr (ci, fs.map (zv (zadd ad n q))) : va_E) = Sum.inr (ci, fs.map (zv ad))
    have e : fs.map (zv (zadd ad n q)) = fs.map (zv ad) := List.map_congr_left (fun v hv => zv_add (h v hv))
    rw [e]
theorem zw_app (ad : Nat → Nat) (dA : Nat → ClassId) (h : List zO) (o : zO) : zw ad dA (h ++ [o]) = zw ad dA h ++ [(ad h.length, zr ad dA o)] := by
  simp [zw, List.mapIdx_append]
theorem zw_add {ad : Nat → Nat} {dA : Nat → ClassId} {q : Nat} {h : List zO} (hb : zbh h.length h) : zw (zadd ad h.length q) dA h = zw ad dA h := by
  apply List.ext_getElem?
  intro i
  simp only [zw, List.getElem?_mapIdx]
  cases e : h[i]? with
  | none => rfl
  | some o =>
    have hi := (List.getElem?_eq_some_iff.mp e).1
    have ho := List.mem_of_getElem? e
    show some (zadd ad h.length q i, zr (zadd ad h.length q) dA o) = some (ad i, zr ad dA o)
    rw [zadd_o ad (by omega), zr_add (hb o ho)]
theorem zw_grow {ad : Nat → Nat} {dA : Nat → ClassId} {q : Nat} {h : List zO} {o : zO} (hb : zbh h.length h) (ho : zbo h.length o) : zw (zadd ad h.length q) dA (h ++ [o]) = zw ad dA h ++ [(q, zr ad dA o)] := by
  rw [zw_app, zw_add hb, zadd_n, zr_add ho]
def zbw (n : Nat) (v : Value) : Prop := ∀ a : Nat, v = .ref a → a < n ∨ 1000000 ≤ a
theorem zv_addw {ad : Nat → Nat} {n q : Nat} {v : Value} (h : zbw n v) (hN : n < 1000000) : zv (zadd ad n q) v = zv ad v := by
  cases v with
  | ref a =>
    have h9 := h a rfl
    exact congrArg Value.ref (zadd_o ad (by omega))
  | int x => rfl
  | long x => rfl
  | float x => rfl
  | double x => rfl
  | null => rfl
  | retAddr x => rfl
theorem zLv_add {ad : Nat → Nat} {la : Array Slot} {nL n q : Nat} {ls : List (Option Value)} (h : zLv ad la nL ls) (hb : ∀ v, some v ∈ ls → zbw n v) (hN : n < 1000000) : zLv (zadd ad n q) la nL ls := by
  have e : (zl 0 ls).map (fun q9 => (q9.1, zv (zadd ad n q) q9.2)) = (zl 0 ls).map (fun q9 => (q9.1, zv ad q9.2)) := List.map_congr_left (fun x hx => by
    obtain ⟨i, h1, h2⟩ := zl_inv ls 0 x hx
    exact congrArg (Prod.mk x.1) (zv_addw (hb x.2 (List.mem_of_getElem? h2)) hN))
  show lv_has la nL _
  rw [e]
  exact h
theorem vx_MQ_mono {below : List Frame} {Q1 Q2 : Array Value → State → Outcome → State → Prop} {X1 X2 : String → State → State → Prop} {a : Array Value} {s : State} {mc ms : Nat} {free : Addr → Prop} (hQ : ∀ a s o t, Q1 a s o t → Q2 a s o t) (hX : ∀ E s t, X1 E s t → X2 E s t) {t : State} (h : vx_MQ below Q1 X1 a s mc ms free t) : vx_MQ below Q2 X2 a s mc ms free t := by
  obtain ⟨o, h1, h2, h3⟩ := h
  refine ⟨o, h1, h2, ?_⟩
  rcases h3 with ⟨h4, h5⟩ | ⟨q, h4, E, ce, L, h5, h6⟩
  · exact Or.inl ⟨hQ _ _ _ _ h4, h5⟩
  · exact Or.inr ⟨q, h4, E, ce, L, hX _ _ _ h5, h6⟩
theorem zFin_grow {D : va_G} {dA : Nat → ClassId} {ad : Nat → Nat} {A : Nat → Prop} {n k q : Nat} {h' : List zO} {ad' : Nat → Nat} {st t : State} (hg : n < h'.length) (hk : n < k) (h : zFin D dA (zadd ad n q) A k h' ad' st t) : zFin D dA ad A n h' ad' st t := by
  obtain ⟨h1, h2⟩ := h
  refine ⟨fun i hi => ?_, h2⟩
  have : i < n := by omega
  rw [h1 i (Or.inl (by omega)), zadd_o ad (by omega)]
section ZGROW
variable {y : MethodName} {cc : ByteArray} {nL : Nat} {ret : Option FieldType} {d mc ms pc : Nat} {ls : List (Option Value)} {st : List Value} {h : List zO} {r : zR} {h' : List zO}
theorem z_grown {sl pc2 : Nat} {o : zO} (hb : zbh h.length h) (ho : zbo h.length o) (hl : ∀ v, some v ∈ ls → zbw h.length v) (hs : ∀ v ∈ st, zbw h.length v) (hg : h.length < h'.length) (hN : h.length < 1000000)
    (k : Z sc y cc nL ret d mc ms pc2 ls (.ref h.length :: st) (h ++ [o]) r h')
    {l : Launch} {p : Program} {e : Env} {R : Room} {s : State} {m : MethodId} {args : Array Value} {below : List Frame} {meth : Method} {cd : Code} {locs : List Loc} {cells slots tc ts : Nat} {D : va_G} {dA : Nat → ClassId} {aS ad : Nat → Nat} {bs : Nat} {A : Nat → Prop} {la : Array Slot} {q : Nat} {H1 : Heap}
    (C0 : zC sc y cc nL ret l p s m args meth cd D dA aS ad bs) (hla : zLv ad la nL ls) (hP : va_P D vwCl (zw ad dA h ++ [(q, zr ad dA o)]) H1) (hD : va_D A (zw ad dA h ++ [(q, zr ad dA o)])) (hS : va_S A s.heap H1 locs) (hA : ∀ q, s.heap.size ≤ q → A q) (hAb : ∀ q, A q → bs ≤ q) (h1 : d ≤ R.frames) (h2 : 80 * d ≤ R.locals) (h3 : cells + 1 + mc ≤ tc) (h4 : slots + sl + ms ≤ ts) (h5 : tc ≤ R.cells) (h6 : ts ≤ R.slots) :
    W p l e R s m args below meth cd H1 locs (cells + 1) (slots + sl) (vx_MQ below (zQ D dA ad A h.length h' r) (zXc D dA ad A h.length h' r) args s tc ts A) (F0 m pc2 la (.ref q :: st.map (zv ad))) := by
  have C1 : zC sc y cc nL ret l p s m args meth cd D dA aS (zadd ad h.length q) bs := by
    obtain ⟨a1, a2, a3, a4, a5, a6, a7, a8, ⟨a9, a10⟩, a11⟩ := C0
    exact ⟨a1, a2, a3, a4, a5, a6, a7, a8, ⟨a9, fun i => by rw [zadd_o ad (by omega)]; exact a10 i⟩, a11⟩
  rw [← zw_grow hb ho] at hP hD
  have hz := k l p e R s m args below meth cd H1 locs (cells + 1) (slots + sl) tc ts D dA aS (zadd ad h.length q) bs A la C1 (zLv_add hla hl hN) hP hD hS hA hAb h1 h2 (by omega) (by omega) h5 h6
  have es : (Value.ref h.length :: st).map (zv (zadd ad h.length q)) = .ref q :: st.map (zv ad) := by
    show Value.ref (zadd ad h.length q h.length) :: _ = _
    rw [zadd_n]
    exact congrArg (List.cons _) (List.map_congr_left (fun v hv => zv_addw (hs v hv) hN))
  rw [es] at hz
  intro T hT X
  obtain ⟨t, a, b⟩ := hz T hT X
  refine ⟨t, a, vx_MQ_mono ?_ ?_ b⟩
  · rintro a s o t ⟨v, ad', e1, e2, e3⟩
    exact ⟨v, ad', e1, e2, zFin_grow hg (by rw [List.length_append]; simp) e3⟩
  · rintro E s t ⟨e1, ad', e2⟩
    exact ⟨e1, ad', zFin_grow hg (by rw [List.length_append]; simp) e2⟩
theorem z_new {ik ci N : Nat} {C : String} {T : u_T} {fs : List Value} {ty : Nat → FieldType} (hd : decode cc pc = .ok (.new ik, 3)) (hk : Cond.classLink y.cls ik C ∈ zT) (hinst : Cond.instantiable C N ∈ zT) (hini : Cond.initialized C ∈ zT) (hci : vwCl[ci]? = some (C, T, N)) (hin : ∀ w ∈ u_ws C T N, w ∈ zT) (hty : ∀ k, k < N → parseFieldDescriptor (T k).2.2.1 = some (ty k)) (hfs : ∀ j, j < N → defaultValue (ty j) = vp_V fs j) (hnr : ∀ v ∈ fs, ∀ a, v ≠ .ref a)
    (hb : zbh h.length h) (hl : ∀ v, some v ∈ ls → zbw h.length v) (hs : ∀ v ∈ st, zbw h.length v) (hg : h.length < h'.length) (hN : h.length < 1000000)
    (k : Z sc y cc nL ret d mc ms (pc + 3) ls (.ref h.length :: st) (h ++ [.inr (ci, fs)]) r h') : Z sc y cc nL ret d (mc + 1) (ms + N) pc ls st h r h' := by
  intro l p e R s m args below meth cd H locs cells slots tc ts D dA aS ad bs A la C0 hla hP hD hS hA hAb h1 h2 h3 h4 h5 h6
  have hts := C0.2.2.2.2.1
  have hfm : fs.map (zv ad) = fs := by
    have e : fs.map (zv ad) = fs.map id := List.map_congr_left (fun v hv => by
      cases v with
      | ref a => exact absurd rfl (hnr _ hv a)
      | int x => rfl
      | long x => rfl
      | float x => rfl
      | double x => rfl
      | null => rfl
      | retAddr x => rfl)
    rw [e, List.map_id]
  refine va_new (c0 := cd) C0.1 C0.2.1 hts hin ty hty C0.2.2.2.1 (hts _ hk) (hts _ hinst) (hts _ hini) C0.2.2.2.2.2.2.2.2.2.2.2.1 hP hD hS hA hci (fs := fs) hfs (by omega) (by omega) hd (fun q H1 hP1 hD1 hS1 => ?_)
  have ez : (Sum.inr (ci, fs) : va_E) = zr ad dA (.inr (ci, fs)) := by
    show (Sum.inr (ci, fs) : va_E) = Sum.inr (ci, fs.map (zv ad))
    rw [hfm]
  rw [ez] at hP1 hD1
  exact z_grown (sl := N) (o := .inr (ci, fs)) hb (fun v hv a e9 => absurd e9 (hnr v hv a)) hl hs hg hN k C0 hla hP1 hD1 hS1 hA hAb h1 h2 (by omega) (by omega) h5 h6
theorem z_newa {at9 : ArrayType} {t N : Nat} {ty : FieldType} {x : vp_A} {n : Int32} (hd : decode cc pc = .ok (.newarray at9, 2)) (hac : Cond.arrayClass (newarray.typeOf at9) ∈ zT) (hty : newarray.typeOf at9 = ty) (hpr : ∀ C, ty ≠ .object C) (htt : ∀ dA : Nat → ClassId, (ztys dA)[t]? = some (dA t, ty)) (hx : ∀ cA : ClassId, vp_cell cA x = arrV cA N (fun _ => defaultValue ty)) (hxr : ∀ ad, zx ad x = x) (hn : ¬ n < 0) (hnN : n.toNatClampNeg = N) (hby : N * componentBytes ty ≤ 536870912)
    (hb : zbh h.length h) (ho : ∀ m, zbo m (.inl (t, x))) (hl : ∀ v, some v ∈ ls → zbw h.length v) (hs : ∀ v ∈ st, zbw h.length v) (hg : h.length < h'.length) (hN : h.length < 1000000)
    (k : Z sc y cc nL ret d mc ms (pc + 2) ls (.ref h.length :: st) (h ++ [.inl (t, x)]) r h') : Z sc y cc nL ret d (mc + 1) (ms + N) pc ls (.int n :: st) h r h' := by
  intro l p e R s m args below meth cd H locs cells slots tc ts D dA aS ad bs A la C0 hla hP hD hS hA hAb h1 h2 h3 h4 h5 h6
  have hts := C0.2.2.2.2.1
  have hK := C0.2.2.2.2.2.2.2.2.2.2.2.1
  refine va_newa C0.1 C0.2.1 (hts _ hac) hty hK hP hD hS hA hx hn hnN hby (by omega) (by omega) hd (fun q cA H1 hK1 hP1 hD1 hS1 => ?_)
  have e1 := (hK1.2 (ztys dA).length (cA, ty) (by rw [List.getElem?_append_right (Nat.le_refl _), Nat.sub_self]; rfl)).2
  have e2 := (hK.2 t (dA t, ty) (htt dA)).2
  have eA : cA = dA t := by
    have f1 : s.vm.findClass ("[" ++ ty.toString) = some cA := by
      cases ty with
      | object C => exact absurd rfl (hpr C)
      | _ => exact e1
    have f2 : s.vm.findClass ("[" ++ ty.toString) = some (dA t) := by
      cases ty with
      | object C => exact absurd rfl (hpr C)
      | _ => exact e2
    exact Option.some.inj (f1.symm.trans f2)
  rw [eA] at hP1 hD1
  have ez : (Sum.inl (dA t, x) : va_E) = zr ad dA (.inl (t, x)) := by
    show (Sum.inl (dA t, x) : va_E) = Sum.inl (dA t, zx ad x)
    rw [hxr]
  rw [ez] at hP1 hD1
  exact z_grown (sl := N) hb (ho _) hl hs hg hN k C0 hla hP1 hD1 hS1 hA hAb h1 h2 (by omega) (by omega) h5 h6
end ZGROW
