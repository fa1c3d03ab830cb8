abbrev SC : Type := Nat × (Nat → Int32)
variable {sc : SC}
def zKs (sc : SC) (aS : Nat → Nat) (bs : Nat) (s : State) : Prop :=
  True ∧ True ∧ True ∧
  va_Z "LazyRangeTree" "FIRST_VALUES" "[I" (.ref (aS 200)) (fun a => bs ≤ a) s s.heap ∧ (va_T .int (aS 200) 10 (fun j => .int (([5, -2, 7, 7, 0, 3, -1, 4, 9, -6] : List Int32).getD j 0)) (fun a => bs ≤ a) s s.heap ∧ va_T .int (aS 202) sc.1 (fun j => .int (sc.2 j)) (fun a => bs ≤ a) s s.heap) ∧ va_AO "LazyRangeTree$Tree" s ∧ True
def ZK (sc : SC) (l : Launch) (D : va_G) (dA : Nat → ClassId) (aS : Nat → Nat) (bs : Nat) (s : State) : Prop :=
  l.stackTraces = false ∧ bs ≤ s.heap.size ∧ va_K D vwCl (ztys dA) s ∧ (∀ w ∈ zB, va_Nw w s) ∧ vx_Zq Bundle.tN "UNASSIGNED_STACK" Bundle.steD (fun a => bs ≤ a) s s.heap ∧ vx_Zq Bundle.tN "SUPPRESSED_SENTINEL" Bundle.listD (fun a => bs ≤ a) s s.heap ∧ zKs sc aS bs s
theorem zKs.moved {aS : Nat → Nat} {bs : Nat} {s U : State} (h : zKs sc aS bs s) (hW : s.WarmedH U.vm) (hq : ∀ a : Nat, a < s.heap.size → ¬ bs ≤ a → U.heap[a]? = s.heap[a]?) : zKs sc aS bs U := by
  obtain ⟨h1, h2, h3, h4, h5, h6, h7⟩ := h
  exact ⟨h1, h2, h3, (h4.moved hW.alike).kept hq, ⟨(h5.1.moved hW.alike).kept hq, (h5.2.moved hW.alike).kept hq⟩, h6.moved hW.alike, h7⟩
theorem ZK.moved {l : Launch} {D : va_G} {dA : Nat → ClassId} {aS : Nat → Nat} {bs : Nat} {s U : State} (h : ZK sc l D dA aS bs s) (hW : s.WarmedH U.vm) (hz : s.heap.size ≤ U.heap.size) (hq : ∀ a : Nat, a < s.heap.size → ¬ bs ≤ a → U.heap[a]? = s.heap[a]?) : ZK sc l D dA aS bs U := by
  obtain ⟨h1, h2, h3, h4, h5, h6, h7⟩ := h
  exact ⟨h1, Nat.le_trans h2 hz, h3.moved hW.alike, fun w hw => zBmove (List.mem_filter.mp hw).2 hW (h4 w hw), (h5.moved hW.alike).kept hq, (h6.moved hW.alike).kept hq, h7.moved hW hq⟩
theorem zKs.blind {aS : Nat → Nat} {bs : Nat} {s U : State} (h : zKs sc aS bs s) (hv : U.vm = s.vm) (hh : U.heap = s.heap) : zKs sc aS bs U := by
  have ha : s.vm.Alike U.vm := by rw [hv]; exact Vm.Alike.refl _
  have hq : ∀ a : Nat, a < s.heap.size → ¬ bs ≤ a → U.heap[a]? = s.heap[a]? := fun a _ _ => by rw [hh]
  obtain ⟨h1, h2, h3, h4, h5, h6, h7⟩ := h
  exact ⟨h1, h2, h3, (h4.moved ha).kept hq, ⟨(h5.1.moved ha).kept hq, (h5.2.moved ha).kept hq⟩, h6.moved ha, h7⟩
theorem zBon {w : Cond} (h : zBw w = true) : w.onTables = true := by
  cases w <;> first | rfl | (simp [zBw] at h)
theorem ZK.blind {l : Launch} {D : va_G} {dA : Nat → ClassId} {aS : Nat → Nat} {bs : Nat} {s U : State} (h : ZK sc l D dA aS bs s) (hv : U.vm = s.vm) (hh : U.heap = s.heap) : ZK sc l D dA aS bs U := by
  have ha : s.vm.Alike U.vm := by rw [hv]; exact Vm.Alike.refl _
  have hq : ∀ a : Nat, a < s.heap.size → ¬ bs ≤ a → U.heap[a]? = s.heap[a]? := fun a _ _ => by rw [hh]
  obtain ⟨h1, h2, h3, h4, h5, h6, h7⟩ := h
  exact ⟨h1, by rw [hh]; exact h2, h3.moved ha, fun w hw => va_Nw.same (zBon (List.mem_filter.mp hw).2) hv.symm (h4 w hw), (h5.moved ha).kept hq, (h6.moved ha).kept hq, h7.blind hv hh⟩
def zM (sc : SC) (y : MethodName) (cc : ByteArray) (nL : Nat) (ret : Option FieldType) (d mc ms : Nat) (av : List Value) (h : List zO) (r : zR) (h' : List zO) : Prop :=
  ∀ (l : Launch) (D : va_G) (dA : Nat → ClassId) (aS ad : Nat → Nat) (bs sz : Nat), (∀ i, ad (1000000 + i) = aS i) →
    vx_Met l y (Cond.code y cc nL ret :: zT) { frames := d, cells := mc, slots := ms, locals := 80 * d }
      (va_Pc (av.map (zv ad)) (fun U => U.heap.size = sz ∧ va_P D vwCl (zw ad dA h) U.heap ∧ ZK sc l D dA aS bs U ∧ va_D (fun q => bs ≤ q) (zw ad dA h)))
      (zQ D dA ad (va_A (zw ad dA h) sz) h.length h' r) (zXc D dA ad (va_A (zw ad dA h) sz) h.length h' r) mc ms (va_A (zw ad dA h) sz)
def zExL : List (String × List (Nat × Nat × Nat × Nat)) := []
def zEx (y : MethodName) : List (Nat × Nat × Nat × Nat) := if y.cls = RL then (zExL.lookup y.name).getD [] else []
def zC (sc : SC) (y : MethodName) (cc : ByteArray) (nL : Nat) (ret : Option FieldType) (l : Launch) (p : Program) (s : State) (m : MethodId) (args : Array Value) (meth : Method) (cd : Code) (D : va_G) (dA : Nat → ClassId) (aS ad : Nat → Nat) (bs : Nat) : Prop :=
  p.tables.exec = Jvm.exec ∧ cd.code = cc ∧ cd.maxLocals = nL ∧ s.vm.findClass y.cls = some m.cls ∧ (∀ w ∈ zT, w.before args s = true) ∧ meth.sig.returnType = ret ∧ meth.locks = false ∧ cd.exceptionTable.toList = tableOf (zEx y) ∧ (meth.name = y.name ∧ ∀ i, ad (1000000 + i) = aS i) ∧ ZK sc l D dA aS bs s
def Z (sc : SC) (y : MethodName) (cc : ByteArray) (nL : Nat) (ret : Option FieldType) (d mc ms pc : Nat) (ls : List (Option Value)) (st : List Value) (h : List zO) (r : zR) (h' : List zO) : Prop :=
  ∀ (l : Launch) (p : Program) (e : Env) (R : Room) (s : State) (m : MethodId) (args : Array Value) (below : List Frame) (meth : Method) (cd : Code) (H : Heap) (locs : List Loc) (cells slots tc ts : Nat) (D : va_G) (dA : Nat → ClassId) (aS ad : Nat → Nat) (bs : Nat) (A : Nat → Prop) (la : Array Slot),
    zC sc y cc nL ret l p s m args meth cd D dA aS ad bs → zLv ad la nL ls → va_P D vwCl (zw ad dA h) H → va_D A (zw ad dA h) → va_S A s.heap H locs → (∀ q, s.heap.size ≤ q → A q) → (∀ q, A q → bs ≤ q) →
    d ≤ R.frames → 80 * d ≤ R.locals → cells + mc ≤ tc → slots + ms ≤ ts → tc ≤ R.cells → ts ≤ R.slots →
    W p l e R s m args below meth cd H locs cells slots (vx_MQ below (zQ D dA ad A h.length h' r) (zXc D dA ad A h.length h' r) args s tc ts A) (F0 m pc la (st.map (zv ad)))
theorem zargs_map (ad : Nat → Nat) (vs : List Value) : lg_sl (vs.map (zv ad)) = (lg_sl vs).map (fun q => match q with | .val v => .val (zv ad v) | x => x) := by
  induction vs with
  | nil => rfl
  | cons v t ih =>
    have e : lg_sl (v :: t) = (if v.category = 2 then [Slot.val v, .second] else [.val v]) ++ lg_sl t := rfl
    have e2 : lg_sl ((v :: t).map (zv ad)) = (if (zv ad v).category = 2 then [Slot.val (zv ad v), .second] else [.val (zv ad v)]) ++ lg_sl (t.map (zv ad)) := rfl
    rw [e, e2, ih, zv_cat]
    by_cases h : v.category = 2 <;> simp [h]
def zent (nL : Nat) : List Value → List (Option Value)
  | [] => List.replicate nL none
  | v :: t => if v.category = 2 then some v :: none :: zent (nL - 2) t else some v :: zent (nL - 1) t
theorem zent_in : ∀ (vs : List Value) (nL k i : Nat) (v : Value), (zent nL vs)[i]? = some (some v) → (k + i, v) ∈ lv_args k vs := by
  intro vs
  induction vs with
  | nil =>
    intro nL k i v h
    simp [zent, List.getElem?_replicate] at h
  | cons x t ih =>
    intro nL k i v h
    simp only [zent] at h
    by_cases hx : x.category = 2
    · rw [if_pos hx] at h
      match i, h with
      | 0, h =>
        simp only [List.getElem?_cons_zero, Option.some.injEq] at h
        subst h
        exact List.mem_cons_self
      | 1, h => simp at h
      | i + 2, h =>
        rw [List.getElem?_cons_succ, List.getElem?_cons_succ] at h
        have h2 := ih (nL - 2) (k + 2) i v h
        have e : k + 2 + i = k + (i + 2) := by omega
        rw [e] at h2
        show (k + (i + 2), v) ∈ (k, x) :: lv_args (if x.category = 2 then k + 2 else k + 1) t
        rw [if_pos hx]
        exact List.mem_cons_of_mem _ h2
    · rw [if_neg hx] at h
      match i, h with
      | 0, h =>
        simp only [List.getElem?_cons_zero, Option.some.injEq] at h
        subst h
        exact List.mem_cons_self
      | i + 1, h =>
        rw [List.getElem?_cons_succ] at h
        have h2 := ih (nL - 1) (k + 1) i v h
        have e : k + 1 + i = k + (i + 1) := by omega
        rw [e] at h2
        show (k + (i + 1), v) ∈ (k, x) :: lv_args (if x.category = 2 then k + 2 else k + 1) t
        rw [if_neg hx]
        exact List.mem_cons_of_mem _ h2
theorem zargs_zv (ad : Nat → Nat) : ∀ (vs : List Value) (k : Nat) (q : Nat × Value), q ∈ lv_args k vs → (q.1, zv ad q.2) ∈ lv_args k (vs.map (zv ad)) := by
  intro vs
  induction vs with
  | nil => intro k q h; cases h
  | cons x t ih =>
    intro k q h
    rcases List.mem_cons.mp h with rfl | h
    · exact List.mem_cons_self
    · refine List.mem_cons_of_mem _ ?_
      rw [zv_cat]
      exact ih _ q h
theorem zM.of {y : MethodName} {cc : ByteArray} {nL : Nat} {ret : Option FieldType} {d mc ms : Nat} {av : List Value} {h : List zO} {r : zR} {h' : List zO} (hy : plainName y.cls = true) (hE : zEx y = []) (hn : (lg_sl av).length ≤ nL) (k : Z sc y cc nL ret d mc ms 0 (zent nL av) [] h r h') : zM sc y cc nL ret d mc ms av h r h' := by
  intro l D dA aS ad bs sz hAS
  refine vx_ofW (cc := cc) (maxL := nL) (ret := ret) hy rfl ?_
  intro p e s m args below meth cd s₁ B hml hx0 hv
  obtain ⟨rfl, hsz, hP, hK, hD⟩ := hv
  have hts := atoms_spec (ws := Cond.code y cc nL ret :: zT) B.pre
  have hown : s.vm.findClass y.cls = some m.cls := findClass_of_methodNamed B.named
  subst hsz
  have hD2 := hD.self (sz := s.heap.size)
  have hA : ∀ q : Nat, s.heap.size ≤ q → va_A (zw ad dA h) s.heap.size q := fun q h9 => Or.inr h9
  have hAb : ∀ q : Nat, va_A (zw ad dA h) s.heap.size q → bs ≤ q := fun q h9 => by
    rcases h9 with ⟨k9, e9, h9⟩ | h9
    · exact hD.2 k9 (q, e9) h9
    · exact Nat.le_trans hK.2.1 h9
  have hl0 : (lg_sl (av.map (zv ad))).length ≤ nL := by rw [zargs_map, List.length_map]; exact hn
  have hl := lv_entry (av.map (zv ad)) (n := nL) hl0
  rw [lg_entry_eq]
  have hl2 : zLv ad ((lg_sl (av.map (zv ad)) ++ List.replicate (nL - (lg_sl (av.map (zv ad))).length) Slot.unset).toArray) nL (zent nL av) :=
    zLv.to (ad' := ad) hl (fun i v hi => by
      have h9 := zent_in av nL 0 i v hi
      rw [Nat.zero_add] at h9
      exact zargs_zv ad av 0 (i, v) h9)
  exact k l p e _ s m _ below meth cd s.heap [] 0 0 mc ms D dA aS ad bs (va_A (zw ad dA h) s.heap.size) _
    ⟨B.exec, B.bytes, hml, hown, fun w hw => hts w (List.mem_cons_of_mem _ hw), B.returns, B.notSynchronized, by rw [hE]; exact List.eq_nil_iff_forall_not_mem.mpr (fun x hx => hx0 x hx), ⟨(name_of_methodNamed B.named B.method).1, hAS⟩, hK⟩ hl2 hP hD2 va_S.rf hA hAb (Nat.le_refl _) (Nat.le_refl _) (by omega) (by omega) (Nat.le_refl _) (Nat.le_refl _)
