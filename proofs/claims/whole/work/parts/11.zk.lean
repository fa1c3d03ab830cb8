/-- the claim's texts: whose, the place in its pool, the text, its bytes -/
def zStrs : List (String × Nat × String × List Int32) := [
  (RX4, 67, "sequence", [115, 101, 113, 117, 101, 110, 99, 101]),
  (RX4, 73, "repeat", [114, 101, 112, 101, 97, 116]),
  (RX4, 75, "assign", [97, 115, 115, 105, 103, 110]),
  (RX4, 77, "add", [97, 100, 100]),
  (RX4, 79, "negate", [110, 101, 103, 97, 116, 101]),
  (RX4, 81, "push", [112, 117, 115, 104]),
  (RX4, 83, "settle", [115, 101, 116, 116, 108, 101]),
  (RX4, 85, "append", [97, 112, 112, 101, 110, 100]),
  (RX4, 87, "remove", [114, 101, 109, 111, 118, 101]),
  (RX6, 73, "the length is not within the input buffer", [116, 104, 101, 32, 108, 101, 110, 103, 116, 104, 32, 105, 115, 32, 110, 111, 116, 32, 119, 105, 116, 104, 105, 110, 32, 116, 104, 101, 32, 105, 110, 112, 117, 116, 32, 98, 117, 102, 102, 101, 114]),
  (RX6, 273, "there is no such index", [116, 104, 101, 114, 101, 32, 105, 115, 32, 110, 111, 32, 115, 117, 99, 104, 32, 105, 110, 100, 101, 120]),
  (RX6, 276, "the range ends before it begins", [116, 104, 101, 32, 114, 97, 110, 103, 101, 32, 101, 110, 100, 115, 32, 98, 101, 102, 111, 114, 101, 32, 105, 116, 32, 98, 101, 103, 105, 110, 115]),
  (RX6, 278, "the value is out of range", [116, 104, 101, 32, 118, 97, 108, 117, 101, 32, 105, 115, 32, 111, 117, 116, 32, 111, 102, 32, 114, 97, 110, 103, 101]),
  (RX6, 115, "an element would be out of range", [97, 110, 32, 101, 108, 101, 109, 101, 110, 116, 32, 119, 111, 117, 108, 100, 32, 98, 101, 32, 111, 117, 116, 32, 111, 102, 32, 114, 97, 110, 103, 101]),
  (RX6, 283, "there is no such node", [116, 104, 101, 114, 101, 32, 105, 115, 32, 110, 111, 32, 115, 117, 99, 104, 32, 110, 111, 100, 101]),
  (RX6, 125, "the node is a leaf", [116, 104, 101, 32, 110, 111, 100, 101, 32, 105, 115, 32, 97, 32, 108, 101, 97, 102]),
  (RX6, 133, "there are 40 elements", [116, 104, 101, 114, 101, 32, 97, 114, 101, 32, 52, 48, 32, 101, 108, 101, 109, 101, 110, 116, 115]),
  (RX6, 138, "there is only one element", [116, 104, 101, 114, 101, 32, 105, 115, 32, 111, 110, 108, 121, 32, 111, 110, 101, 32, 101, 108, 101, 109, 101, 110, 116]),
  (RX6, 155, "no snapshot was saved", [110, 111, 32, 115, 110, 97, 112, 115, 104, 111, 116, 32, 119, 97, 115, 32, 115, 97, 118, 101, 100]),
  (RX7, 54, "sequence 5 -2 7 7 0 3 -1 4 9 -6; add 1 6 2; assign 3 4 8; negate 0 4; add 0 9 1;", [115, 101, 113, 117, 101, 110, 99, 101, 32, 53, 32, 45, 50, 32, 55, 32, 55, 32, 48, 32, 51, 32, 45, 49, 32, 52, 32, 57, 32, 45, 54, 59, 32, 97, 100, 100, 32, 49, 32, 54, 32, 50, 59, 32, 97, 115, 115, 105, 103, 110, 32, 51, 32, 52, 32, 56, 59, 32, 110, 101, 103, 97, 116, 101, 32, 48, 32, 52, 59, 32, 97, 100, 100, 32, 48, 32, 57, 32, 49, 59]),
  (RX7, 191, "sequence", [115, 101, 113, 117, 101, 110, 99, 101]),
  (RX7, 225, "assign", [97, 115, 115, 105, 103, 110]),
  (RX7, 227, "add", [97, 100, 100]),
  (RX7, 229, "negate", [110, 101, 103, 97, 116, 101]),
  (RX7, 231, "push", [112, 117, 115, 104]),
  (RX7, 233, "settle", [115, 101, 116, 116, 108, 101]),
  (RX7, 235, "append", [97, 112, 112, 101, 110, 100]),
  (RX7, 237, "remove", [114, 101, 109, 111, 118, 101]),
  (RX7, 239, "repeat", [114, 101, 112, 101, 97, 116])]
/-- the script of a run: how many ints, and which; its array is told by the number 1000202 -/
abbrev SC : Type := Nat × (Nat → Int32)
variable {sc : SC}

/-- what holds of the machine beside a walk: the launch, the classes, the words that are moved one by one, the texts and statics, all below bs, which no walk writes -/
def zKs (sc : SC) (aS : Nat → Nat) (bs : Nat) (s : State) : Prop :=
  (∀ (i : Nat) (q : String × Nat × String × List Int32), zStrs[i]? = some q → vk_R q.1 q.2.1 q.2.2.1 (aS i) s ∧ va_O "java/lang/String" (aS i) (fun a => bs ≤ a) s s.heap ∧ va_OF "java/lang/String" "coder" "B" (.int 0) (aS i) (fun a => bs ≤ a) s s.heap ∧ va_OF "java/lang/String" "value" "[B" (.ref (aS (100 + i))) (aS i) (fun a => bs ≤ a) s s.heap ∧ va_T .byte (aS (100 + i)) q.2.2.2.length (fun j => .int (q.2.2.2.getD j 0)) (fun a => bs ≤ a) s s.heap) ∧
  va_Z "java/lang/String" "COMPACT_STRINGS" "Z" (.int 1) (fun a => bs ≤ a) s s.heap ∧ (va_Z "jdk/internal/util/Preconditions" "SIOOBE_FORMATTER" "Ljava/util/function/BiFunction;" .null (fun a => bs ≤ a) s s.heap ∨ va_Z "jdk/internal/util/Preconditions" "SIOOBE_FORMATTER" "Ljava/util/function/BiFunction;" (.ref (aS 201)) (fun a => bs ≤ a) s s.heap) ∧
  va_Z "LazyRangeTree" "FIRST_VALUES" "[I" (.ref (aS 200)) (fun a => bs ≤ a) s s.heap ∧ (va_T .int (aS 200) 10 (fun j => .int (([5, -2, 7, 7, 0, 3, -1, 4, 9, -6] : List Int32).getD j 0)) (fun a => bs ≤ a) s s.heap ∧ va_T .int (aS 202) sc.1 (fun j => .int (sc.2 j)) (fun a => bs ≤ a) s s.heap) ∧ va_AO "LazyRangeTree$Tree" s ∧ (va_Nc "java/lang/IllegalArgumentException" "java/lang/IndexOutOfBoundsException" s ∧ va_Nc "java/lang/IllegalStateException" "java/lang/IndexOutOfBoundsException" s ∧ va_Nc "java/lang/IllegalStateException" "java/lang/IllegalArgumentException" s)
def ZK (sc : SC) (l : Launch) (D : va_G) (dA : Nat → ClassId) (aS : Nat → Nat) (bs : Nat) (s : State) : Prop :=
  l.stackTraces = false ∧ bs ≤ s.heap.size ∧ va_K D vwCl (ztys dA) s ∧ (∀ w ∈ zB, va_Nw w s) ∧ vx_Zq Bundle.tN "UNASSIGNED_STACK" Bundle.steD (fun a => bs ≤ a) s s.heap ∧ vx_Zq Bundle.tN "SUPPRESSED_SENTINEL" Bundle.listD (fun a => bs ≤ a) s s.heap ∧ zKs sc aS bs s
theorem zKs.moved {aS : Nat → Nat} {bs : Nat} {s U : State} (h : zKs sc aS bs s) (hW : s.WarmedH U.vm) (hq : ∀ a : Nat, a < s.heap.size → ¬ bs ≤ a → U.heap[a]? = s.heap[a]?) : zKs sc aS bs U := by
  obtain ⟨h1, h2, h3, h4, h5, h6, h7, h8, h9⟩ := h
  refine ⟨fun i q hi => ?_, (h2.moved hW.alike).kept hq, h3.elim (fun z => Or.inl ((z.moved hW.alike).kept hq)) (fun z => Or.inr ((z.moved hW.alike).kept hq)), (h4.moved hW.alike).kept hq, ⟨(h5.1.moved hW.alike).kept hq, (h5.2.moved hW.alike).kept hq⟩, h6.moved hW.alike, h7.moved hW.alike, h8.moved hW.alike, h9.moved hW.alike⟩
  obtain ⟨a1, a2, a3, a4, a5⟩ := h1 i q hi
  exact ⟨a1.warm hW, (a2.moved hW.alike).kept hq, (a3.moved hW.alike).kept hq, (a4.moved hW.alike).kept hq, (a5.moved hW.alike).kept hq⟩
theorem ZK.moved {l : Launch} {D : va_G} {dA : Nat → ClassId} {aS : Nat → Nat} {bs : Nat} {s U : State} (h : ZK sc l D dA aS bs s) (hW : s.WarmedH U.vm) (hz : s.heap.size ≤ U.heap.size) (hq : ∀ a : Nat, a < s.heap.size → ¬ bs ≤ a → U.heap[a]? = s.heap[a]?) : ZK sc l D dA aS bs U := by
  obtain ⟨h1, h2, h3, h4, h5, h6, h7⟩ := h
  exact ⟨h1, Nat.le_trans h2 hz, h3.moved hW.alike, fun w hw => zBmove (List.mem_filter.mp hw).2 hW (h4 w hw), (h5.moved hW.alike).kept hq, (h6.moved hW.alike).kept hq, h7.moved hW hq⟩
/-- only the frames differ -/
theorem zKs.blind {aS : Nat → Nat} {bs : Nat} {s U : State} (h : zKs sc aS bs s) (hv : U.vm = s.vm) (hh : U.heap = s.heap) : zKs sc aS bs U := by
  have ha : s.vm.Alike U.vm := by rw [hv]; exact Vm.Alike.refl _
  have hq : ∀ a : Nat, a < s.heap.size → ¬ bs ≤ a → U.heap[a]? = s.heap[a]? := fun a _ _ => by rw [hh]
  obtain ⟨h1, h2, h3, h4, h5, h6, h7, h8, h9⟩ := h
  refine ⟨fun i q hi => ?_, (h2.moved ha).kept hq, h3.elim (fun z => Or.inl ((z.moved ha).kept hq)) (fun z => Or.inr ((z.moved ha).kept hq)), (h4.moved ha).kept hq, ⟨(h5.1.moved ha).kept hq, (h5.2.moved ha).kept hq⟩, h6.moved ha, h7.moved ha, h8.moved ha, h9.moved ha⟩
  obtain ⟨a1, a2, a3, a4, a5⟩ := h1 i q hi
  exact ⟨a1.same hv, (a2.moved ha).kept hq, (a3.moved ha).kept hq, (a4.moved ha).kept hq, (a5.moved ha).kept hq⟩
theorem zBon {w : Cond} (h : zBw w = true) : w.onTables = true := by
  cases w <;> first | rfl | (simp [zBw] at h)
theorem ZK.blind {l : Launch} {D : va_G} {dA : Nat → ClassId} {aS : Nat → Nat} {bs : Nat} {s U : State} (h : ZK sc l D dA aS bs s) (hv : U.vm = s.vm) (hh : U.heap = s.heap) : ZK sc l D dA aS bs U := by
  have ha : s.vm.Alike U.vm := by rw [hv]; exact Vm.Alike.refl _
  have hq : ∀ a : Nat, a < s.heap.size → ¬ bs ≤ a → U.heap[a]? = s.heap[a]? := fun a _ _ => by rw [hh]
  obtain ⟨h1, h2, h3, h4, h5, h6, h7⟩ := h
  exact ⟨h1, by rw [hh]; exact h2, h3.moved ha, fun w hw => va_Nw.same (zBon (List.mem_filter.mp hw).2) hv.symm (h4 w hw), (h5.moved ha).kept hq, (h6.moved ha).kept hq, h7.blind hv hh⟩
/-- A CONTRACT: method y, given the values av over the picture h, gives r and leaves the picture h'; d: the frames it may stack; mc, ms: the cells and slots it makes -/
def zM (sc : SC) (y : MethodName) (cc : ByteArray) (nL : Nat) (ret : Option FieldType) (d mc ms : Nat) (av : List Value) (h : List zO) (r : zR) (h' : List zO) : Prop :=
  ∀ (l : Launch) (D : va_G) (dA : Nat → ClassId) (aS ad : Nat → Nat) (bs sz : Nat), (∀ i, ad (1000000 + i) = aS i) →
    vx_Met l y (Cond.code y cc nL ret :: zT) { frames := d, cells := mc, slots := ms, locals := 100 * d }
      (va_Pc (av.map (zv ad)) (fun U => U.heap.size = sz ∧ va_P D vwCl (zw ad dA h) U.heap ∧ ZK sc l D dA aS bs U ∧ va_D (fun q => bs ≤ q) (zw ad dA h)))
      (zQ D dA ad (va_A (zw ad dA h) sz) h.length h' r) (zXc D dA ad (va_A (zw ad dA h) sz) h.length h' r) mc ms (va_A (zw ad dA h) sz)
/-- the tables of handlers: the law's calls of what throws -/
def zExL : List (String × List (Nat × Nat × Nat × Nat)) := [
  ("truncateInput", [(0, 9, 12, 13)]),
  ("assign", [(0, 12, 15, 19), (0, 12, 19, 13)]),
  ("add", [(0, 12, 15, 19), (0, 12, 19, 13), (0, 12, 23, 24)]),
  ("negate", [(0, 10, 13, 19), (0, 10, 17, 13)]),
  ("pushDown", [(0, 16, 19, 19), (0, 16, 22, 24)]),
  ("appendElement", [(0, 9, 12, 13), (0, 9, 15, 24)]),
  ("removeLast", [(0, 8, 11, 24)]),
  ("restoreSnapshot", [(0, 8, 11, 44)]),
  ("element", [(0, 9, 12, 19)]),
  ("sum", [(0, 9, 12, 19), (0, 9, 16, 13)]),
  ("least", [(0, 10, 13, 19), (0, 10, 17, 13)]),
  ("greatest", [(0, 10, 13, 19), (0, 10, 17, 13)]),
  ("firstLeast", [(0, 10, 13, 19), (0, 10, 17, 13)]),
  ("firstGreatest", [(0, 10, 13, 19), (0, 10, 17, 13)]),
  ("leastCount", [(0, 10, 13, 19), (0, 10, 17, 13)]),
  ("greatestCount", [(0, 10, 13, 19), (0, 10, 17, 13)]),
  ("runCount", [(0, 10, 13, 19), (0, 10, 17, 13)]),
  ("isAscending", [(0, 17, 20, 19), (0, 17, 24, 13)]),
  ("isDescending", [(0, 17, 20, 19), (0, 17, 24, 13)]),
  ("steepestStep", [(0, 10, 13, 19), (0, 10, 17, 13)]),
  ("mean", [(0, 9, 12, 19), (0, 9, 16, 13)]),
  ("greatestShare", [(0, 10, 13, 19), (0, 10, 17, 13)]),
  ("firstAtLeast", [(0, 10, 13, 19)]),
  ("firstBelow", [(0, 10, 13, 19)]),
  ("lastAtLeast", [(0, 10, 13, 19)]),
  ("distinctCount", [(0, 10, 13, 19), (0, 10, 17, 13)]),
  ("leafOf", [(0, 9, 12, 19)]),
  ("isLeaf", [(0, 16, 19, 19)]),
  ("firstIndex", [(0, 9, 12, 19)]),
  ("lastIndex", [(0, 9, 12, 19)]),
  ("storedSum", [(0, 8, 11, 19)]),
  ("storedLeast", [(0, 9, 12, 19)]),
  ("storedGreatest", [(0, 9, 12, 19)]),
  ("markFactor", [(0, 9, 12, 19)]),
  ("markOffset", [(0, 9, 12, 19)]),
  ("marksAbove", [(0, 9, 12, 19)]),
  ("appliedFor", [(0, 10, 13, 19), (0, 10, 17, 13)]),
  ("appliedNode", [(0, 12, 15, 19), (0, 12, 19, 13)]),
  ("visitedFor", [(0, 10, 13, 19), (0, 10, 17, 13)]),
  ("pushesFor", [(0, 10, 13, 19), (0, 10, 17, 13)]),
  ("canAdd", [(0, 19, 22, 19), (0, 19, 26, 13)]),
  ("greatestAddition", [(0, 10, 13, 19), (0, 10, 17, 13)]),
  ("totalIfAssigned", [(0, 11, 14, 19), (0, 11, 18, 13)]),
  ("writeRange", [(0, 10, 13, 19), (0, 10, 17, 13)])]
def zEx (y : MethodName) : List (Nat × Nat × Nat × Nat) := if y.cls = RL then (zExL.lookup y.name).getD [] else []
def zC (sc : SC) (y : MethodName) (cc : ByteArray) (nL : Nat) (ret : Option FieldType) (l : Launch) (p : Program) (s : State) (m : MethodId) (args : Array Value) (meth : Method) (cd : Code) (D : va_G) (dA : Nat → ClassId) (aS ad : Nat → Nat) (bs : Nat) : Prop :=
  p.tables.exec = Jvm.exec ∧ cd.code = cc ∧ cd.maxLocals = nL ∧ s.vm.findClass y.cls = some m.cls ∧ (∀ w ∈ zT, w.before args s = true) ∧ meth.sig.returnType = ret ∧ meth.locks = false ∧ cd.exceptionTable.toList = tableOf (zEx y) ∧ (meth.name = y.name ∧ ∀ i, ad (1000000 + i) = aS i) ∧ ZK sc l D dA aS bs s
/-- A WALK: from this place of method y, with these places and this stack, over the picture h, the method comes to its end with r, and leaves h' -/
def Z (sc : SC) (y : MethodName) (cc : ByteArray) (nL : Nat) (ret : Option FieldType) (d mc ms pc : Nat) (ls : List (Option Value)) (st : List Value) (h : List zO) (r : zR) (h' : List zO) : Prop :=
  ∀ (l : Launch) (p : Program) (e : Env) (R : Room) (s : State) (m : MethodId) (args : Array Value) (below : List Frame) (meth : Method) (cd : Code) (H : Heap) (locs : List Loc) (cells slots tc ts : Nat) (D : va_G) (dA : Nat → ClassId) (aS ad : Nat → Nat) (bs : Nat) (A : Nat → Prop) (la : Array Slot),
    zC sc y cc nL ret l p s m args meth cd D dA aS ad bs → zLv ad la nL ls → va_P D vwCl (zw ad dA h) H → va_D A (zw ad dA h) → va_S A s.heap H locs → (∀ q, s.heap.size ≤ q → A q) → (∀ q, A q → bs ≤ q) →
    d ≤ R.frames → 100 * d ≤ R.locals → cells + mc ≤ tc → slots + ms ≤ ts → tc ≤ R.cells → ts ≤ R.slots →
    W p l e R s m args below meth cd H locs cells slots (vx_MQ below (zQ D dA ad A h.length h' r) (zXc D dA ad A h.length h' r) args s tc ts A) (F0 m pc la (st.map (zv ad)))
theorem zargs_map (ad : Nat → Nat) (vs : List Value) : lg_sl (vs.map (zv ad)) = (lg_sl vs).map (fun q => match q with | .val v => .val (zv ad v) | x => x) := by
  induction vs with
  | nil => rfl
  | cons v t ih =>
    have e : lg_sl (v :: t) = (if v.category = 2 then [Slot.val v, .second] else [.val v]) ++ lg_sl t := rfl
    have e2 : lg_sl ((v :: t).map (zv ad)) = (if (zv ad v).category = 2 then [Slot.val (zv ad v), .second] else [.val (zv ad v)]) ++ lg_sl (t.map (zv ad)) := rfl
    rw [e, e2, ih, zv_cat]
    by_cases h : v.category = 2 <;> simp [h]
/-- the places at the entry -/
def zent (nL : Nat) : List Value → List (Option Value)
  | [] => List.replicate nL none
  | v :: t => if v.category = 2 then some v :: none :: zent (nL - 2) t else some v :: zent (nL - 1) t
theorem zent_in : ∀ (vs : List Value) (nL k i : Nat) (v : Value), (zent nL vs)[i]? = some (some v) → (k + i, v) ∈ lv_args k vs := by
  intro vs
  induction vs with
  | nil =>
    intro nL k i v h
    simp [zent, List.getElem?_replicate] at h
  | cons x t ih =>
    intro nL k i v h
    simp only [zent] at h
    by_cases hx : x.category = 2
    · rw [if_pos hx] at h
      match i, h with
      | 0, h =>
        simp only [List.getElem?_cons_zero, Option.some.injEq] at h
        subst h
        exact List.mem_cons_self
      | 1, h => simp at h
      | i + 2, h =>
        rw [List.getElem?_cons_succ, List.getElem?_cons_succ] at h
        have h2 := ih (nL - 2) (k + 2) i v h
        have e : k + 2 + i = k + (i + 2) := by omega
        rw [e] at h2
        show (k + (i + 2), v) ∈ (k, x) :: lv_args (if x.category = 2 then k + 2 else k + 1) t
        rw [if_pos hx]
        exact List.mem_cons_of_mem _ h2
    · rw [if_neg hx] at h
      match i, h with
      | 0, h =>
        simp only [List.getElem?_cons_zero, Option.some.injEq] at h
        subst h
        exact List.mem_cons_self
      | i + 1, h =>
        rw [List.getElem?_cons_succ] at h
        have h2 := ih (nL - 1) (k + 1) i v h
        have e : k + 1 + i = k + (i + 1) := by omega
        rw [e] at h2
        show (k + (i + 1), v) ∈ (k, x) :: lv_args (if x.category = 2 then k + 2 else k + 1) t
        rw [if_neg hx]
        exact List.mem_cons_of_mem _ h2
theorem zargs_zv (ad : Nat → Nat) : ∀ (vs : List Value) (k : Nat) (q : Nat × Value), q ∈ lv_args k vs → (q.1, zv ad q.2) ∈ lv_args k (vs.map (zv ad)) := by
  intro vs
  induction vs with
  | nil => intro k q h; cases h
  | cons x t ih =>
    intro k q h
    rcases List.mem_cons.mp h with rfl | h
    · exact List.mem_cons_self
    · refine List.mem_cons_of_mem _ ?_
      rw [zv_cat]
      exact ih _ q h
/-- a contract out of the walk from the entry -/
theorem zM.of {y : MethodName} {cc : ByteArray} {nL : Nat} {ret : Option FieldType} {d mc ms : Nat} {av : List Value} {h : List zO} {r : zR} {h' : List zO} (hy : plainName y.cls = true) (hE : zEx y = []) (hn : (lg_sl av).length ≤ nL) (k : Z sc y cc nL ret d mc ms 0 (zent nL av) [] h r h') : zM sc y cc nL ret d mc ms av h r h' := by
  intro l D dA aS ad bs sz hAS
  refine vx_ofW (cc := cc) (maxL := nL) (ret := ret) hy rfl ?_
  intro p e s m args below meth cd s₁ B hml hx0 hv
  obtain ⟨rfl, hsz, hP, hK, hD⟩ := hv
  have hts := atoms_spec (ws := Cond.code y cc nL ret :: zT) B.pre
  have hown : s.vm.findClass y.cls = some m.cls := findClass_of_methodNamed B.named
  subst hsz
  have hD2 := hD.self (sz := s.heap.size)
  have hA : ∀ q : Nat, s.heap.size ≤ q → va_A (zw ad dA h) s.heap.size q := fun q h9 => Or.inr h9
  have hAb : ∀ q : Nat, va_A (zw ad dA h) s.heap.size q → bs ≤ q := fun q h9 => by
    rcases h9 with ⟨k9, e9, h9⟩ | h9
    · exact hD.2 k9 (q, e9) h9
    · exact Nat.le_trans hK.2.1 h9
  have hl0 : (lg_sl (av.map (zv ad))).length ≤ nL := by rw [zargs_map, List.length_map]; exact hn
  have hl := lv_entry (av.map (zv ad)) (n := nL) hl0
  rw [lg_entry_eq]
  have hl2 : zLv ad ((lg_sl (av.map (zv ad)) ++ List.replicate (nL - (lg_sl (av.map (zv ad))).length) Slot.unset).toArray) nL (zent nL av) :=
    zLv.to (ad' := ad) hl (fun i v hi => by
      have h9 := zent_in av nL 0 i v hi
      rw [Nat.zero_add] at h9
      exact zargs_zv ad av 0 (i, v) h9)
  exact k l p e _ s m _ below meth cd s.heap [] 0 0 mc ms D dA aS ad bs (va_A (zw ad dA h) s.heap.size) _
    ⟨B.exec, B.bytes, hml, hown, fun w hw => hts w (List.mem_cons_of_mem _ hw), B.returns, B.notSynchronized, by rw [hE]; exact List.eq_nil_iff_forall_not_mem.mpr (fun x hx => hx0 x hx), ⟨(name_of_methodNamed B.named B.method).1, hAS⟩, hK⟩ hl2 hP hD2 va_S.rf hA hAb (Nat.le_refl _) (Nat.le_refl _) (by omega) (by omega) (Nat.le_refl _) (Nat.le_refl _)
