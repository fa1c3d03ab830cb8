abbrev zO : Type := (Nat × vp_A) ⊕ (Nat × List Value)
abbrev zR : Type := Option Value ⊕ String
def zv (ad : Nat → Nat) (v : Value) : Value := match v with
  | .ref a => .ref (ad a)
  | .int x => .int x
  | .long x => .long x
  | .float x => .float x
  | .double x => .double x
  | .null => .null
  | .retAddr x => .retAddr x
def zx (ad : Nat → Nat) (x : vp_A) : vp_A := match x with
  | (n, .inl f) => (n, .inl f)
  | (n, .inr (.inl f)) => (n, .inr (.inl f))
  | (n, .inr (.inr (.inl f))) => (n, .inr (.inr (.inl f)))
  | (n, .inr (.inr (.inr (.inl f)))) => (n, .inr (.inr (.inr (.inl f))))
  | (n, .inr (.inr (.inr (.inr f)))) => (n, .inr (.inr (.inr (.inr (fun j => (f j).map ad)))))
def zr (ad : Nat → Nat) (dA : Nat → ClassId) (o : zO) : va_E := match o with
  | .inl (t, x) => .inl (dA t, zx ad x)
  | .inr (ci, fs) => .inr (ci, fs.map (zv ad))
def zren (ρ : Nat → Nat) (o : zO) : zO := match o with
  | .inl (t, x) => .inl (t, zx ρ x)
  | .inr (ci, fs) => .inr (ci, fs.map (zv ρ))
def zw (ad : Nat → Nat) (dA : Nat → ClassId) (h : List zO) : va_W := h.mapIdx (fun i o => (ad i, zr ad dA o))
def zl : Nat → List (Option Value) → List (Nat × Value)
  | _, [] => []
  | i, none :: t => zl (i + 1) t
  | i, some v :: t => (i, v) :: zl (i + 1) t
def ztys (dA : Nat → ClassId) : List (ClassId × FieldType) := [(dA 0, .int), (dA 1, .long), (dA 2, .int), (dA 3, .byte), (dA 4, .int), (dA 5, .object "LazyRangeTree$Tree")]
def zBw (w : Cond) : Bool := match w with
  | .methodLinkNest .. => true
  | .declares _ => true
  | .castable .. => true
  | _ => false
def zB : List Cond := lw_tbl.filter zBw
theorem zBmove {w : Cond} (hw : zBw w = true) {s U : State} (hW : s.WarmedH U.vm) (h : va_Nw w s) : va_Nw w U := by
  cases w <;> first | exact va_Nw.warmM hW h | exact va_Nw.warmD hW h | exact va_Nw.warmC hW h | (simp [zBw] at hw)
theorem zv_zv (f g : Nat → Nat) (v : Value) : zv f (zv g v) = zv (fun i => f (g i)) v := by cases v <;> rfl
theorem zv_cat (f : Nat → Nat) (v : Value) : (zv f v).category = v.category := by cases v <;> rfl
theorem zv_id (v : Value) : zv (fun i => i) v = v := by cases v <;> rfl
theorem zx_zx (f g : Nat → Nat) (x : vp_A) : zx f (zx g x) = zx (fun i => f (g i)) x := by
  obtain ⟨n, y⟩ := x
  rcases y with y | y | y | y | y
  · rfl
  · rfl
  · rfl
  · rfl
  · simp [zx, Option.map_map, Function.comp_def]
theorem zx_id (x : vp_A) : zx (fun i => i) x = x := by
  obtain ⟨n, y⟩ := x
  rcases y with y | y | y | y | y
  · rfl
  · rfl
  · rfl
  · rfl
  · simp [zx]
theorem zr_ren (f g : Nat → Nat) (dA : Nat → ClassId) (o : zO) : zr f dA (zren g o) = zr (fun i => f (g i)) dA o := by
  rcases o with ⟨t, x⟩ | ⟨ci, fs⟩
  · simp only [zr, zren, zx_zx]
  · simp only [zr, zren, List.map_map]
    congr 2
    apply List.map_congr_left
    intro v _
    exact zv_zv f g v
theorem zren_id (o : zO) : zren (fun i => i) o = o := by
  rcases o with ⟨t, x⟩ | ⟨ci, fs⟩
  · simp only [zren, zx_id]
  · simp only [zren]
    congr 2
    calc fs.map (zv fun i => i) = fs.map id := List.map_congr_left (fun v _ => zv_id v)
      _ = fs := List.map_id fs
theorem zw_get {ad : Nat → Nat} {dA : Nat → ClassId} {h : List zO} {i : Nat} {o : zO} (hi : h[i]? = some o) : (zw ad dA h)[i]? = some (ad i, zr ad dA o) := by
  simp [zw, List.getElem?_mapIdx, hi]
theorem zw_inv {ad : Nat → Nat} {dA : Nat → ClassId} {h : List zO} {i : Nat} {q : Nat × va_E} (hi : (zw ad dA h)[i]? = some q) : ∃ o, h[i]? = some o ∧ q = (ad i, zr ad dA o) := by
  simp only [zw, List.getElem?_mapIdx, Option.map_eq_some_iff] at hi
  obtain ⟨o, h1, h2⟩ := hi
  exact ⟨o, h1, h2.symm⟩
theorem zw_len (ad : Nat → Nat) (dA : Nat → ClassId) (h : List zO) : (zw ad dA h).length = h.length := by simp [zw]
theorem zw_set (ad : Nat → Nat) (dA : Nat → ClassId) (h : List zO) (i : Nat) (o : zO) : (zw ad dA h).set i (ad i, zr ad dA o) = zw ad dA (h.set i o) := by
  apply List.ext_getElem?
  intro j
  rw [List.getElem?_set, zw_len]
  by_cases hij : i = j
  · subst hij
    by_cases hl : i < h.length
    · simp [hl, zw, List.getElem?_mapIdx]
    · simp [hl, zw, List.getElem?_mapIdx]
  · simp only [hij, if_false, zw, List.getElem?_mapIdx]
    rw [List.getElem?_set_ne hij]
theorem zl_mem {v : Value} : ∀ (ls : List (Option Value)) (k i : Nat), ls[i]? = some (some v) → (k + i, v) ∈ zl k ls := by
  intro ls
  induction ls with
  | nil => intro k i h; simp at h
  | cons x t ih =>
    intro k i h
    cases i with
    | zero =>
      simp only [List.getElem?_cons_zero, Option.some.injEq] at h
      subst h
      exact List.mem_cons_self
    | succ i =>
      rw [List.getElem?_cons_succ] at h
      have h2 := ih (k + 1) i h
      have e : k + 1 + i = k + (i + 1) := by omega
      rw [e] at h2
      cases x with
      | none => exact h2
      | some w => exact List.mem_cons_of_mem _ h2
theorem zl_inv : ∀ (ls : List (Option Value)) (k : Nat) (q : Nat × Value), q ∈ zl k ls → ∃ i, q.1 = k + i ∧ ls[i]? = some (some q.2) := by
  intro ls
  induction ls with
  | nil => intro k q h; cases h
  | cons x t ih =>
    intro k q h
    cases x with
    | none =>
      obtain ⟨i, h1, h2⟩ := ih (k + 1) q h
      exact ⟨i + 1, by omega, by rw [List.getElem?_cons_succ]; exact h2⟩
    | some w =>
      rcases List.mem_cons.mp h with rfl | h
      · exact ⟨0, rfl, rfl⟩
      · obtain ⟨i, h1, h2⟩ := ih (k + 1) q h
        exact ⟨i + 1, by omega, by rw [List.getElem?_cons_succ]; exact h2⟩
def zLv (ad : Nat → Nat) (la : Array Slot) (nL : Nat) (ls : List (Option Value)) : Prop := lv_has la nL ((zl 0 ls).map (fun q => (q.1, zv ad q.2)))
theorem zLv.at {ad : Nat → Nat} {la : Array Slot} {nL : Nat} {ls : List (Option Value)} (h : zLv ad la nL ls) {i : Nat} {v : Value} (hi : ls[i]? = some (some v)) : la[i]? = some (.val (zv ad v)) := by
  have h1 := zl_mem ls 0 i hi
  have h2 := h.2.2 (0 + i, zv ad v) (List.mem_map.mpr ⟨(0 + i, v), h1, rfl⟩)
  simpa using h2
theorem zLv.to {ad ad' : Nat → Nat} {la : Array Slot} {nL : Nat} {l : List (Nat × Value)} {ls : List (Option Value)} (h : lv_has la nL l) (hs : ∀ i v, ls[i]? = some (some v) → (i, zv ad v) ∈ l) : zLv ad la nL ls := by
  refine ⟨h.1, h.2.1, fun q hq => ?_⟩
  obtain ⟨q0, h1, rfl⟩ := List.mem_map.mp hq
  obtain ⟨i, h2, h3⟩ := zl_inv ls 0 q0 h1
  have h4 := hs i q0.2 h3
  have e : q0.1 = i := by omega
  rw [e]
  exact h.2.2 _ h4
def zok (ls : List (Option Value)) (i : Nat) : Bool := match i with
  | 0 => true
  | k + 1 => match ls[k]? with
    | some (some v) => v.category == 1
    | _ => true
theorem zok_spec {ls : List (Option Value)} {i j : Nat} {v : Value} (h : zok ls i = true) (hj : ls[j]? = some (some v)) (hij : j + 1 = i) : v.category = 1 := by
  subst hij
  simp only [zok, hj] at h
  simpa using h
theorem zLv.st1 {ad : Nat → Nat} {la : Array Slot} {nL : Nat} {ls : List (Option Value)} (h : zLv ad la nL ls) {i : Nat} {v : Value} (hk : zok ls i = true) {lv' : List (Nat × Value)} (hl : (i, zv ad v) :: ((zl 0 ls).map (fun q => (q.1, zv ad q.2))).filter (fun q => !(q.1 == i) && !(q.1 + 1 == i && q.2.category == 2)) = lv') {la' : Array Slot} (h' : lv_has la' nL lv') : zLv ad la' nL (ls.set i (some v)) := by
  refine zLv.to (ad' := ad) h' (fun j w hj => ?_)
  subst hl
  by_cases e : i = j
  · subst e
    rw [List.getElem?_set] at hj
    simp only [if_true] at hj
    split at hj
    · simp only [Option.some.injEq] at hj
      subst hj
      exact List.mem_cons_self
    · cases hj
  · rw [List.getElem?_set_ne e] at hj
    have h1 := zl_mem ls 0 j hj
    rw [Nat.zero_add] at h1
    refine List.mem_cons_of_mem _ (List.mem_filter.mpr ⟨List.mem_map.mpr ⟨(j, w), h1, rfl⟩, ?_⟩)
    have e2 : ¬ j = i := fun z => e z.symm
    have e3 : ¬ (j + 1 = i ∧ (zv ad w).category = 2) := fun z => by
      have := zok_spec hk hj z.1
      rw [zv_cat] at z
      omega
    simp only [Bool.and_eq_true, Bool.not_eq_true', beq_eq_false_iff_ne, ne_eq, Bool.and_eq_false_iff]
    refine ⟨e2, ?_⟩
    rcases Nat.lt_or_ge (j + 1) i with q | q
    · left; omega
    · by_cases q2 : j + 1 = i
      · right
        intro z
        exact e3 ⟨q2, z⟩
      · left; exact q2
theorem zLv.st2 {ad : Nat → Nat} {la : Array Slot} {nL : Nat} {ls : List (Option Value)} (h : zLv ad la nL ls) {i : Nat} {v : Value} (hk : zok ls i = true) {lv' : List (Nat × Value)} (hl : (i, zv ad v) :: ((zl 0 ls).map (fun q => (q.1, zv ad q.2))).filter (fun q => !(q.1 == i) && (!(q.1 == i + 1) && !(q.1 + 1 == i && q.2.category == 2))) = lv') {la' : Array Slot} (h' : lv_has la' nL lv') : zLv ad la' nL ((ls.set i (some v)).set (i + 1) none) := by
  refine zLv.to (ad' := ad) h' (fun j w hj => ?_)
  subst hl
  by_cases e1 : i + 1 = j
  · subst e1
    rw [List.getElem?_set] at hj
    simp only [if_true] at hj
    split at hj <;> cases hj
  · rw [List.getElem?_set_ne e1] at hj
    by_cases e : i = j
    · subst e
      rw [List.getElem?_set] at hj
      simp only [if_true] at hj
      split at hj
      · simp only [Option.some.injEq] at hj
        subst hj
        exact List.mem_cons_self
      · cases hj
    · rw [List.getElem?_set_ne e] at hj
      have h1 := zl_mem ls 0 j hj
      rw [Nat.zero_add] at h1
      refine List.mem_cons_of_mem _ (List.mem_filter.mpr ⟨List.mem_map.mpr ⟨(j, w), h1, rfl⟩, ?_⟩)
      have e2 : ¬ j = i := fun z => e z.symm
      have e3 : ¬ (j + 1 = i ∧ (zv ad w).category = 2) := fun z => by
        have := zok_spec hk hj z.1
        rw [zv_cat] at z
        omega
      have e4 : ¬ j = i + 1 := fun z => e1 z.symm
      simp only [Bool.and_eq_true, Bool.not_eq_true', beq_eq_false_iff_ne, ne_eq, Bool.and_eq_false_iff]
      refine ⟨e2, e4, ?_⟩
      by_cases q2 : j + 1 = i
      · right
        intro z
        exact e3 ⟨q2, z⟩
      · left; exact q2
def zFin (D : va_G) (dA : Nat → ClassId) (ad : Nat → Nat) (A : Nat → Prop) (n : Nat) (h' : List zO) (ad' : Nat → Nat) (st t : State) : Prop :=
  (∀ i, (i < n ∨ h'.length = n) → ad' i = ad i) ∧ va_P D vwCl (zw ad' dA h') t.heap ∧ va_D A (zw ad' dA h') ∧ va_F A st t
def zQ (D : va_G) (dA : Nat → ClassId) (ad : Nat → Nat) (A : Nat → Prop) (n : Nat) (h' : List zO) (r : zR) : Array Value → State → Outcome → State → Prop := fun _ st oc t =>
  ∃ (v : Option Value) (ad' : Nat → Nat), r = Sum.inl v ∧ oc = .returned (v.map (zv ad')) ∧ zFin D dA ad A n h' ad' st t
def zXc (D : va_G) (dA : Nat → ClassId) (ad : Nat → Nat) (A : Nat → Prop) (n : Nat) (h' : List zO) (r : zR) : String → State → State → Prop := fun E st t =>
  r = Sum.inr E ∧ ∃ ad' : Nat → Nat, zFin D dA ad A n h' ad' st t
