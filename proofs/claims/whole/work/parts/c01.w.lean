variable {sc : SC}
/-! ===== the claim out of the walk ===== -/
def R_law : String := "LazyRangeTreeLaw"
def lw_P (b : Addr) (xs : List Int32) (args : Array Value) (s : State) : Prop := args = #[.ref b] ∧ s.IntsAt b xs ∧ xs.length ≤ 3072 ∧ (Jvm.Cond.and given_1 narrow_1).before args s = true
theorem lw_closed {s t : State} {o : Outcome} {d0 : Drawn} {L : List Loc} {k n : Nat} (hd0 : s.drawn.sameBut d0 lw_cs) (hv : ∃ v, o = .returned v) (hW : (s.setDrawn d0).WarmedH t.vm) (hs : (s.setDrawn d0).sameButNew ({ t with vm := s.vm } : State) L k n) : State.butDraws s t lw_cs (fun t1 => Framed s o t1 L k n) := by
  have h2 : t.drawn = d0 := congrArg State.drawn hs.1
  refine ⟨⟨hv, hW, State.sameButNew.setDrawn hs s.drawn⟩, ?_, by decide⟩
  rw [h2]
  exact hd0
def lw_Q (_ : Array Value) (s : State) (o : Outcome) (t : State) : Prop := o = .returned (some (.int 1)) ∧ State.butDraws s t lw_cs (fun t1 => Framed s o t1 [] 601024 7293034)
def lw_Z (below : List Frame) (a : Array Value) (s : State) : State → Prop := fun t => ∃ o, t.status = .running ∧ Ended t below o ∧ lw_Q a s o t
def lw_At (p : Program) (s : State) (m : MethodId) (meth : Method) (c : Code) (b L : Nat) (xs : Nat → Int32) : Prop :=
  p.tables.exec = Jvm.exec ∧ c.code = code ∧ meth.sig.returnType = ret ∧ c.maxLocals = 9 ∧ s.vm.findClass R_law = some m.cls ∧ (∀ w ∈ lw_tbl, w.before #[Value.ref b] s = true) ∧ va_X b L xs s s.heap ∧ b < s.heap.size ∧ meth.locks = false ∧ (Jvm.Cond.and given_1 narrow_1).before #[Value.ref b] s = true ∧ c.exceptionTable.toList = [] ∧ meth.name = "law"
theorem whole_start0 {p : Program} {e : Env} {s : State} {m : MethodId} {below : List Frame} {meth : Method} {c : Code} (hN : ∀ (n : Nat) (f : Nat → Int32) (S X R : ZS) (T : TS) (P : ZS) (TU : TS) (q : Nat) (G : Nat → TS) (TN : TS) (fl : Nat → Int64), hNo n f S X R T P TU q G TN fl) (hS : ∀ (n : Nat) (f : Nat → Int32), hSc 30 n f) (hI : Inv 10 iZ iZ iZ iT4 iZ tZ 0 (fun _ => tZ) tZ mS2) (l : Launch) (hflags : l.flags = flags0) {b L : Nat} {xs : Nat → Int32} (hL : L ≤ 3072) (C0 : lw_At p s m meth c b L xs) : W p l e room_1 s m #[Value.ref b] below meth c s.heap [] 0 0 (lw_Z below #[Value.ref b] s) (entryFrame m ([Value.ref b] : List Value).toArray 9) := by
  obtain ⟨hx, hb, hr, hml, hown, hts, hX, hbl, hlocks, hgv, hex, hnm⟩ := id C0
  have hst : l.stackTraces = false := by unfold Launch.stackTraces; rw [hflags]; decide +kernel
  obtain ⟨D, dA, aS, hZK, e202⟩ := zZKof (l := l) hst hts hX hgv
  obtain ⟨h', hz⟩ := l_run (n := L) (f := xs) (d := 30) (hN L xs) (hS L xs) hI hL (Nat.le_refl 30)
  obtain ⟨ad, had⟩ : ∃ ad : Nat → Nat, ad = fun i => if i < 1000000 then 0 else aS (i - 1000000) := ⟨_, rfl⟩
  have hAS : ∀ i, ad (1000000 + i) = aS i := fun i => by
    rw [had]
    show (if 1000000 + i < 1000000 then 0 else aS (1000000 + i - 1000000)) = aS i
    rw [if_neg (by omega), Nat.add_sub_cancel_left]
  have eb : ad 1000202 = b := (hAS 202).trans e202
  have C1 : zC (L, xs) yL_law cL_law 9 (some .boolean) l p s m #[Value.ref b] meth c D dA aS ad s.heap.size :=
    ⟨hx, hb, hml, hown, fun w hw => hts w (List.mem_filter.mp hw).1, hr, hlocks, hex, ⟨hnm, hAS⟩, hZK⟩
  have e9 : ([Value.ref 1000202]).map (zv ad) = [Value.ref b] := by
    show [Value.ref (ad 1000202)] = _
    rw [eb]
  have hl0 : (lg_sl (([Value.ref 1000202]).map (zv ad))).length ≤ 9 := by rw [zargs_map, List.length_map]; exact Nat.le_of_ble_eq_true rfl
  have hl := lv_entry (([Value.ref 1000202]).map (zv ad)) (n := 9) hl0
  have hl2 : zLv ad ((lg_sl (([Value.ref 1000202]).map (zv ad)) ++ List.replicate (9 - (lg_sl (([Value.ref 1000202]).map (zv ad))).length) Slot.unset).toArray) 9 (zent 9 [Value.ref 1000202]) :=
    zLv.to (ad' := ad) hl (fun i v hi => by
      have h9 := zent_in [Value.ref 1000202] 9 0 i v hi
      rw [Nat.zero_add] at h9
      exact zargs_zv ad [Value.ref 1000202] 0 (i, v) h9)
  rw [e9] at hl2
  have hl3 : zLv ad ((lg_sl [Value.ref b] ++ List.replicate (9 - (lg_sl [Value.ref b]).length) Slot.unset).toArray) 9 [some (.ref 1000202), none, none, none, none, none, none, none, none] := hl2
  have hP : va_P D vwCl (zw ad dA []) s.heap := fun k q h => by simp [zw] at h
  have hD : va_D (fun q : Nat => s.heap.size ≤ q) (zw ad dA []) := ⟨fun i j p q h => by simp [zw] at h, fun k q h => by simp [zw] at h⟩
  have hw := hz l p e room_1 s m #[Value.ref b] below meth c s.heap [] 0 0 601024 7293034 D dA aS ad s.heap.size (fun q => s.heap.size ≤ q) _ C1 hl3 hP hD va_S.rf (fun _ h => h) (fun _ h => h) (by decide) (by decide) (by decide) (by decide) (by decide) (by decide)
  rw [lg_entry_eq]
  intro T hT X
  obtain ⟨t, a1, o, h1, h2, h3⟩ := hw T hT X
  refine ⟨t, a1, o, h1, h2, ?_⟩
  rcases h3 with ⟨⟨v, ad', e1, e2, -⟩, L9, ⟨hv, hW, hs⟩, hL9⟩ | ⟨q, -, E, ce, L9, ⟨hbad, -⟩, -⟩
  · cases e1
    exact ⟨e2, lw_closed (d0 := s.drawn) (Drawn.sameBut.refl s.drawn lw_cs) hv hW (hs.weaken (fun y hy hlt => absurd hlt (Nat.not_lt.mpr (hL9 y hy))) (Nat.le_refl _) (Nat.le_refl _))⟩
  · cases hbad
