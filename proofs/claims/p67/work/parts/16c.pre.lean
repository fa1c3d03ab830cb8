variable {sc : SC}
theorem zfit_pre (h rest : List zO) : zfit (fun i => i) 0 (h ++ rest) h := by
  have key : ∀ (hc : List zO) (k : Nat), (∀ i o, hc[i]? = some o → (h ++ rest)[k + i]? = some o) → zfit (fun i => i) k (h ++ rest) hc := by
    intro hc
    induction hc with
    | nil => intro k _; exact trivial
    | cons x t ih =>
      intro k hk
      refine ⟨?_, ih (k + 1) (fun i o hi => ?_)⟩
      · rw [zren_id]
        exact hk 0 x rfl
      · have h9 := hk (i + 1) o (by rw [List.getElem?_cons_succ]; exact hi)
        have e : k + 1 + i = k + (i + 1) := by omega
        rw [e]; exact h9
  exact key h 0 (fun i o hi => by
    rw [Nat.zero_add, List.getElem?_append_left (List.getElem?_eq_some_iff.mp hi).1]; exact hi)
theorem zplug_pre {h hc rest : List zO} (hl : hc.length = h.length) : zplug (fun i => i) 0 (h ++ rest) hc = hc ++ rest := by
  apply List.ext_getElem?
  intro j
  by_cases hj : j < hc.length
  · have h1 := zplug_in (ρ := fun i => i) hc 0 (h ++ rest) j hc[j] (fun a b _ _ e => by simpa using e) (fun a ha => by simp only [Nat.zero_add, List.length_append]; omega) (List.getElem?_eq_getElem hj)
    simp only [Nat.zero_add] at h1
    rw [h1, zren_id, List.getElem?_append_left hj, List.getElem?_eq_getElem hj]
  · have h1 := zplug_out (ρ := fun i => i) hc 0 (h ++ rest) j (fun i hi => by simp only [Nat.zero_add]; omega)
    rw [h1, List.getElem?_append_right (by omega), List.getElem?_append_right (by omega), hl]
section ZPRE
variable {y : MethodName} {cc : ByteArray} {nL : Nat} {ret : Option FieldType} {d mc ms pc : Nat} {ls : List (Option Value)} {st : List Value} {h : List zO} {r : zR} {h' : List zO}
variable {y2 : MethodName} {cc2 : ByteArray} {nL2 : Nat} {ret2 : Option FieldType} {d2 mc2 ms2 : Nat} {av : List Value} {hc' rest : List zO} {stk : List Value}
theorem Z.callPn (g : zRun sc y cc nL ret d pc (h ++ rest) stk st y2 cc2 nL2 ret2 d2 0 0 av h (.inl none) hc' (fun i => i)) (hlen : hc'.length = h.length)
    (k : Z sc y cc nL ret d mc ms (pc + 3) ls st (hc' ++ rest) r h') : Z sc y cc nL ret d mc ms pc ls stk (h ++ rest) r h' :=
  Z.call g (zfit_pre h rest) (fun _ _ _ _ e => e) hlen (by rw [zplug_pre hlen]; exact k)
theorem Z.callPs {v : Value} (g : zRun sc y cc nL ret d pc (h ++ rest) stk st y2 cc2 nL2 ret2 d2 0 0 av h (.inl (some v)) hc' (fun i => i)) (hlen : hc'.length = h.length)
    (k : Z sc y cc nL ret d mc ms (pc + 3) ls (v :: st) (hc' ++ rest) r h') : Z sc y cc nL ret d mc ms pc ls stk (h ++ rest) r h' :=
  Z.call g (zfit_pre h rest) (fun _ _ _ _ e => e) hlen (by rw [zplug_pre hlen]; show Z sc y cc nL ret d mc ms (pc + 3) ls (zv (fun i => i) v :: st) (hc' ++ rest) r h'; rw [zv_id]; exact k)
theorem Z.namePT {T0 : TS} (k : ∀ T : TS, T = T0 → Z sc y cc nL ret d mc ms pc ls st (th T ++ rest) r h') : Z sc y cc nL ret d mc ms pc ls st (th T0 ++ rest) r h' := k T0 rfl
end ZPRE
def zfl (f : Nat → Int32) (v : Int32) (i : Nat) : Nat → Int32 := fun j => if j < i then v else f j
theorem zfl_up (f : Nat → Int32) (v : Int32) (i : Nat) : upd (zfl f v i) i v = zfl f v (i + 1) := by
  funext j
  simp only [upd, zfl]
  by_cases h1 : j = i
  · rw [if_pos h1, if_pos (by omega)]
  · rw [if_neg h1]
    by_cases h2 : j < i
    · rw [if_pos h2, if_pos (by omega)]
    · rw [if_neg h2, if_neg (by omega)]
theorem zfl_0 (f : Nat → Int32) (v : Int32) : f = zfl f v 0 := by funext j; simp [zfl]
section ZEMP
variable {y : MethodName} {cc : ByteArray} {nL : Nat} {ret : Option FieldType} {d mc ms pc : Nat} {ls : List (Option Value)} {st : List Value} {h : List zO} {r : zR} {h' : List zO}
variable {y2 : MethodName} {cc2 : ByteArray} {nL2 : Nat} {ret2 : Option FieldType} {d2 mc2 ms2 : Nat} {av : List Value} {hc' : List zO} {stk : List Value}
theorem Z.callE {v : Value} (g : zRun sc y cc nL ret d pc h stk st y2 cc2 nL2 ret2 d2 0 0 av [] (.inl (some v)) [] (fun i => i))
    (k : Z sc y cc nL ret d mc ms (pc + 3) ls (v :: st) h r h') : Z sc y cc nL ret d mc ms pc ls stk h r h' :=
  Z.call g trivial (fun i _ hi => by simp at hi) rfl (by show Z sc y cc nL ret d mc ms (pc + 3) ls (zv (fun i => i) v :: st) h r h'; rw [zv_id]; exact k)
end ZEMP
