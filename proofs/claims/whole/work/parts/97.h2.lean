variable {sc : SC}

theorem zca_A : Cond.castable "java/lang/IllegalArgumentException" "java/lang/IllegalArgumentException" ∈ zB := zbmem (94 + 669) (by decide +kernel) (by decide +kernel)
theorem zca_B : Cond.castable "java/lang/IndexOutOfBoundsException" "java/lang/IndexOutOfBoundsException" ∈ zB := zbmem (94 + 753) (by decide +kernel) (by decide +kernel)
theorem zca_S : Cond.castable "java/lang/IllegalStateException" "java/lang/IllegalStateException" ∈ zB := zbmem (94 + 784) (by decide +kernel) (by decide +kernel)
theorem zca_N : Cond.castable "java/util/NoSuchElementException" "java/util/NoSuchElementException" ∈ zB := zbmem (94 + 849) (by decide +kernel) (by decide +kernel)
section ZDAST
variable {y : MethodName} {cc : ByteArray} {nL : Nat} {ret : Option FieldType} {d mc ms pc : Nat} {ls : List (Option Value)} {st : List Value} {h : List zO} {r : zR} {h' : List zO}
theorem z_dast {a n : Nat} {f : Nat → UInt64} {i : Int32} {x : UInt64} (hd : decode cc pc = .ok (.dastore, 1)) (ho : h[a]? = some (.inl (2, n, .inr (.inr (.inr (.inl f)))))) (hi : vp_in i n)
    (k0 : Z sc y cc nL ret d mc ms (pc + 1) ls st (h.set a (.inl (2, n, .inr (.inr (.inr (.inl (vf_upd f i.toNatClampNeg x))))))) r h') : Z sc y cc nL ret d mc ms pc ls (.double x :: .int i :: .ref a :: st) h r h' := by
  intro l p e R s m args below meth cd H locs cells slots tc ts D dA aS ad bs A la C0 hl hP hD hS hA hAb h1 h2 h3 h4 h5 h6
  have e1 : (zw ad dA h)[a]? = some (ad a, .inl (dA 2, n, .inr (.inr (.inr (.inl f))))) := zw_get ho
  refine va_dast C0.1 C0.2.1 C0.2.2.2.2.2.2.2.2.2.2.2.1 hP hD hS a 2 e1 rfl hi hd (fun H1 locs1 hP1 hD1 hS1 => ?_)
  have e2 : (ad a, (Sum.inl (dA 2, n, .inr (.inr (.inr (.inl (vf_upd f i.toNatClampNeg x))))) : va_E)) = (ad a, zr ad dA (.inl (2, n, .inr (.inr (.inr (.inl (vf_upd f i.toNatClampNeg x))))))) := rfl
  rw [e2, zw_set] at hP1 hD1
  have hz := k0 l p e R s m args below meth cd H1 locs1 cells slots tc ts D dA aS ad bs A la C0 hl hP1 hD1 hS1 hA hAb h1 h2 h3 h4 h5 h6
  rw [List.length_set] at hz
  exact hz
end ZDAST
/-- the object closes by itself -/
theorem hist_b {S : ZS} {r : Nat} {G : Nat → TS} {n : Nat} (h : 106 ≤ n) : zbh n (hist S r G) := by
  have key : ∀ a : Nat, a < 74 → zs3 74 32 1 a < n := fun a ha => by
    have e : zs3 74 32 1 a = 32 + a := if_pos ha
    omega
  have hh : zbh 74 (hho 0 S r G) := by
    refine zbh_cons (zbo_of rfl) (zbh_cons (fun j a e => ?_) (zbh_of rfl))
    have e2 : (if j < 8 then some (0 + 2 + 9 * ((j + r) % 8)) else none) = some a := e
    split at e2
    · have := Option.some.inj e2
      have := Nat.mod_lt (j + r) (show 0 < 8 by decide)
      omega
    · cases e2
  intro y hy
  obtain ⟨x, hx, rfl⟩ := List.mem_map.mp hy
  have h1 := hh x hx
  rcases x with ⟨t, q, f | f | f | f | f⟩ | ⟨ci, fs⟩
  · trivial
  · trivial
  · trivial
  · trivial
  · intro j a e
    have e2 : (f j).map (zs3 74 32 1) = some a := e
    rw [Option.map_eq_some_iff] at e2
    obtain ⟨a0, e3, e4⟩ := e2
    rw [← e4]
    exact key a0 (h1 j a0 e3)
  · intro v hv a e
    obtain ⟨v0, hv0, rfl⟩ := List.mem_map.mp hv
    cases v0 with
    | ref a0 =>
      have e2 : Value.ref (zs3 74 32 1 a0) = .ref a := e
      injection e2 with e3
      rw [← e3]
      exact key a0 (h1 _ hv0 a0 rfl)
    | int x => cases e
    | long x => cases e
    | float x => cases e
    | double x => cases e
    | null => cases e
    | retAddr x => cases e
theorem FH_b {S X R : ZS} {T : TS} {P : ZS} {TU : TS} {r : Nat} {G : Nat → TS} {TN : TS} {n : Nat} (h : 115 ≤ n) : zbh n (FH S X R T P TU r G TN) := by
  have e : zbh 115 (FH S X R T P TU r G TN) := zbh_app (zbh_of rfl) (zbh_app (zbh_of rfl) (zbh_app (hist_b (by decide)) (zbh_of rfl)))
  exact zbh_mono h e
/-- the object, and what the law's calls write to -/
def WL (S X R : ZS) (T : TS) (P : ZS) (TU : TS) (r : Nat) (G : Nat → TS) (TN : TS) (f : Nat → Int64) : List zO := FH S X R T P TU r G TN ++ [.inl (1, 1, .inr (.inl f))]
def WD (S X R : ZS) (T : TS) (P : ZS) (TU : TS) (r : Nat) (G : Nat → TS) (TN : TS) (f : Nat → UInt64) : List zO := FH S X R T P TU r G TN ++ [.inl (2, 1, .inr (.inr (.inr (.inl f))))]
section WLL
variable (S X R : ZS) (T : TS) (P : ZS) (TU : TS) (r : Nat) (G : Nat → TS) (TN : TS)
theorem WL_len (f : Nat → Int64) : (WL S X R T P TU r G TN f).length = 116 := rfl
theorem WD_len (f : Nat → UInt64) : (WD S X R T P TU r G TN f).length = 116 := rfl
theorem WL_q (f : Nat → Int64) : WL S X R T P TU r G TN f = qh S X R T ++ (fr S P TU r G TN ++ [.inl (1, 1, .inr (.inl f))]) := by rw [WL, FH, List.append_assoc]
theorem WD_q (f : Nat → UInt64) : WD S X R T P TU r G TN f = qh S X R T ++ (fr S P TU r G TN ++ [.inl (2, 1, .inr (.inr (.inr (.inl f))))]) := by rw [WD, FH, List.append_assoc]
theorem WL_b (f : Nat → Int64) : zbh 116 (WL S X R T P TU r G TN f) := zbh_app (FH_b (by decide)) (zbh_of rfl)
theorem WD_b (f : Nat → UInt64) : zbh 116 (WD S X R T P TU r G TN f) := zbh_app (FH_b (by decide)) (zbh_of rfl)
theorem WL_set (f g : Nat → Int64) : (WL S X R T P TU r G TN f).set 115 (.inl (1, 1, .inr (.inl g))) = WL S X R T P TU r G TN g := by
  rw [WL, List.set_append_right _ _ (by rw [FH_len]; decide), FH_len]
  rfl
theorem WD_set (f g : Nat → UInt64) : (WD S X R T P TU r G TN f).set 115 (.inl (2, 1, .inr (.inr (.inr (.inl g))))) = WD S X R T P TU r G TN g := by
  rw [WD, List.set_append_right _ _ (by rw [FH_len]; decide), FH_len]
  rfl
theorem WL_at (f : Nat → Int64) : (WL S X R T P TU r G TN f)[115]? = some (.inl (1, 1, .inr (.inl f))) := by
  rw [WL, List.getElem?_append_right (by rw [FH_len]; decide), FH_len]
  rfl
theorem WD_at (f : Nat → UInt64) : (WD S X R T P TU r G TN f)[115]? = some (.inl (2, 1, .inr (.inr (.inr (.inl f))))) := by
  rw [WD, List.getElem?_append_right (by rw [FH_len]; decide), FH_len]
  rfl
end WLL
