variable {sc : SC}
/-! ===== a call over a part of the picture, by a shift ===== -/
abbrev zsh (o : Nat) : Nat → Nat := fun i => if i < 1000000 then i + o else i
theorem zsh_fix (o i : Nat) : zsh o (1000000 + i) = 1000000 + i := if_neg (by omega)
theorem zsh_inj {o n : Nat} (h : n ≤ 1000000) : ∀ i j, i < n → j < n → zsh o i = zsh o j → i = j := fun i j hi hj e => by
  have e1 : zsh o i = i + o := if_pos (by omega)
  have e2 : zsh o j = j + o := if_pos (by omega)
  omega
section ZSHIFT
variable {y : MethodName} {cc : ByteArray} {nL : Nat} {ret : Option FieldType} {d mc ms pc : Nat} {ls : List (Option Value)} {st : List Value} {h : List zO} {r : zR} {h' : List zO}
variable {y2 : MethodName} {cc2 : ByteArray} {nL2 : Nat} {ret2 : Option FieldType} {d2 mc2 ms2 : Nat} {av : List Value} {hc : List zO} {hc' : List zO} {stk : List Value}
theorem Z.shs {v w : Value} {ρ : Nat → Nat} (h2 : List zO) (g : zRun sc y cc nL ret d pc h stk st y2 cc2 nL2 ret2 d2 0 0 av hc (.inl (some v)) hc' ρ) (hi : ∀ i j, i < hc.length → j < hc.length → ρ i = ρ j → i = j) (hf : zfit ρ 0 h hc) (hlen : hc'.length = hc.length) (hp : zplug ρ 0 h hc' = h2) (hw : zv ρ v = w)
    (k : Z sc y cc nL ret d mc ms (pc + 3) ls (w :: st) h2 r h') : Z sc y cc nL ret d mc ms pc ls stk h r h' :=
  Z.call g hf hi hlen (by rw [hp]; show Z sc y cc nL ret d mc ms (pc + 3) ls (zv ρ v :: st) h2 r h'; rw [hw]; exact k)
theorem Z.shn {ρ : Nat → Nat} (h2 : List zO) (g : zRun sc y cc nL ret d pc h stk st y2 cc2 nL2 ret2 d2 0 0 av hc (.inl none) hc' ρ) (hi : ∀ i j, i < hc.length → j < hc.length → ρ i = ρ j → i = j) (hf : zfit ρ 0 h hc) (hlen : hc'.length = hc.length) (hp : zplug ρ 0 h hc' = h2)
    (k : Z sc y cc nL ret d mc ms (pc + 3) ls st h2 r h') : Z sc y cc nL ret d mc ms pc ls stk h r h' :=
  Z.call g hf hi hlen (by rw [hp]; exact k)
end ZSHIFT
/-- the words of a throw, found in the tables one by one -/
theorem zatB {L : List Cond} (h : (L.all fun w => lw_tbl.any (fun u => decide (u = w)) && (goodWord w || zBw w)) = true) : ∀ w ∈ L, w ∈ zT ∨ w ∈ zB := fun w hw => by
  have h1 := List.all_eq_true.mp h w hw
  rw [Bool.and_eq_true, Bool.or_eq_true] at h1
  obtain ⟨h2, h3⟩ := h1
  obtain ⟨u, hu, e⟩ := List.any_eq_true.mp h2
  have e2 : u = w := of_decide_eq_true e
  subst e2
  rcases h3 with h3 | h3
  · exact Or.inl (List.mem_filter.mpr ⟨hu, h3⟩)
  · exact Or.inr (List.mem_filter.mpr ⟨hu, h3⟩)
abbrev zNm : List String := ["java/lang/RuntimeException", "java/lang/Exception"]
theorem zNm_fit : ∀ n ∈ zNm, Bundle.fit n = true := by decide +kernel
theorem zin_B : Cond.initialized "java/lang/IndexOutOfBoundsException" ∈ zT := zmem (94 + 20) (by decide +kernel) (by decide +kernel)
theorem zat_B : ∀ w ∈ vx_atS RX6 275 "java/lang/IndexOutOfBoundsException" zNm, w ∈ zT ∨ w ∈ zB := zatB (by decide +kernel)
theorem zin_A : Cond.initialized "java/lang/IllegalArgumentException" ∈ zT := zmem (94 + 19) (by decide +kernel) (by decide +kernel)
theorem zat_A : ∀ w ∈ vx_atS RX6 75 "java/lang/IllegalArgumentException" zNm, w ∈ zT ∨ w ∈ zB := zatB (by decide +kernel)
theorem zin_S : Cond.initialized "java/lang/IllegalStateException" ∈ zT := zmem (94 + 21) (by decide +kernel) (by decide +kernel)
theorem zat_S : ∀ w ∈ vx_atS RX6 117 "java/lang/IllegalStateException" zNm, w ∈ zT ∨ w ∈ zB := zatB (by decide +kernel)
