variable {sc : SC}
abbrev zsh (o : Nat) : Nat → Nat := fun i => if i < 1000000 then i + o else i
theorem zsh_fix (o i : Nat) : zsh o (1000000 + i) = 1000000 + i := if_neg (by omega)
theorem zsh_inj {o n : Nat} (h : n ≤ 1000000) : ∀ i j, i < n → j < n → zsh o i = zsh o j → i = j := fun i j hi hj e => by
  have e1 : zsh o i = i + o := if_pos (by omega)
  have e2 : zsh o j = j + o := if_pos (by omega)
  omega
section ZSHIFT
variable {y : MethodName} {cc : ByteArray} {nL : Nat} {ret : Option FieldType} {d mc ms pc : Nat} {ls : List (Option Value)} {st : List Value} {h : List zO} {r : zR} {h' : List zO}
variable {y2 : MethodName} {cc2 : ByteArray} {nL2 : Nat} {ret2 : Option FieldType} {d2 mc2 ms2 : Nat} {av : List Value} {hc : List zO} {hc' : List zO} {stk : List Value}
theorem Z.shs {v w : Value} {ρ : Nat → Nat} (h2 : List zO) (g : zRun sc y cc nL ret d pc h stk st y2 cc2 nL2 ret2 d2 0 0 av hc (.inl (some v)) hc' ρ) (hi : ∀ i j, i < hc.length → j < hc.length → ρ i = ρ j → i = j) (hf : zfit ρ 0 h hc) (hlen : hc'.length = hc.length) (hp : zplug ρ 0 h hc' = h2) (hw : zv ρ v = w)
    (k : Z sc y cc nL ret d mc ms (pc + 3) ls (w :: st) h2 r h') : Z sc y cc nL ret d mc ms pc ls stk h r h' :=
  Z.call g hf hi hlen (by rw [hp]; show Z sc y cc nL ret d mc ms (pc + 3) ls (zv ρ v :: st) h2 r h'; rw [hw]; exact k)
theorem Z.shn {ρ : Nat → Nat} (h2 : List zO) (g : zRun sc y cc nL ret d pc h stk st y2 cc2 nL2 ret2 d2 0 0 av hc (.inl none) hc' ρ) (hi : ∀ i j, i < hc.length → j < hc.length → ρ i = ρ j → i = j) (hf : zfit ρ 0 h hc) (hlen : hc'.length = hc.length) (hp : zplug ρ 0 h hc' = h2)
    (k : Z sc y cc nL ret d mc ms (pc + 3) ls st h2 r h') : Z sc y cc nL ret d mc ms pc ls stk h r h' :=
  Z.call g hf hi hlen (by rw [hp]; exact k)
end ZSHIFT
