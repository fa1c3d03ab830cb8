variable {sc : SC}
section ZMORE
variable {y : MethodName} {cc : ByteArray} {nL : Nat} {ret : Option FieldType} {d mc ms pc : Nat} {ls : List (Option Value)} {st : List Value} {h : List zO} {r : zR} {h' : List zO}
theorem Z.more {mc' ms' : Nat} (h1 : mc ≤ mc') (h2 : ms ≤ ms') (k : Z sc y cc nL ret d mc ms pc ls st h r h') : Z sc y cc nL ret d mc' ms' pc ls st h r h' :=
  fun l p e R s m args below meth cd H locs cells slots tc ts D dA aS ad bs A la C0 hl hP hD hS hA hAb a1 a2 a3 a4 a5 a6 =>
    k l p e R s m args below meth cd H locs cells slots tc ts D dA aS ad bs A la C0 hl hP hD hS hA hAb a1 a2 (by omega) (by omega) a5 a6
theorem z_ldc2 {i : Nat} {v : Int64} (hd : decode cc pc = .ok (.ldc2_w i, 3)) (hc : Cond.constantLong y.cls i v ∈ zT) (k : Z sc y cc nL ret d mc ms (pc + 3) ls (.long v :: st) h r h') : Z sc y cc nL ret d mc ms pc ls st h r h' := Z.go k (fun _ _ _ _ _ _ _ _ _ _ _ _ _ _ _ ad _ hx hb hl ho ht w => lv_ldc2 hx hb ho (ht _ hc) hd w)
end ZMORE
section ZLC2
variable {d mc ms pc : Nat} {ls : List (Option Value)} {st : List Value} {r : zR} {h' : List zO} {y2 : MethodName} {cc2 : ByteArray} {nL2 : Nat} {ret2 : Option FieldType} {d2 mc2 ms2 n9 idx : Nat} {av av' As : List Value} {v : Value}
variable {S X R : ZS} {T : TS} {P : ZS} {TU : TS} {q : Nat} {G : Nat → TS} {TN : TS} {fl : Nat → Int64} {fd : Nat → UInt64} {n : Nat} {f : Nat → Int32} {M : ZS} {S' X' R' : ZS} {T' : TS} {P' : ZS} {TU' : TS} {q' : Nat} {G' : Nat → TS} {TN' : TS} {fl' : Nat → Int64} {fd' : Nat → UInt64}
theorem FH_0 : (FH S X R T P TU q G TN)[0]? = some (.inr (6, [.ref 1, .ref 32, .ref 106, .int (S.1 0), .ref 10, .ref 14, .ref 12])) := rfl
theorem qh_0 : (qh S X R T)[0]? = some (.inr (6, [.ref 1, .ref 32, .ref 106, .int (S.1 0), .ref 10, .ref 14, .ref 12])) := rfl
theorem zren_fix {m : Nat} {ρ : Nat → Nat} {l : List zO} (h : zbh m l) (e : ∀ i, i < m → ρ i = i) : l.map (zren ρ) = l := by
  calc l.map (zren ρ) = l.map id := List.map_congr_left (fun x hx => by
        have h1 := zren_seg (f := ρ) (g := fun i => i) (k := fun i => i) (h x hx) e
        show zren ρ x = x
        simpa only [zren_id] using h1)
    _ = l := List.map_id l
end ZLC2
