variable {sc : SC}

section ZMORE
variable {y : MethodName} {cc : ByteArray} {nL : Nat} {ret : Option FieldType} {d mc ms pc : Nat} {ls : List (Option Value)} {st : List Value} {h : List zO} {r : zR} {h' : List zO}
/-- more room -/
theorem Z.more {mc' ms' : Nat} (h1 : mc ≤ mc') (h2 : ms ≤ ms') (k : Z sc y cc nL ret d mc ms pc ls st h r h') : Z sc y cc nL ret d mc' ms' pc ls st h r h' :=
  fun l p e R s m args below meth cd H locs cells slots tc ts D dA aS ad bs A la C0 hl hP hD hS hA hAb a1 a2 a3 a4 a5 a6 =>
    k l p e R s m args below meth cd H locs cells slots tc ts D dA aS ad bs A la C0 hl hP hD hS hA hAb a1 a2 (by omega) (by omega) a5 a6
theorem z_dald {a n : Nat} {f : Nat → UInt64} {i : Int32} (hd : decode cc pc = .ok (.daload, 1)) (ho : h[a]? = some (.inl (2, n, .inr (.inr (.inr (.inl f)))))) (hi : vp_in i n)
    (k0 : Z sc y cc nL ret d mc ms (pc + 1) ls (.double (f i.toNatClampNeg) :: st) h r h') : Z sc y cc nL ret d mc ms pc ls (.int i :: .ref a :: st) h r h' := by
  intro l p e R s m args below meth cd H locs cells slots tc ts D dA aS ad bs A la C0 hl hP hD hS hA hAb h1 h2 h3 h4 h5 h6
  have e1 : (zw ad dA h)[a]? = some (ad a, .inl (dA 2, n, .inr (.inr (.inr (.inl f))))) := zw_get ho
  exact va_dald C0.1 C0.2.1 C0.2.2.2.2.2.2.2.2.2.2.2.1 hP a 2 e1 rfl hi hd (k0 l p e R s m args below meth cd H locs cells slots tc ts D dA aS ad bs A la C0 hl hP hD hS hA hAb h1 h2 h3 h4 h5 h6)
theorem z_ldc2 {i : Nat} {v : Int64} (hd : decode cc pc = .ok (.ldc2_w i, 3)) (hc : Cond.constantLong y.cls i v ∈ zT) (k : Z sc y cc nL ret d mc ms (pc + 3) ls (.long v :: st) h r h') : Z sc y cc nL ret d mc ms pc ls st h r h' := Z.go k (fun _ _ _ _ _ _ _ _ _ _ _ _ _ _ _ ad _ hx hb hl ho ht w => lv_ldc2 hx hb ho (ht _ hc) hd w)
end ZMORE
section ZLC2
variable {d mc ms pc : Nat} {ls : List (Option Value)} {st : List Value} {r : zR} {h' : List zO} {y2 : MethodName} {cc2 : ByteArray} {nL2 : Nat} {ret2 : Option FieldType} {d2 mc2 ms2 n9 idx : Nat} {av av' As : List Value} {v : Value}
variable {S X R : ZS} {T : TS} {P : ZS} {TU : TS} {q : Nat} {G : Nat → TS} {TN : TS} {fl : Nat → Int64} {fd : Nat → UInt64} {n : Nat} {f : Nat → Int32} {M : ZS} {S' X' R' : ZS} {T' : TS} {P' : ZS} {TU' : TS} {q' : Nat} {G' : Nat → TS} {TN' : TS} {fl' : Nat → Int64} {fd' : Nat → UInt64}
theorem LH_f (S X R : ZS) (T : TS) (P : ZS) (TU : TS) (q : Nat) (G : Nat → TS) (TN : TS) (fl : Nat → Int64) (fd : Nat → UInt64) (n : Nat) (f : Nat → Int32) (M : ZS) : LH S X R T P TU q G TN fl fd n f M = FH S X R T P TU q G TN ++ (.inl (1, 1, .inr (.inl fl)) :: .inl (2, 1, .inr (.inr (.inr (.inl fd)))) :: (mh M).map (zren (zs1 117))) := by
  simp only [LH, WL, List.append_assoc, List.cons_append, List.nil_append]
theorem FH_0 : (FH S X R T P TU q G TN)[0]? = some (.inr (6, [.ref 1, .ref 32, .ref 106, .int (S.1 0), .ref 10, .ref 14, .ref 12])) := rfl
theorem qh_0 : (qh S X R T)[0]? = some (.inr (6, [.ref 1, .ref 32, .ref 106, .int (S.1 0), .ref 10, .ref 14, .ref 12])) := rfl
/-- a method of the object -/
theorem l_f6 (hM : zM (n, f) y2 cc2 nL2 ret2 d2 0 0 (.ref 0 :: As) (FH S X R T P TU q G TN) (.inl (some v)) (FH S' X' R' T' P' TU' q' G' TN')) (hd : decode cL_law pc = .ok (.invokevirtual idx, 3)) (hY : zYV y2 cc2 nL2 ret2 n9) (hlk : Cond.methodLink yL_law.cls idx y2 ∈ zT) (hn : As.length = n9) (hcl : y2.cls = RX6) (hcat : (st.map fun v => v.category).sum ≤ 8) (hd2 : d2 + 1 ≤ d) (hnL : nL2 ≤ 81)
    (k : Z (n, f) yL_law cL_law 9 (some .boolean) d mc ms (pc + 3) ls (v :: st) (LH S' X' R' T' P' TU' q' G' TN' fl fd n f M) r h') : Z (n, f) yL_law cL_law 9 (some .boolean) d mc ms pc ls (As.reverse ++ .ref 0 :: st) (LH S X R T P TU q G TN fl fd n f M) r h' :=
  Z.heap (LH_f _ _ _ _ _ _ _ _ _ _ _ _ _ _) (z_cS (ρ := fun i => i) hM (zfit_pre _ _) (fun _ _ _ _ e => e) (zplug_pre ((FH_len _ _ _ _ _ _ _ _ _).trans (FH_len _ _ _ _ _ _ _ _ _).symm)) hd hY hlk hn FH_0 (by rw [hcl]; rfl) ((FH_len _ _ _ _ _ _ _ _ _).trans (FH_len _ _ _ _ _ _ _ _ _).symm) rfl (zvs_id As) (zv_id v) (fun _ => rfl) hcat hd2 hnL (Z.heap (LH_f _ _ _ _ _ _ _ _ _ _ _ _ _ _).symm k))
theorem LH_q (S X R : ZS) (T : TS) (P : ZS) (TU : TS) (q : Nat) (G : Nat → TS) (TN : TS) (fl : Nat → Int64) (fd : Nat → UInt64) (n : Nat) (f : Nat → Int32) (M : ZS) : LH S X R T P TU q G TN fl fd n f M = qh S X R T ++ (fr S P TU q G TN ++ (.inl (1, 1, .inr (.inl fl)) :: .inl (2, 1, .inr (.inr (.inr (.inl fd)))) :: (mh M).map (zren (zs1 117)))) := by
  rw [LH_f, FH, List.append_assoc]
/-- a method that leaves most of the object alone -/
theorem l_q6 (hM : zM (n, f) y2 cc2 nL2 ret2 d2 0 0 (.ref 0 :: As) (qh S X R T) (.inl (some v)) (qh S X' R' T)) (hd : decode cL_law pc = .ok (.invokevirtual idx, 3)) (hY : zYV y2 cc2 nL2 ret2 n9) (hlk : Cond.methodLink yL_law.cls idx y2 ∈ zT) (hn : As.length = n9) (hcl : y2.cls = RX6) (hcat : (st.map fun v => v.category).sum ≤ 8) (hd2 : d2 + 1 ≤ d) (hnL : nL2 ≤ 81)
    (k : Z (n, f) yL_law cL_law 9 (some .boolean) d mc ms (pc + 3) ls (v :: st) (LH S X' R' T P TU q G TN fl fd n f M) r h') : Z (n, f) yL_law cL_law 9 (some .boolean) d mc ms pc ls (As.reverse ++ .ref 0 :: st) (LH S X R T P TU q G TN fl fd n f M) r h' :=
  Z.heap (LH_q _ _ _ _ _ _ _ _ _ _ _ _ _ _) (z_cS (ρ := fun i => i) hM (zfit_pre _ _) (fun _ _ _ _ e => e) (zplug_pre ((qh_len _ _ _ _).trans (qh_len _ _ _ _).symm)) hd hY hlk hn qh_0 (by rw [hcl]; rfl) ((qh_len _ _ _ _).trans (qh_len _ _ _ _).symm) rfl (zvs_id As) (zv_id v) (fun _ => rfl) hcat hd2 hnL (Z.heap (LH_q _ _ _ _ _ _ _ _ _ _ _ _ _ _).symm k))
theorem zren_fix {m : Nat} {ρ : Nat → Nat} {l : List zO} (h : zbh m l) (e : ∀ i, i < m → ρ i = i) : l.map (zren ρ) = l := by
  calc l.map (zren ρ) = l.map id := List.map_congr_left (fun x hx => by
        have h1 := zren_seg (f := ρ) (g := fun i => i) (k := fun i => i) (h x hx) e
        show zren ρ x = x
        simpa only [zren_id] using h1)
    _ = l := List.map_id l
theorem LH_d (S X R : ZS) (T : TS) (P : ZS) (TU : TS) (q : Nat) (G : Nat → TS) (TN : TS) (fl : Nat → Int64) (fd : Nat → UInt64) (n : Nat) (f : Nat → Int32) (M : ZS) : LH S X R T P TU q G TN fl fd n f M = [] ++ (FH S X R T P TU q G TN ++ ([.inl (1, 1, .inr (.inl fl))] ++ ([.inl (2, 1, .inr (.inr (.inr (.inl fd))))] ++ ((mh M).map (zren (zs1 117)))))) := by
  simp only [LH, WL, List.append_assoc, List.cons_append, List.nil_append]
/-- a wrapper that writes a double -/
theorem l_wd (hM : zMW (n, f) y2 cc2 nL2 ret2 d2 mc2 ms2 av (WD S X R T P TU q G TN fd) (some v) (WD S' X' R' T' P' TU' q' G' TN' fd')) (hd : decode cL_law pc = .ok (.invokestatic idx, 3)) (hY : zYW y2 cc2 nL2 ret2 n9) (hlk : Cond.methodLink yL_law.cls idx y2 ∈ zT) (hn : av.length = n9) (eav : av.map (zv (zs3 115 0 116)) = av') (ev : zv (zs3 115 0 116) v = v) (hcat : (st.map fun v => v.category).sum ≤ 8) (hd2 : d2 + 1 ≤ d) (hnL : nL2 ≤ 81)
    (k : Z (n, f) yL_law cL_law 9 (some .boolean) d mc ms (pc + 3) ls (v :: st) (LH S' X' R' T' P' TU' q' G' TN' fl fd' n f M) r h') : Z (n, f) yL_law cL_law 9 (some .boolean) d (mc + mc2) (ms + ms2) pc ls (av'.reverse ++ st) (LH S X R T P TU q G TN fl fd n f M) r h' := by
  have fx : ∀ {S X R : ZS} {T : TS} {P : ZS} {TU : TS} {q : Nat} {G : Nat → TS} {TN : TS}, (FH S X R T P TU q G TN).map (zren (zs3 115 0 116)) = FH S X R T P TU q G TN := fun {S X R T P TU q G TN} => zren_fix (m := 115) (FH_b (by decide)) (fun i hi => by
    show (if i < 115 then 0 + i else _) = i
    rw [if_pos hi, Nat.zero_add])
  refine Z.heap (LH_d _ _ _ _ _ _ _ _ _ _ _ _ _ _) (Z.callB (zRun.SW (ρ := zs3 115 0 116) hM hd hY hlk hn (by rw [eav]) hcat hd2 hnL (fun i => by show (if 1000000 + i < 115 then _ else _) = _; rw [if_neg (by omega), if_neg (by omega)])) ?_ ?_ ((WD_len _ _ _ _ _ _ _ _ _ _).trans (WD_len _ _ _ _ _ _ _ _ _ _).symm) ?_)
  · exact zfit_two (m := 115) (a := 0) (b := 116) (c1 := FH S X R T P TU q G TN) (c2 := [.inl (2, 1, .inr (.inr (.inr (.inl fd))))]) (A := []) (M := [.inl (1, 1, .inr (.inl fl))]) (C := ((mh M).map (zren (zs1 117)))) (B1 := FH S X R T P TU q G TN) (B2 := [.inl (2, 1, .inr (.inr (.inr (.inl fd))))]) (FH_len _ _ _ _ _ _ _ _ _) (Nat.le_of_ble_eq_true rfl) rfl rfl fx rfl
  · intro i j hi hj e
    rw [WD_len] at hi hj
    have g : ∀ i, i < 116 → zs3 115 0 116 i = if i < 115 then i else 116 := fun i hi => by
      show (if i < 115 then 0 + i else if i < 1000000 then 116 + (i - 115) else i) = _
      by_cases c : i < 115
      · rw [if_pos c, if_pos c]; omega
      · rw [if_neg c, if_neg c, if_pos (by omega)]; omega
    rw [g i hi, g j hj] at e
    split at e <;> split at e <;> omega
  · have e9 : zplug (zs3 115 0 116) 0 ([] ++ (FH S X R T P TU q G TN ++ ([.inl (1, 1, .inr (.inl fl))] ++ ([.inl (2, 1, .inr (.inr (.inr (.inl fd))))] ++ ((mh M).map (zren (zs1 117))))))) (FH S' X' R' T' P' TU' q' G' TN' ++ [.inl (2, 1, .inr (.inr (.inr (.inl fd'))))]) = LH S' X' R' T' P' TU' q' G' TN' fl fd' n f M :=
      (zplug_two (m := 115) (a := 0) (b := 116) (c1 := FH S' X' R' T' P' TU' q' G' TN') (c2 := [.inl (2, 1, .inr (.inr (.inr (.inl fd'))))]) (A := []) (M := [.inl (1, 1, .inr (.inl fl))]) (C := ((mh M).map (zren (zs1 117)))) (B1 := FH S X R T P TU q G TN) (B2 := [.inl (2, 1, .inr (.inr (.inr (.inl fd))))]) (D1 := FH S' X' R' T' P' TU' q' G' TN') (D2 := [.inl (2, 1, .inr (.inr (.inr (.inl fd'))))]) (FH_len _ _ _ _ _ _ _ _ _) (Nat.le_of_ble_eq_true rfl) rfl rfl ((FH_len _ _ _ _ _ _ _ _ _).trans (FH_len _ _ _ _ _ _ _ _ _).symm) rfl fx rfl).trans (LH_d _ _ _ _ _ _ _ _ _ _ _ _ _ _).symm
    rw [show WD S' X' R' T' P' TU' q' G' TN' fd' = FH S' X' R' T' P' TU' q' G' TN' ++ [.inl (2, 1, .inr (.inr (.inr (.inl fd'))))] from rfl, e9]
    show Z (n, f) yL_law cL_law 9 (some .boolean) d mc ms (pc + 3) ls (zv (zs3 115 0 116) v :: st) _ r h'
    rw [ev]
    exact k
end ZLC2
