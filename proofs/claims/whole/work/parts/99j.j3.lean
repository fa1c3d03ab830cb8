variable {sc : SC}
/-! ===== the law's calls over its heap ===== -/
section ZLC
variable {d mc ms pc : Nat} {ls : List (Option Value)} {st : List Value} {r : zR} {h' : List zO} {y2 : MethodName} {cc2 : ByteArray} {nL2 : Nat} {ret2 : Option FieldType} {d2 mc2 ms2 n9 idx : Nat} {av As : List Value} {v : Value}
variable {S X R : ZS} {T : TS} {P : ZS} {TU : TS} {q : Nat} {G : Nat → TS} {TN : TS} {fl : Nat → Int64} {fd : Nat → UInt64} {n : Nat} {f : Nat → Int32} {M : ZS} {S' X' R' : ZS} {T' : TS} {P' : ZS} {TU' : TS} {q' : Nat} {G' : Nat → TS} {TN' : TS} {fl' : Nat → Int64}
theorem zvs_id (l : List Value) : l.map (zv (fun i => i)) = l := (List.map_congr_left (fun v _ => zv_id v)).trans (List.map_id l)
/-- a wrapper -/
theorem l_wr (hM : zMW (n, f) y2 cc2 nL2 ret2 d2 mc2 ms2 av (WL S X R T P TU q G TN fl) (some v) (WL S' X' R' T' P' TU' q' G' TN' fl')) (hd : decode cL_law pc = .ok (.invokestatic idx, 3)) (hY : zYW y2 cc2 nL2 ret2 n9) (hlk : Cond.methodLink yL_law.cls idx y2 ∈ zT) (hn : av.length = n9) (hcat : (st.map fun v => v.category).sum ≤ 8) (hd2 : d2 + 1 ≤ d) (hnL : nL2 ≤ 81)
    (k : Z (n, f) yL_law cL_law 9 (some .boolean) d mc ms (pc + 3) ls (v :: st) (LH S' X' R' T' P' TU' q' G' TN' fl' fd n f M) r h') : Z (n, f) yL_law cL_law 9 (some .boolean) d (mc + mc2) (ms + ms2) pc ls (av.reverse ++ st) (LH S X R T P TU q G TN fl fd n f M) r h' :=
  Z.callPB (zRun.SW (ρ := fun i => i) hM hd hY hlk hn (by rw [zvs_id]) hcat hd2 hnL) ((WL_len _ _ _ _ _ _ _ _ _ _).trans (WL_len _ _ _ _ _ _ _ _ _ _).symm) k
theorem l_mfit : zfit (zs1 117) 0 (LH S X R T P TU q G TN fl fd n f M) (mh M) := by
  have e : LH S X R T P TU q G TN fl fd n f M = (WL S X R T P TU q G TN fl ++ [.inl (2, 1, .inr (.inr (.inr (.inl fd))))]) ++ ((mh M).map (zren (zs1 117)) ++ []) := by
    simp only [LH, List.append_assoc, List.cons_append, List.nil_append, List.append_nil]
  rw [e]
  refine zfit_seg (mh M) 0 _ _ (fun i hi => ?_)
  have h1 : (mh M).length = 14 := rfl
  rw [zs1_lo (by omega), List.length_append, WL_len]
  show 117 + (0 + i) = 116 + 1 + i
  omega
theorem l_mplug {M' : ZS} : zplug (zs1 117) 0 (LH S X R T P TU q G TN fl fd n f M) (mh M') = LH S X R T P TU q G TN fl fd n f M' := by
  have e : ∀ M9 : ZS, LH S X R T P TU q G TN fl fd n f M9 = (WL S X R T P TU q G TN fl ++ [.inl (2, 1, .inr (.inr (.inr (.inl fd))))]) ++ ((mh M9).map (zren (zs1 117)) ++ []) := fun M9 => by
    simp only [LH, List.append_assoc, List.cons_append, List.nil_append, List.append_nil]
  rw [e M, e M']
  refine zplug_seg (mh M') 0 _ _ _ rfl (fun i hi => ?_)
  have h1 : (mh M').length = 14 := rfl
  rw [zs1_lo (by omega), List.length_append, WL_len]
  show 117 + (0 + i) = 116 + 1 + i
  omega
/-- the reference -/
theorem l_m7 {M' : ZS} (hM : zM (n, f) y2 cc2 nL2 ret2 d2 0 0 (.ref 0 :: As) (mh M) (.inl (some v)) (mh M')) (hd : decode cL_law pc = .ok (.invokevirtual idx, 3)) (hY : zYV y2 cc2 nL2 ret2 n9) (hlk : Cond.methodLink yL_law.cls idx y2 ∈ zT) (hn : As.length = n9) (hcl : y2.cls = RX7) (eAs : As.map (zv (zs1 117)) = As) (ev : zv (zs1 117) v = v) (hcat : (st.map fun v => v.category).sum ≤ 8) (hd2 : d2 + 1 ≤ d) (hnL : nL2 ≤ 81)
    (k : Z (n, f) yL_law cL_law 9 (some .boolean) d mc ms (pc + 3) ls (v :: st) (LH S X R T P TU q G TN fl fd n f M') r h') : Z (n, f) yL_law cL_law 9 (some .boolean) d mc ms pc ls (As.reverse ++ .ref 117 :: st) (LH S X R T P TU q G TN fl fd n f M) r h' :=
  z_cS (ρ := zs1 117) hM l_mfit (fun i j hi hj e => by
    have h1 : (mh M).length = 14 := rfl
    rw [zs1_lo (by omega), zs1_lo (by omega)] at e
    omega) l_mplug hd hY hlk hn (ci := 7) rfl (by rw [hcl]; rfl) rfl rfl eAs ev (fun i => zs1_fix _ i) hcat hd2 hnL k
end ZLC
