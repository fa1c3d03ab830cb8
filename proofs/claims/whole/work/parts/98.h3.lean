variable {sc : SC}

theorem zcat_b {y : MethodName} {E nm : String} {x : ExceptionTableEntry} (h0 : x.catchType ≠ 0) (h1 : Cond.classLink y.cls x.catchType nm ∈ zT) (h2 : ∀ aS bs s, zKs sc aS bs s → va_Nc E nm s) : x.catchType ≠ 0 ∧ ∃ n9 : String, Cond.classLink y.cls x.catchType n9 ∈ zT ∧ ∀ aS bs s, zKs sc aS bs s → va_Nc E n9 s := ⟨h0, nm, h1, h2⟩
section ZLW
variable {y : MethodName} {cc : ByteArray} {nL : Nat} {ret : Option FieldType} {d mc ms pc : Nat} {ls : List (Option Value)} {st : List Value} {r : zR} {h' : List zO}
variable {y2 : MethodName} {cc2 : ByteArray} {nL2 : Nat} {ret2 : Option FieldType} {d2 mc2 ms2 : Nat} {av : List Value} {stk : List Value}
variable {S X R : ZS} {T : TS} {P : ZS} {TU : TS} {q : Nat} {G : Nat → TS} {TN : TS}
theorem z_lastW {f : Nat → Int64} {x : Int64} (hd : decode cc pc = .ok (.lastore, 1)) (k : Z sc y cc nL ret d mc ms (pc + 1) ls st (WL S X R T P TU q G TN (vp_updL f 0 x)) r h') : Z sc y cc nL ret d mc ms pc ls (.long x :: .int 0 :: .ref 115 :: st) (WL S X R T P TU q G TN f) r h' :=
  z_last hd (WL_at S X R T P TU q G TN f) (show vp_in (0 : Int32) 1 from vp_in_nI (n := 0) (N := 1) (by decide) (by decide)) (by rw [WL_set]; exact k)
theorem WL_catch {f : Nat → Int64} {E nm : String} {T9 : List (Nat × Nat × Nat × Nat)} {j : Int32} (pre : List ExceptionTableEntry) (x : ExceptionTableEntry) (suf : List ExceptionTableEntry) (g : zRun sc y cc nL ret d pc (qh S X R T ++ (fr S P TU q G TN ++ [.inl (1, 1, .inr (.inl f))])) stk st y2 cc2 nL2 ret2 d2 mc2 ms2 av (qh S X R T) (.inr E) (qh S X R T) (fun i => i)) (htab : zEx y = T9) (hsplit : tableOf T9 = pre ++ x :: suf)
    (hpass : ∀ z ∈ pre, z.catchType ≠ 0 ∧ ∃ n9 : String, Cond.classLink y.cls z.catchType n9 ∈ zT ∧ ∀ aS bs s, zKs sc aS bs s → va_Nc E n9 s) (hx : covers x pc = true) (h0 : x.catchType ≠ 0) (hlink : Cond.classLink y.cls x.catchType nm ∈ zT) (hcast : Cond.castable E nm ∈ zB) (hl : ∀ v, some v ∈ ls → zbw 116 v)
    (k : Z sc y cc nL ret d mc ms x.handlerPc ls [.ref 116] (WL S X R T P TU q G TN f) (.inl (some (.int j))) (WL S X R T P TU q G TN f)) : Z sc y cc nL ret d (mc + mc2) (ms + ms2) pc ls stk (WL S X R T P TU q G TN f) (.inl (some (.int j))) (WL S X R T P TU q G TN f) := by
  have hb := WL_b S X R T P TU q G TN f
  have hlen := WL_len S X R T P TU q G TN f
  rw [WL_q] at hb hlen k ⊢
  refine Z.callC pre x suf g htab hsplit hpass hx h0 hlink hcast (by rw [hlen]; exact hb) (by rw [hlen]; exact hl) (by rw [hlen]; decide) rfl (by rw [hlen]; exact hb) (fun v e f g => by cases e; rfl) (by rw [hlen]; exact k)
theorem z_dastW {f : Nat → UInt64} {x : UInt64} (hd : decode cc pc = .ok (.dastore, 1)) (k : Z sc y cc nL ret d mc ms (pc + 1) ls st (WD S X R T P TU q G TN (vf_upd f 0 x)) r h') : Z sc y cc nL ret d mc ms pc ls (.double x :: .int 0 :: .ref 115 :: st) (WD S X R T P TU q G TN f) r h' :=
  z_dast hd (WD_at S X R T P TU q G TN f) (show vp_in (0 : Int32) 1 from vp_in_nI (n := 0) (N := 1) (by decide) (by decide)) (by rw [WD_set]; exact k)
theorem WD_catch {f : Nat → UInt64} {E nm : String} {T9 : List (Nat × Nat × Nat × Nat)} {j : Int32} (pre : List ExceptionTableEntry) (x : ExceptionTableEntry) (suf : List ExceptionTableEntry) (g : zRun sc y cc nL ret d pc (qh S X R T ++ (fr S P TU q G TN ++ [.inl (2, 1, .inr (.inr (.inr (.inl f))))])) stk st y2 cc2 nL2 ret2 d2 mc2 ms2 av (qh S X R T) (.inr E) (qh S X R T) (fun i => i)) (htab : zEx y = T9) (hsplit : tableOf T9 = pre ++ x :: suf)
    (hpass : ∀ z ∈ pre, z.catchType ≠ 0 ∧ ∃ n9 : String, Cond.classLink y.cls z.catchType n9 ∈ zT ∧ ∀ aS bs s, zKs sc aS bs s → va_Nc E n9 s) (hx : covers x pc = true) (h0 : x.catchType ≠ 0) (hlink : Cond.classLink y.cls x.catchType nm ∈ zT) (hcast : Cond.castable E nm ∈ zB) (hl : ∀ v, some v ∈ ls → zbw 116 v)
    (k : Z sc y cc nL ret d mc ms x.handlerPc ls [.ref 116] (WD S X R T P TU q G TN f) (.inl (some (.int j))) (WD S X R T P TU q G TN f)) : Z sc y cc nL ret d (mc + mc2) (ms + ms2) pc ls stk (WD S X R T P TU q G TN f) (.inl (some (.int j))) (WD S X R T P TU q G TN f) := by
  have hb := WD_b S X R T P TU q G TN f
  have hlen := WD_len S X R T P TU q G TN f
  rw [WD_q] at hb hlen k ⊢
  refine Z.callC pre x suf g htab hsplit hpass hx h0 hlink hcast (by rw [hlen]; exact hb) (by rw [hlen]; exact hl) (by rw [hlen]; decide) rfl (by rw [hlen]; exact hb) (fun v e f g => by cases e; rfl) (by rw [hlen]; exact k)
end ZLW
