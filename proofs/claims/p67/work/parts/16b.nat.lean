variable {sc : SC}
def zb (c : Bool) : Int32 := if c then 1 else 0
theorem zb_nar (c : Bool) : narrow .boolean (.int (zb c)) = .int (zb c) := by cases c <;> rfl
theorem zb0 {P : Prop} [Decidable P] (h : zb (decide P) = 0) : ¬ P := by
  intro p
  rw [decide_eq_true p] at h
  exact absurd h (by decide)
theorem zb1 {P : Prop} [Decidable P] (h : ¬ zb (decide P) = 0) : P := by
  refine Classical.byContradiction (fun p => h ?_)
  rw [decide_eq_false p]
  rfl
theorem zbt {P : Prop} [Decidable P] (h : P) : (1 : Int32) = zb (decide P) := by rw [decide_eq_true h]; rfl
theorem zbf {P : Prop} [Decidable P] (h : ¬ P) : (0 : Int32) = zb (decide P) := by rw [decide_eq_false h]; rfl
theorem zlen2 {a b : List zO} (n : Nat) (ha : a.length = n) (hb : b.length = n) : a.length = b.length := ha.trans hb.symm
theorem zq2 (k : Nat) : (2 : Int32) * nI k = nI (2 * k) := pk_mul 2 k
theorem zq1 (k : Nat) : nI k + 1 = nI (k + 1) := nI_1 k
theorem zqh {k : Nat} (h : k < 2 ^ 31) : nI k / 2 = nI (k / 2) := pk_div (d := 2) h (by decide) (by decide)
theorem zI_lt {a b : Nat} (ha : a < 2 ^ 31) (hb : b < 2 ^ 31) : nI a < nI b ↔ a < b := nI_ltI ha hb
theorem zI_le {a b : Nat} (ha : a < 2 ^ 31) (hb : b < 2 ^ 31) : nI a ≤ nI b ↔ a ≤ b := nI_leI ha hb
section ZNAT
variable {y : MethodName} {cc : ByteArray} {nL : Nat} {ret : Option FieldType} {d mc ms pc : Nat} {ls : List (Option Value)} {st : List Value} {h : List zO} {r : zR} {h' : List zO}
theorem z_ialdN {a n k : Nat} {f : Nat → Int32} (hd : decode cc pc = .ok (.iaload, 1)) (ho : h[a]? = some (.inl (0, n, .inl f))) (hi : k < n) (hn : n < 2 ^ 31)
    (k0 : Z sc y cc nL ret d mc ms (pc + 1) ls (.int (f k) :: st) h r h') : Z sc y cc nL ret d mc ms pc ls (.int (nI k) :: .ref a :: st) h r h' :=
  z_iald hd ho (vp_in_nI hi hn) (by rw [nI_clamp (by omega)]; exact k0)
theorem z_laldN {a n k : Nat} {f : Nat → Int64} (hd : decode cc pc = .ok (.laload, 1)) (ho : h[a]? = some (.inl (1, n, .inr (.inl f)))) (hi : k < n) (hn : n < 2 ^ 31)
    (k0 : Z sc y cc nL ret d mc ms (pc + 1) ls (.long (f k) :: st) h r h') : Z sc y cc nL ret d mc ms pc ls (.int (nI k) :: .ref a :: st) h r h' :=
  z_lald hd ho (vp_in_nI hi hn) (by rw [nI_clamp (by omega)]; exact k0)
theorem z_aaldN {a n k : Nat} {f : Nat → Option Nat} (hd : decode cc pc = .ok (.aaload, 1)) (ho : h[a]? = some (.inl (5, n, .inr (.inr (.inr (.inr f)))))) (hi : k < n) (hn : n < 2 ^ 31)
    (k0 : Z sc y cc nL ret d mc ms (pc + 1) ls (va_rf (f k) :: st) h r h') : Z sc y cc nL ret d mc ms pc ls (.int (nI k) :: .ref a :: st) h r h' :=
  z_aald hd ho (vp_in_nI hi hn) (by rw [nI_clamp (by omega)]; exact k0)
theorem z_iastN {a n k : Nat} {f : Nat → Int32} {x : Int32} (hd : decode cc pc = .ok (.iastore, 1)) (ho : h[a]? = some (.inl (0, n, .inl f))) (hi : k < n) (hn : n < 2 ^ 31)
    (k0 : Z sc y cc nL ret d mc ms (pc + 1) ls st (h.set a (.inl (0, n, .inl (upd f k x)))) r h') : Z sc y cc nL ret d mc ms pc ls (.int x :: .int (nI k) :: .ref a :: st) h r h' :=
  z_iast hd ho (vp_in_nI hi hn) (by rw [nI_clamp (by omega)]; exact k0)
theorem z_lastN {a n k : Nat} {f : Nat → Int64} {x : Int64} (hd : decode cc pc = .ok (.lastore, 1)) (ho : h[a]? = some (.inl (1, n, .inr (.inl f)))) (hi : k < n) (hn : n < 2 ^ 31)
    (k0 : Z sc y cc nL ret d mc ms (pc + 1) ls st (h.set a (.inl (1, n, .inr (.inl (vp_updL f k x))))) r h') : Z sc y cc nL ret d mc ms pc ls (.long x :: .int (nI k) :: .ref a :: st) h r h' :=
  z_last hd ho (vp_in_nI hi hn) (by rw [nI_clamp (by omega)]; exact k0)
theorem z_aastN {a n v k : Nat} {f : Nat → Option Nat} {vs : List Value} (hd : decode cc pc = .ok (.aastore, 1)) (ho : h[a]? = some (.inl (5, n, .inr (.inr (.inr (.inr f)))))) (hv : h[v]? = some (.inr (5, vs))) (hi : k < n) (hn : n < 2 ^ 31)
    (k0 : Z sc y cc nL ret d mc ms (pc + 1) ls st (h.set a (.inl (5, n, .inr (.inr (.inr (.inr (va_up f k (some v)))))))) r h') : Z sc y cc nL ret d mc ms pc ls (.ref v :: .int (nI k) :: .ref a :: st) h r h' :=
  z_aast hd ho hv (vp_in_nI hi hn) (by rw [nI_clamp (by omega)]; exact k0)
end ZNAT
abbrev TS : Type := Int32 × Int32 × Int32 × Int32 × (Nat → Int32) × (Nat → Int32) × (Nat → Int64) × (Nat → Int32) × (Nat → Int32) × (Nat → Int32) × (Nat → Int32) × (Nat → Int32)
def tn (T : TS) : Int32 := T.1
def tu (T : TS) : Int32 := T.2.1
def tp (T : TS) : Int32 := T.2.2.1
def ta (T : TS) : Int32 := T.2.2.2.1
def tF (T : TS) : Nat → Int32 := T.2.2.2.2.1
def tL (T : TS) : Nat → Int32 := T.2.2.2.2.2.1
def tS (T : TS) : Nat → Int64 := T.2.2.2.2.2.2.1
def tlo (T : TS) : Nat → Int32 := T.2.2.2.2.2.2.2.1
def thi (T : TS) : Nat → Int32 := T.2.2.2.2.2.2.2.2.1
def tfa (T : TS) : Nat → Int32 := T.2.2.2.2.2.2.2.2.2.1
def tog (T : TS) : Nat → Int32 := T.2.2.2.2.2.2.2.2.2.2.1
def tva (T : TS) : Nat → Int32 := T.2.2.2.2.2.2.2.2.2.2.2
def th (T : TS) : List zO := TH (tn T) (tu T) (tp T) (ta T) (tF T) (tL T) (tS T) (tlo T) (thi T) (tfa T) (tog T) (tva T)
theorem tn_mk (n : Int32) (u : Int32) (p : Int32) (a : Int32) (F : Nat → Int32) (L : Nat → Int32) (S : Nat → Int64) (lo : Nat → Int32) (hi : Nat → Int32) (fa : Nat → Int32) (og : Nat → Int32) (va : Nat → Int32) : tn (n, u, p, a, F, L, S, lo, hi, fa, og, va) = n := rfl
theorem tu_mk (n : Int32) (u : Int32) (p : Int32) (a : Int32) (F : Nat → Int32) (L : Nat → Int32) (S : Nat → Int64) (lo : Nat → Int32) (hi : Nat → Int32) (fa : Nat → Int32) (og : Nat → Int32) (va : Nat → Int32) : tu (n, u, p, a, F, L, S, lo, hi, fa, og, va) = u := rfl
theorem tp_mk (n : Int32) (u : Int32) (p : Int32) (a : Int32) (F : Nat → Int32) (L : Nat → Int32) (S : Nat → Int64) (lo : Nat → Int32) (hi : Nat → Int32) (fa : Nat → Int32) (og : Nat → Int32) (va : Nat → Int32) : tp (n, u, p, a, F, L, S, lo, hi, fa, og, va) = p := rfl
theorem ta_mk (n : Int32) (u : Int32) (p : Int32) (a : Int32) (F : Nat → Int32) (L : Nat → Int32) (S : Nat → Int64) (lo : Nat → Int32) (hi : Nat → Int32) (fa : Nat → Int32) (og : Nat → Int32) (va : Nat → Int32) : ta (n, u, p, a, F, L, S, lo, hi, fa, og, va) = a := rfl
theorem tF_mk (n : Int32) (u : Int32) (p : Int32) (a : Int32) (F : Nat → Int32) (L : Nat → Int32) (S : Nat → Int64) (lo : Nat → Int32) (hi : Nat → Int32) (fa : Nat → Int32) (og : Nat → Int32) (va : Nat → Int32) : tF (n, u, p, a, F, L, S, lo, hi, fa, og, va) = F := rfl
theorem tL_mk (n : Int32) (u : Int32) (p : Int32) (a : Int32) (F : Nat → Int32) (L : Nat → Int32) (S : Nat → Int64) (lo : Nat → Int32) (hi : Nat → Int32) (fa : Nat → Int32) (og : Nat → Int32) (va : Nat → Int32) : tL (n, u, p, a, F, L, S, lo, hi, fa, og, va) = L := rfl
theorem tS_mk (n : Int32) (u : Int32) (p : Int32) (a : Int32) (F : Nat → Int32) (L : Nat → Int32) (S : Nat → Int64) (lo : Nat → Int32) (hi : Nat → Int32) (fa : Nat → Int32) (og : Nat → Int32) (va : Nat → Int32) : tS (n, u, p, a, F, L, S, lo, hi, fa, og, va) = S := rfl
theorem tlo_mk (n : Int32) (u : Int32) (p : Int32) (a : Int32) (F : Nat → Int32) (L : Nat → Int32) (S : Nat → Int64) (lo : Nat → Int32) (hi : Nat → Int32) (fa : Nat → Int32) (og : Nat → Int32) (va : Nat → Int32) : tlo (n, u, p, a, F, L, S, lo, hi, fa, og, va) = lo := rfl
theorem thi_mk (n : Int32) (u : Int32) (p : Int32) (a : Int32) (F : Nat → Int32) (L : Nat → Int32) (S : Nat → Int64) (lo : Nat → Int32) (hi : Nat → Int32) (fa : Nat → Int32) (og : Nat → Int32) (va : Nat → Int32) : thi (n, u, p, a, F, L, S, lo, hi, fa, og, va) = hi := rfl
theorem tfa_mk (n : Int32) (u : Int32) (p : Int32) (a : Int32) (F : Nat → Int32) (L : Nat → Int32) (S : Nat → Int64) (lo : Nat → Int32) (hi : Nat → Int32) (fa : Nat → Int32) (og : Nat → Int32) (va : Nat → Int32) : tfa (n, u, p, a, F, L, S, lo, hi, fa, og, va) = fa := rfl
theorem tog_mk (n : Int32) (u : Int32) (p : Int32) (a : Int32) (F : Nat → Int32) (L : Nat → Int32) (S : Nat → Int64) (lo : Nat → Int32) (hi : Nat → Int32) (fa : Nat → Int32) (og : Nat → Int32) (va : Nat → Int32) : tog (n, u, p, a, F, L, S, lo, hi, fa, og, va) = og := rfl
theorem tva_mk (n : Int32) (u : Int32) (p : Int32) (a : Int32) (F : Nat → Int32) (L : Nat → Int32) (S : Nat → Int64) (lo : Nat → Int32) (hi : Nat → Int32) (fa : Nat → Int32) (og : Nat → Int32) (va : Nat → Int32) : tva (n, u, p, a, F, L, S, lo, hi, fa, og, va) = va := rfl
theorem Z.nameT {y : MethodName} {cc : ByteArray} {nL : Nat} {ret : Option FieldType} {d mc ms pc : Nat} {ls : List (Option Value)} {st : List Value} {r : zR} {h' : List zO} {T0 : TS} (k : ∀ T : TS, T = T0 → Z sc y cc nL ret d mc ms pc ls st (th T) r h') : Z sc y cc nL ret d mc ms pc ls st (th T0) r h' := k T0 rfl
theorem zinc (k : Nat) : nI k + Int32.ofInt 1 = nI (k + 1) := nI_1 k
theorem zdec (k : Nat) : nI (k + 1) + Int32.ofInt (-1) = nI k := pk_m1 k
def zup {σ : Type} (g : Nat → σ → σ) : Nat → Nat → σ → σ
  | 0, _, s => s
  | n + 1, k, s => zup g n (k + 1) (g k s)
def zdn {σ : Type} (g : Nat → σ → σ) : Nat → σ → σ
  | 0, s => s
  | n + 1, s => zdn g n (g (n + 1) s)
