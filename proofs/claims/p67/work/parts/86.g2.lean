variable {sc : SC}
theorem zoi_X0 : Cond.methodLink RX0 3 objectInit ∈ zT := zmem (15 + 75) (by decide +kernel) (by decide +kernel)
theorem zns_X0 : Cond.instantiable RX0 2 ∈ zT := zmem (15 + 71) (by decide +kernel) (by decide +kernel)
theorem zoi_X1 : Cond.methodLink RX1 3 objectInit ∈ zT := zmem (15 + 166) (by decide +kernel) (by decide +kernel)
theorem zns_X1 : Cond.instantiable RX1 2 ∈ zT := zmem (15 + 162) (by decide +kernel) (by decide +kernel)
theorem zoi_X2 : Cond.methodLink RX2 3 objectInit ∈ zT := zmem (15 + 105) (by decide +kernel) (by decide +kernel)
theorem zns_X2 : Cond.instantiable RX2 11 ∈ zT := zmem (15 + 101) (by decide +kernel) (by decide +kernel)
theorem zoi_X3 : Cond.methodLink RX3 3 objectInit ∈ zT := zmem (15 + 91) (by decide +kernel) (by decide +kernel)
theorem zns_X3 : Cond.instantiable RX3 2 ∈ zT := zmem (15 + 87) (by decide +kernel) (by decide +kernel)
theorem zoi_X4 : Cond.methodLink RX4 3 objectInit ∈ zT := zmem (15 + 113) (by decide +kernel) (by decide +kernel)
theorem zns_X4 : Cond.instantiable RX4 4 ∈ zT := zmem (15 + 109) (by decide +kernel) (by decide +kernel)
theorem zoi_X5 : Cond.methodLink RX5 5 objectInit ∈ zT := zmem (15 + 30) (by decide +kernel) (by decide +kernel)
theorem zns_X5 : Cond.instantiable RX5 12 ∈ zT := zmem (15 + 26) (by decide +kernel) (by decide +kernel)
theorem zoi_X6 : Cond.methodLink RX6 1 objectInit ∈ zT := zmem (15 + 22) (by decide +kernel) (by decide +kernel)
theorem zns_X6 : Cond.instantiable RX6 7 ∈ zT := zmem (15 + 18) (by decide +kernel) (by decide +kernel)
theorem zoi_i : Cond.instanceMethod objectInit ∈ zT := zmem (15 + 23) (by decide +kernel) (by decide +kernel)
theorem zoi_c : Cond.code objectInit ⟨#[0xb1]⟩ 1 none ∈ zT := zmem (15 + 24) (by decide +kernel) (by decide +kernel)
section ZOBJ
variable {y : MethodName} {cc : ByteArray} {nL : Nat} {ret : Option FieldType} {d mc ms pc : Nat} {ls : List (Option Value)} {st : List Value} {h : List zO} {r : zR} {h' : List zO}
theorem z_objI {idx b : Nat} (hd : decode cc pc = .ok (.invokespecial idx, 3)) (hlk : Cond.methodLink y.cls idx objectInit ∈ zT) (hd1 : 1 ≤ d) (hcat : (st.map fun v => v.category).sum ≤ 8) (k : Z sc y cc nL ret d mc ms (pc + 3) ls st h r h') : Z sc y cc nL ret d mc ms pc ls (.ref b :: st) h r h' := by
  intro l p e R s m args below meth cd H locs cells slots tc ts D dA aS ad bs A la C0 hla hP hD hS hA hAb h1 h2 h3 h4 h5 h6
  have hts := C0.2.2.2.2.1
  have e4 : ((st.map (zv ad)).map fun v => v.category) = st.map fun v => v.category := by
    rw [List.map_map]; exact List.map_congr_left (fun v _ => zv_cat ad v)
  refine W.objInit C0.1 C0.2.1 C0.2.2.2.1 (hts _ hlk) (hts _ zoi_i) (hts _ zoi_c) rfl (by rw [C0.2.2.1]; exact hla.1) rfl hd (by first | omega | (simp only [List.map_cons, List.sum_cons]; omega)) (by first | omega | (show _ ≤ R.locals; simp only [List.map_cons, List.sum_cons] at *; rw [e4]; omega)) ?_
  exact k l p e R s m args below meth cd H locs cells slots tc ts D dA aS ad bs A la C0 hla hP hD hS hA hAb h1 h2 h3 h4 h5 h6
end ZOBJ
def zbvB (n : Nat) (v : Value) : Bool := match v with
  | .ref a => Nat.blt a n
  | _ => true
def zboB (n : Nat) (o : zO) : Bool := match o with
  | .inr (_, fs) => fs.all (zbvB n)
  | .inl (_, (_, .inr (.inr (.inr (.inr _))))) => false
  | _ => true
theorem zbv_of {n : Nat} {v : Value} (h : zbvB n v = true) : zbv n v := by
  intro a e
  subst e
  exact Nat.lt_of_lt_of_le (Nat.lt_succ_self a) (Nat.le_of_ble_eq_true h)
theorem zbo_of {n : Nat} {o : zO} (h : zboB n o = true) : zbo n o := by
  rcases o with ⟨t, k, f | f | f | f | f⟩ | ⟨ci, fs⟩
  · trivial
  · trivial
  · trivial
  · trivial
  · exact absurd h Bool.false_ne_true
  · intro v hv
    exact zbv_of (List.all_eq_true.mp h v hv)
theorem zbh_of {n : Nat} {h : List zO} (e : h.all (zboB n) = true) : zbh n h := fun o ho => zbo_of (List.all_eq_true.mp e o ho)
def zbwB (n : Nat) (v : Value) : Bool := zbvB n v || (match v with | .ref a => Nat.ble 1000000 a | _ => true)
theorem zbw_of {n : Nat} {v : Value} (h : zbwB n v = true) : zbw n v := by
  intro a e
  subst e
  rcases Bool.or_eq_true_iff.mp h with h | h
  · exact Or.inl (zbv_of h a rfl)
  · exact Or.inr (Nat.le_of_ble_eq_true h)
theorem zbl_of {n : Nat} {ls : List (Option Value)} (e : (ls.all fun x => match x with | some v => zbwB n v | none => true) = true) : ∀ v, some v ∈ ls → zbw n v := fun v hv => zbw_of (List.all_eq_true.mp e (some v) hv)
theorem zbs_of {n : Nat} {st : List Value} (e : st.all (zbwB n) = true) : ∀ v ∈ st, zbw n v := fun v hv => zbw_of (List.all_eq_true.mp e v hv)
theorem zbh_app {n : Nat} {a b : List zO} (ha : zbh n a) (hb : zbh n b) : zbh n (a ++ b) := fun o ho => (List.mem_append.mp ho).elim (ha o) (hb o)
theorem zbo_mono {n m : Nat} (h : n ≤ m) {o : zO} (ho : zbo n o) : zbo m o := by
  rcases o with ⟨t, k, f | f | f | f | f⟩ | ⟨ci, fs⟩
  · trivial
  · trivial
  · trivial
  · trivial
  · exact fun j a e => Nat.lt_of_lt_of_le (ho j a e) h
  · exact fun v hv a e => Nat.lt_of_lt_of_le (ho v hv a e) h
abbrev zs1 (b : Nat) : Nat → Nat := fun i => if i < 1000000 then b + i else i
theorem zs1_fix (b i : Nat) : zs1 b (1000000 + i) = 1000000 + i := if_neg (by omega)
theorem zs1_lo {b i : Nat} (h : i < 1000000) : zs1 b i = b + i := if_pos h
section ZCALLG
variable {y : MethodName} {cc : ByteArray} {nL : Nat} {ret : Option FieldType} {d mc ms pc : Nat} {ls : List (Option Value)} {st : List Value} {h : List zO} {r : zR} {h' : List zO}
variable {y2 : MethodName} {cc2 : ByteArray} {nL2 : Nat} {d2 mc2 ms2 : Nat} {hc hc' : List zO}
theorem zRun.I {n idx b : Nat} {As : List Value} {ρ : Nat → Nat} {r2 : zR} {stk : List Value} (hM : zM sc y2 cc2 nL2 none d2 mc2 ms2 (.ref b :: As) hc r2 hc') (hd : decode cc pc = .ok (.invokespecial idx, 3)) (hY : zYI y2 cc2 nL2 n) (hlk : Cond.methodLink y.cls idx y2 ∈ zT) (hn : As.length = n) (hst : stk = (As.map (zv ρ)).reverse ++ .ref (ρ b) :: st) (hcat : (st.map fun v => v.category).sum ≤ 8) (hd2 : d2 + 1 ≤ d) (hnL : nL2 ≤ 61) (hρ : ∀ i, ρ (1000000 + i) = 1000000 + i) :
    zRun sc y cc nL ret d pc h stk st y2 cc2 nL2 none d2 mc2 ms2 (.ref b :: As) hc r2 hc' ρ := by
  intro l p e R s m args below meth cd H locs cells slots D dA aS ad bs la C0 hP hsz hkb h1 h2 h3 h4 hpre
  obtain ⟨q1, q2, q3, q4, ⟨q5, q6, q7⟩, q8⟩ := hY
  have hts := C0.2.2.2.2.1
  have hcw : CallB R s args y.cls idx y2 cc2 nL2 none (Cond.code y2 cc2 nL2 none :: zT) { frames := d2, cells := mc2, slots := ms2, locals := 80 * d2 } mc2 ms2 n ∧ y2.name = "<init>" ∧ (Cond.instanceMethod y2).before args s = true :=
    ⟨callB_of n hts (fun w hw => zgoodIn (idx := idx) (own := y.cls) (C := y2.cls) q1 w hw) rfl rfl rfl (hts _ q4) (hts _ hlk) ⟨q5, q6, q7⟩ ⟨by show d2 + 1 ≤ R.frames; omega, by show 8 + (nL2 + 11) + 80 * d2 ≤ R.locals; omega⟩, q3, hts _ q2⟩
  have hst2 : stk.map (zv ad) = ((As.map (zv (fun i => ad (ρ i)))).reverse ++ .ref (ad (ρ b)) :: st.map (zv ad)) := by
    rw [hst, List.map_append, List.map_reverse, List.map_map]
    have e3 : As.map (zv ad ∘ zv ρ) = As.map (zv (fun i => ad (ρ i))) := List.map_congr_left (fun v _ => zv_zv ad ρ v)
    rw [e3]
    rfl
  exact vx_runI (g := F0 m pc la (stk.map (zv ad))) ⟨C0.1, C0.2.1, C0.2.2.1, C0.2.2.2.1, hts⟩ (hM l D dA aS (fun i => ad (ρ i)) bs H.size (fun i => by rw [hρ]; exact C0.2.2.2.2.2.2.2.2.1.2 i)) hcw ⟨zPc_blind, fun U hU hW => hpre U hU hW⟩ rfl (by rw [List.length_map]; exact hn) hsz hst2 (by
      have e4 : ((st.map (zv ad)).map fun v => v.category) = st.map fun v => v.category := by
        rw [List.map_map]; exact List.map_congr_left (fun v _ => zv_cat ad v)
      show 2 * 0 + _ ≤ 8
      rw [e4]; omega) hd ⟨h3, h4⟩
end ZCALLG
