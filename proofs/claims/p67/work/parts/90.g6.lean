variable {sc : SC}
def tZ : TS := (0, 0, 0, 0, fun _ => 0, fun _ => 0, fun _ => 0, fun _ => 0, fun _ => 0, fun _ => 0, fun _ => 0, fun _ => 0)
def iZ : ZS := (fun _ => 0, fun _ _ => 0)
theorem zbh_cons {n : Nat} {x : zO} {l : List zO} (h : zbo n x) (t : zbh n l) : zbh n (x :: l) := fun y hy => by
  rcases List.mem_cons.mp hy with rfl | hy
  · exact h
  · exact t y hy
theorem zbh_nil {n : Nat} : zbh n [] := fun _ h => nomatch h
theorem zbo_ren {m b n : Nat} {x : zO} (h : zbo m x) (hm : m ≤ 1000000) (hb : b + m ≤ n) : zbo n (zren (zs1 b) x) := by
  have key : ∀ a, a < m → zs1 b a < n := fun a ha => by
    have e : zs1 b a = b + a := zs1_lo (by omega)
    omega
  rcases x with ⟨t, q, f | f | f | f | f⟩ | ⟨ci, fs⟩
  · trivial
  · trivial
  · trivial
  · trivial
  · intro j a e
    have e2 : (f j).map (zs1 b) = some a := e
    rw [Option.map_eq_some_iff] at e2
    obtain ⟨a0, e3, e4⟩ := e2
    rw [← e4]
    exact key a0 (h j a0 e3)
  · intro v hv a e
    obtain ⟨v0, hv0, rfl⟩ := List.mem_map.mp hv
    cases v0 with
    | ref a0 =>
      have e2 : Value.ref (zs1 b a0) = .ref a := e
      injection e2 with e3
      rw [← e3]
      exact key a0 (h _ hv0 a0 rfl)
    | int x => cases e
    | long x => cases e
    | float x => cases e
    | double x => cases e
    | null => cases e
    | retAddr x => cases e
theorem zbh_ren {m b n : Nat} {l : List zO} (h : zbh m l) (hm : m ≤ 1000000) (hb : b + m ≤ n) : zbh n (l.map (zren (zs1 b))) := fun y hy => by
  obtain ⟨x, hx, rfl⟩ := List.mem_map.mp hy
  exact zbo_ren (h x hx) hm hb
theorem zbl_mono {n k : Nat} {ls : List (Option Value)} (h : ∀ v, some v ∈ ls → zbw n v) (hk : n ≤ k) : ∀ v, some v ∈ ls → zbw k v := fun v hv a e => (h v hv a e).imp (fun z => Nat.lt_of_lt_of_le z hk) id
theorem zbs_mono {n k : Nat} {st : List Value} (h : ∀ v ∈ st, zbw n v) (hk : n ≤ k) : ∀ v ∈ st, zbw k v := fun v hv a e => (h v hv a e).imp (fun z => Nat.lt_of_lt_of_le z hk) id
section ZMK
variable {y : MethodName} {cc : ByteArray} {nL : Nat} {ret : Option FieldType} {d mc ms pc : Nat} {ls : List (Option Value)} {st : List Value} {h : List zO} {r : zR} {h' : List zO}
theorem z_mkX5 {ik ic : Nat} {host : String} (d0 : decode cc pc = .ok (.new ik, 3)) (d3 : decode cc (pc + 3) = .ok (.dup, 1)) (d4 : decode cc (pc + 4) = .ok (.invokespecial ic, 3)) (hk : Cond.classLink y.cls ik RX5 ∈ zT) (hlk : Cond.methodLinkNest y.cls ic yX5_init host ∈ zB) (hd : 2 ≤ d) (hcat : (st.map fun v => v.category).sum ≤ 7) (hb : zbh h.length h) (hl : ∀ v, some v ∈ ls → zbw h.length v) (hs : ∀ v ∈ st, zbw h.length v) (hg : h.length + 9 ≤ h'.length) (hN : h.length < 999000)
    (k : Z sc y cc nL ret d mc ms (pc + 7) ls (.ref h.length :: st) (h ++ (th tZ).map (zren (zs1 h.length))) r h') : Z sc y cc nL ret d (mc + 8 + 1) (ms + 936 + 12) pc ls st h r h' := by
  refine z_new (fs := [.int 0, .int 0, .int 0, .int 0, .null, .null, .null, .null, .null, .null, .null, .null]) (ty := tyX5) d0 hk zns_X5 zini_RX5 (ci := 5) rfl zw_in5 tyX5_ok (by decide) (by intro v hv a e; simp only [List.mem_cons, List.not_mem_nil, or_false] at hv; rcases hv with rfl | rfl | rfl | rfl | rfl | rfl | rfl | rfl | rfl | rfl | rfl | rfl <;> cases e) hb hl hs (by omega) (by omega) ?_
  refine z_dup d3 rfl ?_
  have hc : ((th tZ)).length = 9 := rfl
  refine Z.callG (A0 := h) (x := .inr (5, [.int 0, .int 0, .int 0, .int 0, .null, .null, .null, .null, .null, .null, .null, .null])) (hc' := (th tZ)) (zRun.IN (b := 0) (As := []) k_init_X5 d4 zy_X5_init hlk rfl ?_ ?_ (by omega) (by decide) (zs1_fix _)) (by rw [hc]; decide) (by rw [hc]; omega) (zbh_of rfl) hb (zbl_mono hl (Nat.le_succ _)) ?_ (by omega) k
  · show Value.ref h.length :: Value.ref h.length :: st = Value.ref (zs1 h.length 0) :: Value.ref h.length :: st
    rw [zs1_lo (by decide)]
    rfl
  · simp only [List.map_cons, List.sum_cons]
    show 1 + _ ≤ 8
    omega
  · intro v hv a e
    rcases List.mem_cons.mp hv with rfl | hv
    · injection e with e
      exact Or.inl (Nat.lt_of_le_of_lt (Nat.le_of_eq e.symm) (Nat.lt_succ_self _))
    · exact (hs v hv a e).imp (fun z => Nat.lt_succ_of_lt z) id
theorem z_mkX3 {ik ic : Nat} {host : String} (d0 : decode cc pc = .ok (.new ik, 3)) (d3 : decode cc (pc + 3) = .ok (.dup, 1)) (d4 : decode cc (pc + 4) = .ok (.invokespecial ic, 3)) (hk : Cond.classLink y.cls ik RX3 ∈ zT) (hlk : Cond.methodLinkNest y.cls ic yX3_init host ∈ zB) (hd : 2 ≤ d) (hcat : (st.map fun v => v.category).sum ≤ 7) (hb : zbh h.length h) (hl : ∀ v, some v ∈ ls → zbw h.length v) (hs : ∀ v ∈ st, zbw h.length v) (hg : h.length + 2 ≤ h'.length) (hN : h.length < 999000)
    (k : Z sc y cc nL ret d mc ms (pc + 7) ls (.ref h.length :: st) (h ++ (xho 0 iZ).map (zren (zs1 h.length))) r h') : Z sc y cc nL ret d (mc + 1 + 1) (ms + 600 + 2) pc ls st h r h' := by
  refine z_new (fs := [.null, .int 0]) (ty := tyX3) d0 hk zns_X3 zini_RX3 (ci := 3) rfl zw_in3 tyX3_ok (by decide) (by intro v hv a e; simp only [List.mem_cons, List.not_mem_nil, or_false] at hv; rcases hv with rfl | rfl <;> cases e) hb hl hs (by omega) (by omega) ?_
  refine z_dup d3 rfl ?_
  have hc : ((xho 0 iZ)).length = 2 := rfl
  refine Z.callG (A0 := h) (x := .inr (3, [.null, .int 0])) (hc' := (xho 0 iZ)) (zRun.IN (b := 0) (As := []) k_init_X3 d4 zy_X3_init hlk rfl ?_ ?_ (by omega) (by decide) (zs1_fix _)) (by rw [hc]; decide) (by rw [hc]; omega) (zbh_of rfl) hb (zbl_mono hl (Nat.le_succ _)) ?_ (by omega) k
  · show Value.ref h.length :: Value.ref h.length :: st = Value.ref (zs1 h.length 0) :: Value.ref h.length :: st
    rw [zs1_lo (by decide)]
    rfl
  · simp only [List.map_cons, List.sum_cons]
    show 1 + _ ≤ 8
    omega
  · intro v hv a e
    rcases List.mem_cons.mp hv with rfl | hv
    · injection e with e
      exact Or.inl (Nat.lt_of_le_of_lt (Nat.le_of_eq e.symm) (Nat.lt_succ_self _))
    · exact (hs v hv a e).imp (fun z => Nat.lt_succ_of_lt z) id
theorem z_mkX1 {ik ic : Nat} {host : String} (d0 : decode cc pc = .ok (.new ik, 3)) (d3 : decode cc (pc + 3) = .ok (.dup, 1)) (d4 : decode cc (pc + 4) = .ok (.invokespecial ic, 3)) (hk : Cond.classLink y.cls ik RX1 ∈ zT) (hlk : Cond.methodLinkNest y.cls ic yX1_init host ∈ zB) (hd : 2 ≤ d) (hcat : (st.map fun v => v.category).sum ≤ 7) (hb : zbh h.length h) (hl : ∀ v, some v ∈ ls → zbw h.length v) (hs : ∀ v ∈ st, zbw h.length v) (hg : h.length + 2 ≤ h'.length) (hN : h.length < 999000)
    (k : Z sc y cc nL ret d mc ms (pc + 7) ls (.ref h.length :: st) (h ++ (rho 0 iZ).map (zren (zs1 h.length))) r h') : Z sc y cc nL ret d (mc + 1 + 1) (ms + 360 + 2) pc ls st h r h' := by
  refine z_new (fs := [.null, .int 0]) (ty := tyX1) d0 hk zns_X1 zini_RX1 (ci := 1) rfl zw_in1 tyX1_ok (by decide) (by intro v hv a e; simp only [List.mem_cons, List.not_mem_nil, or_false] at hv; rcases hv with rfl | rfl <;> cases e) hb hl hs (by omega) (by omega) ?_
  refine z_dup d3 rfl ?_
  have hc : ((rho 0 iZ)).length = 2 := rfl
  refine Z.callG (A0 := h) (x := .inr (1, [.null, .int 0])) (hc' := (rho 0 iZ)) (zRun.IN (b := 0) (As := []) k_init_X1 d4 zy_X1_init hlk rfl ?_ ?_ (by omega) (by decide) (zs1_fix _)) (by rw [hc]; decide) (by rw [hc]; omega) (zbh_of rfl) hb (zbl_mono hl (Nat.le_succ _)) ?_ (by omega) k
  · show Value.ref h.length :: Value.ref h.length :: st = Value.ref (zs1 h.length 0) :: Value.ref h.length :: st
    rw [zs1_lo (by decide)]
    rfl
  · simp only [List.map_cons, List.sum_cons]
    show 1 + _ ≤ 8
    omega
  · intro v hv a e
    rcases List.mem_cons.mp hv with rfl | hv
    · injection e with e
      exact Or.inl (Nat.lt_of_le_of_lt (Nat.le_of_eq e.symm) (Nat.lt_succ_self _))
    · exact (hs v hv a e).imp (fun z => Nat.lt_succ_of_lt z) id
theorem z_mkX2 {ik ic : Nat} {host : String} (d0 : decode cc pc = .ok (.new ik, 3)) (d3 : decode cc (pc + 3) = .ok (.dup, 1)) (d4 : decode cc (pc + 4) = .ok (.invokespecial ic, 3)) (hk : Cond.classLink y.cls ik RX2 ∈ zT) (hlk : Cond.methodLinkNest y.cls ic yX2_init host ∈ zB) (hd : 3 ≤ d) (hcat : (st.map fun v => v.category).sum ≤ 7) (hb : zbh h.length h) (hl : ∀ v, some v ∈ ls → zbw h.length v) (hs : ∀ v ∈ st, zbw h.length v) (hg : h.length + 18 ≤ h'.length) (hN : h.length < 999000)
    (k : Z sc y cc nL ret d mc ms (pc + 7) ls (.ref h.length :: st) (h ++ (sho 0 iZ tZ).map (zren (zs1 h.length))) r h') : Z sc y cc nL ret d (mc + 17 + 1) (ms + 2804 + 11) pc ls st h r h' := by
  refine z_new (fs := [.null, .null, .null, .int 0, .int 0, .int 0, .int 0, .int 0, .null, .null, .null]) (ty := tyX2) d0 hk zns_X2 zini_RX2 (ci := 2) rfl zw_in2 tyX2_ok (by decide) (by intro v hv a e; simp only [List.mem_cons, List.not_mem_nil, or_false] at hv; rcases hv with rfl | rfl | rfl | rfl | rfl | rfl | rfl | rfl | rfl | rfl | rfl <;> cases e) hb hl hs (by omega) (by omega) ?_
  refine z_dup d3 rfl ?_
  have hc : ((sho 0 iZ tZ)).length = 18 := rfl
  refine Z.callG (A0 := h) (x := .inr (2, [.null, .null, .null, .int 0, .int 0, .int 0, .int 0, .int 0, .null, .null, .null])) (hc' := (sho 0 iZ tZ)) (zRun.IN (b := 0) (As := []) k_init_X2 d4 zy_X2_init hlk rfl ?_ ?_ (by omega) (by decide) (zs1_fix _)) (by rw [hc]; decide) (by rw [hc]; omega) (zbh_of rfl) hb (zbl_mono hl (Nat.le_succ _)) ?_ (by omega) k
  · show Value.ref h.length :: Value.ref h.length :: st = Value.ref (zs1 h.length 0) :: Value.ref h.length :: st
    rw [zs1_lo (by decide)]
    rfl
  · simp only [List.map_cons, List.sum_cons]
    show 1 + _ ≤ 8
    omega
  · intro v hv a e
    rcases List.mem_cons.mp hv with rfl | hv
    · injection e with e
      exact Or.inl (Nat.lt_of_le_of_lt (Nat.le_of_eq e.symm) (Nat.lt_succ_self _))
    · exact (hs v hv a e).imp (fun z => Nat.lt_succ_of_lt z) id
end ZMK
