variable {sc : SC}
theorem iH_b : zbh (iH iT4).length (iH iT4) := by
  rw [iH_len]
  exact zbh_app (zbh_of rfl) (zbh_app (zbh_tho (by decide)) (zbh_app (iHi_b (by decide)) (zbh_app (zbh_tho (by decide)) (zbh_app (xho_b (by decide)) (zbh_app (sho_b (by decide)) (zbh_ren (l := rho 0 iZ) (m := 2) (zbh_of rfl) (by decide) (by decide)))))))
section ZMK3
variable {y : MethodName} {cc : ByteArray} {nL : Nat} {ret : Option FieldType} {d mc ms pc : Nat} {ls : List (Option Value)} {st : List Value} {h : List zO} {r : zR} {h' : List zO}
theorem z_mkX6n {ik ic : Nat} (d0 : decode cc pc = .ok (.new ik, 3)) (d3 : decode cc (pc + 3) = .ok (.dup, 1)) (d4 : decode cc (pc + 4) = .ok (.invokespecial ic, 3)) (hk : Cond.classLink y.cls ik RX6 ∈ zT) (hlk : Cond.methodLink y.cls ic yX6_init ∈ zT) (hd : 4 ≤ d) (hcat : (st.map fun v => v.category).sum ≤ 7) (hb : zbh h.length h) (hl : ∀ v, some v ∈ ls → zbw h.length v) (hs : ∀ v ∈ st, zbw h.length v) (hg : h.length + 115 ≤ h'.length) (hN : h.length < 999000)
    (k : Z sc y cc nL ret d mc ms (pc + 7) ls (.ref h.length :: st) (h ++ (iH iT4).map (zren (zs1 h.length))) r h') : Z sc y cc nL ret d (mc + 114 + 1) (ms + 13269 + 7) pc ls st h r h' := by
  refine z_new (fs := [.null, .null, .null, .int 0, .null, .null, .null]) (ty := tyX6) d0 hk zns_X6 zini_RX6 (ci := 6) rfl zw_in6 tyX6_ok (by decide) (by intro v hv a e; simp only [List.mem_cons, List.not_mem_nil, or_false] at hv; rcases hv with rfl | rfl | rfl | rfl | rfl | rfl | rfl <;> cases e) hb hl hs (by omega) (by omega) ?_
  refine z_dup d3 rfl ?_
  have hc : ((iH iT4)).length = 115 := rfl
  refine Z.callG (A0 := h) (x := .inr (6, [.null, .null, .null, .int 0, .null, .null, .null])) (hc' := (iH iT4)) (zRun.I (b := 0) (As := []) k_init_X6 d4 zy_X6_init hlk rfl ?_ ?_ (by omega) (by decide) (zs1_fix _)) (by rw [hc]; decide) (by rw [hc]; omega) iH_b hb (zbl_mono hl (Nat.le_succ _)) ?_ (by omega) k
  · show Value.ref h.length :: Value.ref h.length :: st = Value.ref (zs1 h.length 0) :: Value.ref h.length :: st
    rw [zs1_lo (by decide)]
    rfl
  · simp only [List.map_cons, List.sum_cons]
    show 1 + _ ≤ 8
    omega
  · intro v hv a e
    rcases List.mem_cons.mp hv with rfl | hv
    · injection e with e
      exact Or.inl (Nat.lt_of_le_of_lt (Nat.le_of_eq e.symm) (Nat.lt_succ_self _))
    · exact (hs v hv a e).imp (fun z => Nat.lt_succ_of_lt z) id
end ZMK3
