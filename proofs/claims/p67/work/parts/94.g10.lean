variable {sc : SC}
def iHi : List zO := (hho 0 iZ 0 (fun _ => tZ)).map (zren (zs1 10))
theorem iHi_len : iHi.length = 74 := by rw [iHi, List.length_map, hho_len]
theorem iHi_b {n : Nat} (h : 84 ≤ n) : zbh n iHi := zbh_ren hho_b (by decide) h
theorem xho_b {n b : Nat} (h : b + 2 ≤ n) : zbh n (xho b iZ) := zbh_ren (l := xho 0 iZ) (m := 2) (zbh_of rfl) (by decide) h
theorem sho_b {n b : Nat} (h : b + 18 ≤ n) : zbh n (sho b iZ tZ) := zbh_ren (l := sho 0 iZ tZ) (m := 18) (zbh_of rfl) (by decide) h
def iC : List zO := iHi ++ (tho 84 tZ ++ (xho 93 iZ ++ (sho 95 iZ tZ ++ rho 113 iZ)))
def iO : zO := .inr (6, [.ref 1, .ref 10, .ref 84, .int 0, .ref 93, .ref 95, .ref 113])
def iH (T : TS) : List zO := [iO] ++ (tho 1 T ++ iC)
theorem iC_len : iC.length = 105 := by simp only [iC, List.length_append, iHi_len, tho_len, xho_len, sho_len, rho_len]
theorem iH_len (T : TS) : (iH T).length = 115 := by simp only [iH, List.length_append, List.length_cons, List.length_nil, tho_len, iC_len]
section ZIH
variable {y : MethodName} {cc : ByteArray} {nL : Nat} {ret : Option FieldType} {d mc ms pc idx : Nat} {ls : List (Option Value)} {st : List Value} {rr : zR} {h' : List zO} {y2 : MethodName} {cc2 : ByteArray} {nL2 : Nat} {ret2 : Option FieldType} {d2 : Nat} {As : List Value} {n : Nat}
variable {S X R : ZS} {T T' : TS} {P : ZS} {TU : TS} {r : Nat} {G : Nat → TS} {TN : TS}
theorem z_iS {v : Value} (hM : zM sc y2 cc2 nL2 ret2 d2 0 0 (.ref 0 :: As) (th T) (.inl (some v)) (th T')) (hd : decode cc pc = .ok (.invokevirtual idx, 3)) (hY : zYV y2 cc2 nL2 ret2 n) (hlk : Cond.methodLink y.cls idx y2 ∈ zT) (hn : As.length = n) (hcl : y2.cls = RX5) (eAs : As.map (zv (zs3 9 1 106)) = As) (ev : zv (zs3 9 1 106) v = v) (hcat : (st.map fun v => v.category).sum ≤ 8) (hd2 : d2 + 1 ≤ d) (hnL : nL2 ≤ 61)
    (k : Z sc y cc nL ret d mc ms (pc + 3) ls (v :: st) (iH T') rr h') : Z sc y cc nL ret d mc ms pc ls (As.reverse ++ .ref 1 :: st) (iH T) rr h' :=
  z_cS (ρ := zs3 9 1 106) hM (zone_f (A := [iO]) (B := tho 1 T) (C := iC) rfl rfl rfl rfl) (zone_i rfl (by decide)) (zone_p (A := [iO]) (B := tho 1 T) (B' := tho 1 T') (C := iC) (h2 := iH T') rfl rfl rfl rfl rfl rfl) hd hY hlk hn (ci := 5) rfl (by rw [hcl]; rfl) rfl rfl eAs ev (fun i => zs3_fix _ _ i (by decide)) hcat hd2 hnL k
theorem z_iN (hM : zM sc y2 cc2 nL2 ret2 d2 0 0 (.ref 0 :: As) (th T) (.inl none) (th T')) (hd : decode cc pc = .ok (.invokevirtual idx, 3)) (hY : zYV y2 cc2 nL2 ret2 n) (hlk : Cond.methodLink y.cls idx y2 ∈ zT) (hn : As.length = n) (hcl : y2.cls = RX5) (eAs : As.map (zv (zs3 9 1 106)) = As) (hcat : (st.map fun v => v.category).sum ≤ 8) (hd2 : d2 + 1 ≤ d) (hnL : nL2 ≤ 61)
    (k : Z sc y cc nL ret d mc ms (pc + 3) ls st (iH T') rr h') : Z sc y cc nL ret d mc ms pc ls (As.reverse ++ .ref 1 :: st) (iH T) rr h' :=
  z_cN (ρ := zs3 9 1 106) hM (zone_f (A := [iO]) (B := tho 1 T) (C := iC) rfl rfl rfl rfl) (zone_i rfl (by decide)) (zone_p (A := [iO]) (B := tho 1 T) (B' := tho 1 T') (C := iC) (h2 := iH T') rfl rfl rfl rfl rfl rfl) hd hY hlk hn (ci := 5) rfl (by rw [hcl]; rfl) rfl rfl eAs (fun i => zs3_fix _ _ i (by decide)) hcat hd2 hnL k
end ZIH
def iT0 : TS := (tBuild (tSz tZ 10 (va_cpy FV (tva tZ) 0 0 10)))
def iT1 : TS := (tUpdate iT0 1 6 1 2).1
def iT2 : TS := (tUpdate iT1 3 4 0 8).1
def iT3 : TS := (tUpdate iT2 0 4 (-1) 0).1
def iT4 : TS := (tUpdate iT3 0 9 1 1).1
theorem k_init_X6 : zM sc yX6_init cX6_init 1 none 3 114 13269 [.ref 0] [.inr (6, [.null, .null, .null, .int 0, .null, .null, .null])] (.inl none) (iH iT4) := by
  refine zM.at (ls := [some (.ref 0)]) zy_X6_init.2.2.2.2.2 (Nat.le_of_ble_eq_true rfl) rfl ?_
  refine z_aload_0 dX6_init_0 ?_
  refine z_objI dX6_init_1 zoi_X6 (by decide) (Nat.le_of_ble_eq_true rfl) ?_
  refine z_aload_0 dX6_init_4 ?_
  have e0 : (([.inr (6, [.null, .null, .null, .int 0, .null, .null, .null])] : List zO) : List zO).length = 1 := by simp only [List.length_append, List.length_cons, List.length_nil, tho_len, iHi_len, xho_len, sho_len, rho_len]
  refine z_mkX5 (h := ([.inr (6, [.null, .null, .null, .int 0, .null, .null, .null])] : List zO)) dX6_init_5 dX6_init_8 dX6_init_9 zcl_X6_7 znl_X6_9 (by decide) (Nat.le_of_ble_eq_true rfl) (by rw [e0]; exact (zbh_of rfl)) (by rw [e0]; exact zbl_of rfl) (by rw [e0]; exact zbs_of rfl) (by rw [e0, iH_len]; decide) (by rw [e0]; decide) ?_
  rw [e0]
  refine Z.heap (h2 := (([.inr (6, [.null, .null, .null, .int 0, .null, .null, .null])] : List zO) ++ tho 1 tZ)) rfl ?_
  refine z_putF (k := 0) (ty := tyX6) dX6_init_12 rfl rfl (by decide) zf_X6_10 zw_in6 tyX6_ok nmX6 rfl rfl rfl (fun _ => ⟨rfl, rfl⟩) (Nat.le_of_ble_eq_true rfl) ?_
  refine Z.heap (h2 := (([.inr (6, [.ref 1, .null, .null, .int 0, .null, .null, .null])] : List zO) ++ tho 1 tZ)) rfl ?_
  refine z_aload_0 dX6_init_15 ?_
  have e1 : ((([.inr (6, [.ref 1, .null, .null, .int 0, .null, .null, .null])] : List zO) ++ tho 1 tZ) : List zO).length = 10 := by simp only [List.length_append, List.length_cons, List.length_nil, tho_len, iHi_len, xho_len, sho_len, rho_len]
  refine z_mkX0n (h := (([.inr (6, [.ref 1, .null, .null, .int 0, .null, .null, .null])] : List zO) ++ tho 1 tZ)) dX6_init_16 dX6_init_19 dX6_init_20 zcl_X6_16 zm_X6_18 (by decide) (Nat.le_of_ble_eq_true rfl) (by rw [e1]; exact (zbh_app (zbh_of rfl) (zbh_tho (by decide)))) (by rw [e1]; exact zbl_of rfl) (by rw [e1]; exact zbs_of rfl) (by rw [e1, iH_len]; decide) (by rw [e1]; decide) ?_
  rw [e1]
  refine Z.heap (h2 := ((([.inr (6, [.ref 1, .null, .null, .int 0, .null, .null, .null])] : List zO) ++ tho 1 tZ) ++ iHi)) rfl ?_
  refine z_putF (k := 1) (ty := tyX6) dX6_init_23 rfl rfl (by decide) zf_X6_19 zw_in6 tyX6_ok nmX6 rfl rfl rfl (fun _ => ⟨rfl, rfl⟩) (Nat.le_of_ble_eq_true rfl) ?_
  refine Z.heap (h2 := ((([.inr (6, [.ref 1, .ref 10, .null, .int 0, .null, .null, .null])] : List zO) ++ tho 1 tZ) ++ iHi)) rfl ?_
  refine z_aload_0 dX6_init_26 ?_
  have e2 : (((([.inr (6, [.ref 1, .ref 10, .null, .int 0, .null, .null, .null])] : List zO) ++ tho 1 tZ) ++ iHi) : List zO).length = 84 := by simp only [List.length_append, List.length_cons, List.length_nil, tho_len, iHi_len, xho_len, sho_len, rho_len]
  refine z_mkX5 (h := ((([.inr (6, [.ref 1, .ref 10, .null, .int 0, .null, .null, .null])] : List zO) ++ tho 1 tZ) ++ iHi)) dX6_init_27 dX6_init_30 dX6_init_31 zcl_X6_7 znl_X6_9 (by decide) (Nat.le_of_ble_eq_true rfl) (by rw [e2]; exact (zbh_app (zbh_app (zbh_of rfl) (zbh_tho (by decide))) (iHi_b (by decide)))) (by rw [e2]; exact zbl_of rfl) (by rw [e2]; exact zbs_of rfl) (by rw [e2, iH_len]; decide) (by rw [e2]; decide) ?_
  rw [e2]
  refine Z.heap (h2 := (((([.inr (6, [.ref 1, .ref 10, .null, .int 0, .null, .null, .null])] : List zO) ++ tho 1 tZ) ++ iHi) ++ tho 84 tZ)) rfl ?_
  refine z_putF (k := 2) (ty := tyX6) dX6_init_34 rfl rfl (by decide) zf_X6_23 zw_in6 tyX6_ok nmX6 rfl rfl rfl (fun _ => ⟨rfl, rfl⟩) (Nat.le_of_ble_eq_true rfl) ?_
  refine Z.heap (h2 := (((([.inr (6, [.ref 1, .ref 10, .ref 84, .int 0, .null, .null, .null])] : List zO) ++ tho 1 tZ) ++ iHi) ++ tho 84 tZ)) rfl ?_
  refine z_aload_0 dX6_init_37 ?_
  refine z_iconst (v := 0) dX6_init_38 rfl ?_
  refine z_put (k := 3) (ty := tyX6) dX6_init_39 rfl rfl (by decide) zf_X6_26 zw_in6 tyX6_ok nmX6 rfl (fun _ => ⟨rfl, rfl⟩) (Nat.le_of_ble_eq_true rfl) ?_
  refine Z.heap (h2 := (((([.inr (6, [.ref 1, .ref 10, .ref 84, .int 0, .null, .null, .null])] : List zO) ++ tho 1 tZ) ++ iHi) ++ tho 84 tZ)) rfl ?_
  refine z_aload_0 dX6_init_42 ?_
  have e3 : ((((([.inr (6, [.ref 1, .ref 10, .ref 84, .int 0, .null, .null, .null])] : List zO) ++ tho 1 tZ) ++ iHi) ++ tho 84 tZ) : List zO).length = 93 := by simp only [List.length_append, List.length_cons, List.length_nil, tho_len, iHi_len, xho_len, sho_len, rho_len]
  refine z_mkX3 (h := (((([.inr (6, [.ref 1, .ref 10, .ref 84, .int 0, .null, .null, .null])] : List zO) ++ tho 1 tZ) ++ iHi) ++ tho 84 tZ)) dX6_init_43 dX6_init_46 dX6_init_47 zcl_X6_30 znl_X6_32 (by decide) (Nat.le_of_ble_eq_true rfl) (by rw [e3]; exact (zbh_app (zbh_app (zbh_app (zbh_of rfl) (zbh_tho (by decide))) (iHi_b (by decide))) (zbh_tho (by decide)))) (by rw [e3]; exact zbl_of rfl) (by rw [e3]; exact zbs_of rfl) (by rw [e3, iH_len]; decide) (by rw [e3]; decide) ?_
  rw [e3]
  refine Z.heap (h2 := ((((([.inr (6, [.ref 1, .ref 10, .ref 84, .int 0, .null, .null, .null])] : List zO) ++ tho 1 tZ) ++ iHi) ++ tho 84 tZ) ++ xho 93 iZ)) rfl ?_
  refine z_putF (k := 4) (ty := tyX6) dX6_init_50 rfl rfl (by decide) zf_X6_33 zw_in6 tyX6_ok nmX6 rfl rfl rfl (fun _ => ⟨rfl, rfl⟩) (Nat.le_of_ble_eq_true rfl) ?_
  refine Z.heap (h2 := ((((([.inr (6, [.ref 1, .ref 10, .ref 84, .int 0, .ref 93, .null, .null])] : List zO) ++ tho 1 tZ) ++ iHi) ++ tho 84 tZ) ++ xho 93 iZ)) rfl ?_
  refine z_aload_0 dX6_init_53 ?_
  have e4 : (((((([.inr (6, [.ref 1, .ref 10, .ref 84, .int 0, .ref 93, .null, .null])] : List zO) ++ tho 1 tZ) ++ iHi) ++ tho 84 tZ) ++ xho 93 iZ) : List zO).length = 95 := by simp only [List.length_append, List.length_cons, List.length_nil, tho_len, iHi_len, xho_len, sho_len, rho_len]
  refine z_mkX2 (h := ((((([.inr (6, [.ref 1, .ref 10, .ref 84, .int 0, .ref 93, .null, .null])] : List zO) ++ tho 1 tZ) ++ iHi) ++ tho 84 tZ) ++ xho 93 iZ)) dX6_init_54 dX6_init_57 dX6_init_58 zcl_X6_37 znl_X6_39 (by decide) (Nat.le_of_ble_eq_true rfl) (by rw [e4]; exact (zbh_app (zbh_app (zbh_app (zbh_app (zbh_of rfl) (zbh_tho (by decide))) (iHi_b (by decide))) (zbh_tho (by decide))) (xho_b (by decide)))) (by rw [e4]; exact zbl_of rfl) (by rw [e4]; exact zbs_of rfl) (by rw [e4, iH_len]; decide) (by rw [e4]; decide) ?_
  rw [e4]
  refine Z.heap (h2 := (((((([.inr (6, [.ref 1, .ref 10, .ref 84, .int 0, .ref 93, .null, .null])] : List zO) ++ tho 1 tZ) ++ iHi) ++ tho 84 tZ) ++ xho 93 iZ) ++ sho 95 iZ tZ)) rfl ?_
  refine z_putF (k := 5) (ty := tyX6) dX6_init_61 rfl rfl (by decide) zf_X6_40 zw_in6 tyX6_ok nmX6 rfl rfl rfl (fun _ => ⟨rfl, rfl⟩) (Nat.le_of_ble_eq_true rfl) ?_
  refine Z.heap (h2 := (((((([.inr (6, [.ref 1, .ref 10, .ref 84, .int 0, .ref 93, .ref 95, .null])] : List zO) ++ tho 1 tZ) ++ iHi) ++ tho 84 tZ) ++ xho 93 iZ) ++ sho 95 iZ tZ)) rfl ?_
  refine z_aload_0 dX6_init_64 ?_
  have e5 : ((((((([.inr (6, [.ref 1, .ref 10, .ref 84, .int 0, .ref 93, .ref 95, .null])] : List zO) ++ tho 1 tZ) ++ iHi) ++ tho 84 tZ) ++ xho 93 iZ) ++ sho 95 iZ tZ) : List zO).length = 113 := by simp only [List.length_append, List.length_cons, List.length_nil, tho_len, iHi_len, xho_len, sho_len, rho_len]
  refine z_mkX1 (h := (((((([.inr (6, [.ref 1, .ref 10, .ref 84, .int 0, .ref 93, .ref 95, .null])] : List zO) ++ tho 1 tZ) ++ iHi) ++ tho 84 tZ) ++ xho 93 iZ) ++ sho 95 iZ tZ)) dX6_init_65 dX6_init_68 dX6_init_69 zcl_X6_44 znl_X6_46 (by decide) (Nat.le_of_ble_eq_true rfl) (by rw [e5]; exact (zbh_app (zbh_app (zbh_app (zbh_app (zbh_app (zbh_of rfl) (zbh_tho (by decide))) (iHi_b (by decide))) (zbh_tho (by decide))) (xho_b (by decide))) (sho_b (by decide)))) (by rw [e5]; exact zbl_of rfl) (by rw [e5]; exact zbs_of rfl) (by rw [e5, iH_len]; decide) (by rw [e5]; decide) ?_
  rw [e5]
  refine Z.heap (h2 := ((((((([.inr (6, [.ref 1, .ref 10, .ref 84, .int 0, .ref 93, .ref 95, .null])] : List zO) ++ tho 1 tZ) ++ iHi) ++ tho 84 tZ) ++ xho 93 iZ) ++ sho 95 iZ tZ) ++ rho 113 iZ)) rfl ?_
  refine z_putF (k := 6) (ty := tyX6) dX6_init_72 rfl rfl (by decide) zf_X6_47 zw_in6 tyX6_ok nmX6 rfl rfl rfl (fun _ => ⟨rfl, rfl⟩) (Nat.le_of_ble_eq_true rfl) ?_
  refine Z.heap (h2 := ((((((([.inr (6, [.ref 1, .ref 10, .ref 84, .int 0, .ref 93, .ref 95, .ref 113])] : List zO) ++ tho 1 tZ) ++ iHi) ++ tho 84 tZ) ++ xho 93 iZ) ++ sho 95 iZ tZ) ++ rho 113 iZ)) rfl ?_
  refine z_aload_0 dX6_init_75 ?_
  refine Z.heap (h2 := iH tZ) (by simp only [iH, iC, iO, List.append_assoc]) ?_
  refine z_get (k := 0) dX6_init_76 rfl rfl rfl (by decide) zf_X6_10 zw_in6 ?_
  refine z_first dX6_init_79 zf_X6_51 ?_
  refine z_first dX6_init_82 zf_X6_51 ?_
  refine z_alenF dX6_init_85 ?_
  refine z_iN (T' := (tBuild (tSz tZ 10 (va_cpy FV (tva tZ) 0 0 10)))) (k_buildFV tZ) dX6_init_86 zy_X5_build zm_X6_55 rfl rfl rfl (Nat.le_of_ble_eq_true rfl) (by decide) (by decide) ?_
  refine Z.heap (h2 := iH iT0) rfl ?_
  refine z_aload_0 dX6_init_89 ?_
  refine z_get (k := 0) dX6_init_90 rfl rfl rfl (by decide) zf_X6_10 zw_in6 ?_
  refine z_iconst (v := 1) dX6_init_93 rfl ?_
  refine z_bipush (v := 6) dX6_init_94 rfl ?_
  refine z_iconst (v := 1) dX6_init_96 rfl ?_
  refine z_iconst (v := 2) dX6_init_97 rfl ?_
  refine z_iS (T' := (tUpdate iT0 1 6 1 2).1) (k_update iT0 1 6 1 2) dX6_init_98 zy_X5_update zm_X6_59 rfl rfl rfl rfl (Nat.le_of_ble_eq_true rfl) (by decide) (by decide) ?_
  refine Z.heap (h2 := iH iT1) rfl ?_
  refine z_pop dX6_init_101 rfl ?_
  refine z_aload_0 dX6_init_102 ?_
  refine z_get (k := 0) dX6_init_103 rfl rfl rfl (by decide) zf_X6_10 zw_in6 ?_
  refine z_iconst (v := 3) dX6_init_106 rfl ?_
  refine z_iconst (v := 4) dX6_init_107 rfl ?_
  refine z_iconst (v := 0) dX6_init_108 rfl ?_
  refine z_bipush (v := 8) dX6_init_109 rfl ?_
  refine z_iS (T' := (tUpdate iT1 3 4 0 8).1) (k_update iT1 3 4 0 8) dX6_init_111 zy_X5_update zm_X6_59 rfl rfl rfl rfl (Nat.le_of_ble_eq_true rfl) (by decide) (by decide) ?_
  refine Z.heap (h2 := iH iT2) rfl ?_
  refine z_pop dX6_init_114 rfl ?_
  refine z_aload_0 dX6_init_115 ?_
  refine z_get (k := 0) dX6_init_116 rfl rfl rfl (by decide) zf_X6_10 zw_in6 ?_
  refine z_iconst (v := 0) dX6_init_119 rfl ?_
  refine z_iconst (v := 4) dX6_init_120 rfl ?_
  refine z_iconst (v := (-1)) dX6_init_121 rfl ?_
  refine z_iconst (v := 0) dX6_init_122 rfl ?_
  refine z_iS (T' := (tUpdate iT2 0 4 (-1) 0).1) (k_update iT2 0 4 (-1) 0) dX6_init_123 zy_X5_update zm_X6_59 rfl rfl rfl rfl (Nat.le_of_ble_eq_true rfl) (by decide) (by decide) ?_
  refine Z.heap (h2 := iH iT3) rfl ?_
  refine z_pop dX6_init_126 rfl ?_
  refine z_aload_0 dX6_init_127 ?_
  refine z_get (k := 0) dX6_init_128 rfl rfl rfl (by decide) zf_X6_10 zw_in6 ?_
  refine z_iconst (v := 0) dX6_init_131 rfl ?_
  refine z_bipush (v := 9) dX6_init_132 rfl ?_
  refine z_iconst (v := 1) dX6_init_134 rfl ?_
  refine z_iconst (v := 1) dX6_init_135 rfl ?_
  refine z_iS (T' := (tUpdate iT3 0 9 1 1).1) (k_update iT3 0 9 1 1) dX6_init_136 zy_X5_update zm_X6_59 rfl rfl rfl rfl (Nat.le_of_ble_eq_true rfl) (by decide) (by decide) ?_
  refine Z.heap (h2 := iH iT4) rfl ?_
  refine z_pop dX6_init_139 rfl ?_
  exact z_vret dX6_init_140 rfl rfl rfl
