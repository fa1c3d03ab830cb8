variable {sc : SC}
def tBld (k : Nat) (T : TS) : TS := if tIn T k then tGather T k else tPlant T k
def tFil1 (T : TS) : TS := (tn T, tu T, tp T, ta T, tF T, tL T, tS T, tlo T, thi T, zfl (tfa T) 1 128, tog T, tva T)
def tFil2 (T : TS) : TS := (tn T, tu T, tp T, ta T, tF T, tL T, tS T, tlo T, thi T, tfa T, zfl (tog T) 0 128, tva T)
def tFills (T : TS) : TS := tFil2 (tFil1 T)
def tBuild (T : TS) : TS := zdn tBld 127 (tFills (tLayOut T))
def tSz (T : TS) (c : Nat) (v : Nat → Int32) : TS := (nI c, tu T, tp T, ta T, tF T, tL T, tS T, tlo T, thi T, tfa T, tog T, v)
theorem l_build (rest : List zO) (a1 a2 : Value) (g2 : a2.category = 1) : ∀ (n : Nat) (T : TS), n < 128 → Z sc yX5_build cX5_build 4 none 2 0 0 61 [some (.ref 0), some a1, some a2, some (.int (nI n))] [] (th T ++ rest) (.inl none) (th (zdn tBld n T) ++ rest) := by
  intro n
  induction n with
  | zero =>
    intro T hn
    refine z_iload_3 dX5_build_61 ?_
    refine z_iconst (v := 1) dX5_build_62 rfl ?_
    refine z_icmp_lt_t (tgt := 93) dX5_build_63 (by decide) (by decide) ?_
    exact z_vret dX5_build_93 rfl rfl rfl
  | succ n ih =>
    intro T hn
    refine z_iload_3 dX5_build_61 ?_
    refine z_iconst (v := 1) dX5_build_62 rfl ?_
    refine z_icmp_lt_f 93 dX5_build_63 (by decide) (by first | assumption | (simp (disch := omega) only [Int32.lt_iff_toInt_lt, Int32.le_iff_toInt_le, nI_toInt, Int32.reduceToInt] at *; omega) | (simp (disch := omega) only [Int32.lt_iff_toInt_lt, Int32.le_iff_toInt_le, nI_toInt, Int32.reduceToInt]; omega)) ?_
    refine z_aload_0 dX5_build_66 ?_
    refine z_iload_3 dX5_build_67 ?_
    refine Z.callPs (zRun.V (ρ := fun i => i) (k_isInner' T (n + 1) (by omega) (by omega)) dX5_build_68 zy_X5_isInner zm_X5_65 rfl rfl rfl rfl (Nat.le_of_ble_eq_true rfl) (by decide) (by decide)) (zlen2 9 rfl rfl) ?_
    refine z_if_eq (tgt := 82) dX5_build_71 (by decide) (fun cc => ?_) (fun cc => ?_)
    · refine z_aload_0 dX5_build_82 ?_
      refine z_iload_3 dX5_build_83 ?_
      refine Z.callPn (zRun.V (ρ := fun i => i) (k_plant T (n + 1) (by omega) (by omega)) dX5_build_84 zy_X5_plant zm_X5_73 rfl rfl rfl rfl (Nat.le_of_ble_eq_true rfl) (by decide) (by decide)) (zlen2 9 rfl rfl) ?_
      refine Z.namePT (fun T1 e1 => ?_)
      refine z_iinc_3 (v := nI n) dX5_build_87 (zdec _) (by simp [zok, g2]) (by decide) ?_
      refine z_goto (tgt := 61) dX5_build_90 (by decide) ?_
      have e : tBld (n + 1) T = T1 := by rw [e1]; exact if_neg (zb0 cc)
      rw [zdn, e]
      exact ih T1 (by omega)
    · have h64 : n + 1 < 64 := (zb1 cc).1
      refine z_aload_0 dX5_build_74 ?_
      refine z_iload_3 dX5_build_75 ?_
      refine Z.callPn (zRun.V (ρ := fun i => i) (k_gather T (n + 1) (by omega) (by omega)) dX5_build_76 zy_X5_gather zm_X5_69 rfl rfl rfl rfl (Nat.le_of_ble_eq_true rfl) (by decide) (by decide)) (zlen2 9 rfl rfl) ?_
      refine z_goto (tgt := 87) dX5_build_79 (by decide) ?_
      refine Z.namePT (fun T1 e1 => ?_)
      refine z_iinc_3 (v := nI n) dX5_build_87 (zdec _) (by simp [zok, g2]) (by decide) ?_
      refine z_goto (tgt := 61) dX5_build_90 (by decide) ?_
      have e : tBld (n + 1) T = T1 := by rw [e1]; exact if_pos (zb1 cc)
      rw [zdn, e]
      exact ih T1 (by omega)
theorem l_buildTail (T : TS) (rest : List zO) (a1 a2 : Value) (h1 : a1.category = 1) (h2 : a2.category = 1) : Z sc yX5_build cX5_build 4 none 2 0 0 38 [some (.ref 0), some a1, some a2, none] [] (th T ++ rest) (.inl none) (th (tBuild T) ++ rest) := by
  refine z_aload_0 dX5_build_38 ?_
  refine Z.callPn (zRun.V (ρ := fun i => i) (k_layOut T) dX5_build_39 zy_X5_layOut zm_X5_56 rfl rfl rfl rfl (Nat.le_of_ble_eq_true rfl) (by decide) (by decide)) (zlen2 9 rfl rfl) ?_
  refine Z.namePT (fun T1 e1 => ?_)
  refine z_aload_0 dX5_build_42 ?_
  refine z_get (k := 9) dX5_build_43 rfl rfl rfl (by decide) zf_X5_41 zw_in5 ?_
  refine z_iconst (v := 1) dX5_build_46 rfl ?_
  refine Z.call (zRun.S (ρ := fun i => if i < 1000000 then 6 else i) (k_fill 128 _ _ (by decide)) dX5_build_47 zy_J7_fill_53178 zm_X5_59 rfl rfl (Nat.le_of_ble_eq_true rfl) (by decide) (by decide)) ⟨rfl, trivial⟩ (fun i j hi hj _ => by simp only [List.length_singleton] at hi hj; omega) rfl ?_
  refine Z.heap (h2 := th (tFil1 T1) ++ rest) rfl ?_
  refine Z.namePT (fun T2 e2 => ?_)
  refine z_aload_0 dX5_build_50 ?_
  refine z_get (k := 10) dX5_build_51 rfl rfl rfl (by decide) zf_X5_44 zw_in5 ?_
  refine z_iconst (v := 0) dX5_build_54 rfl ?_
  refine Z.call (zRun.S (ρ := fun i => if i < 1000000 then 7 else i) (k_fill 128 _ _ (by decide)) dX5_build_55 zy_J7_fill_53178 zm_X5_59 rfl rfl (Nat.le_of_ble_eq_true rfl) (by decide) (by decide)) ⟨rfl, trivial⟩ (fun i j hi hj _ => by simp only [List.length_singleton] at hi hj; omega) rfl ?_
  refine Z.heap (h2 := th (tFil2 T2) ++ rest) rfl ?_
  refine Z.namePT (fun T3 e3 => ?_)
  refine z_bipush (v := 127) dX5_build_58 rfl ?_
  refine z_istore_3 dX5_build_60 (by simp [zok, h2]) (by decide) ?_
  rw [tBuild, tFills, ← e1, ← e2, ← e3]
  exact l_build rest _ _ h2 127 T3 (by decide)
theorem zcpy_self (f : Nat → Int32) (n : Nat) : va_cpy f f 0 0 n = f := by
  funext k
  simp only [va_cpy]
  split
  · rw [Nat.zero_add, Nat.sub_zero]
  · rfl
theorem k_build (T : TS) (c : Nat) (h1 : 1 ≤ c) (h2 : c ≤ 40) : zM sc yX5_build cX5_build 4 none 2 0 0 [.ref 0, .ref 8, .int (nI c)] (th T) (.inl none) (th (tBuild (tSz T c (tva T)))) := by
  refine zM.at (ls := [some (.ref 0), some (.ref 8), some (.int (nI c)), none]) zy_X5_build.2.2.2.2.2 (Nat.le_of_ble_eq_true rfl) rfl ?_
  refine z_aload_1 dX5_build_0 ?_
  refine z_ifnull dX5_build_1 ?_
  refine z_iload_2 dX5_build_4 ?_
  refine z_iconst (v := 1) dX5_build_5 rfl ?_
  refine z_icmp_lt_f 21 dX5_build_6 (by decide) (by first | assumption | (simp (disch := omega) only [Int32.lt_iff_toInt_lt, Int32.le_iff_toInt_le, nI_toInt, Int32.reduceToInt] at *; omega) | (simp (disch := omega) only [Int32.lt_iff_toInt_lt, Int32.le_iff_toInt_le, nI_toInt, Int32.reduceToInt]; omega)) ?_
  refine z_iload_2 dX5_build_9 ?_
  refine z_aload_1 dX5_build_10 ?_
  refine z_alen (fun _ => rfl) dX5_build_11 rfl ?_
  show Z sc _ _ _ _ _ _ _ _ _ (.int (nI 40) :: _) _ _ _
  refine z_icmp_gt_f 21 dX5_build_12 (by decide) (by first | assumption | (simp (disch := omega) only [Int32.lt_iff_toInt_lt, Int32.le_iff_toInt_le, nI_toInt, Int32.reduceToInt] at *; omega) | (simp (disch := omega) only [Int32.lt_iff_toInt_lt, Int32.le_iff_toInt_le, nI_toInt, Int32.reduceToInt]; omega)) ?_
  refine z_iload_2 dX5_build_15 ?_
  refine z_bipush (v := 40) dX5_build_16 rfl ?_
  refine z_icmp_le_t (tgt := 22) dX5_build_18 (by decide) (by first | assumption | (simp (disch := omega) only [Int32.lt_iff_toInt_lt, Int32.le_iff_toInt_le, nI_toInt, Int32.reduceToInt] at *; omega) | (simp (disch := omega) only [Int32.lt_iff_toInt_lt, Int32.le_iff_toInt_le, nI_toInt, Int32.reduceToInt]; omega)) ?_
  refine z_aload_0 dX5_build_22 ?_
  refine z_iload_2 dX5_build_23 ?_
  refine z_put (k := 0) (ty := tyX5) dX5_build_24 rfl rfl (by decide) zf_X5_11 zw_in5 tyX5_ok nmX5 rfl (fun _ => ⟨rfl, rfl⟩) (Nat.le_of_ble_eq_true rfl) ?_
  refine z_aload_1 dX5_build_27 ?_
  refine z_iconst (v := 0) dX5_build_28 rfl ?_
  refine z_aload_0 dX5_build_29 ?_
  refine z_get (k := 11) dX5_build_30 rfl rfl rfl (by decide) zf_X5_47 zw_in5 ?_
  refine z_iconst (v := 0) dX5_build_33 rfl ?_
  refine z_iload_2 dX5_build_34 ?_
  refine z_copyi dX5_build_35 zac_l rfl rfl (by decide) (by decide) (by simp (disch := omega) only [Int32.lt_iff_toInt_lt, nI_toInt, Int32.reduceToInt]; omega) (by rw [nI_clamp (by omega)]; show 0 + c ≤ 40; omega) (by rw [nI_clamp (by omega)]; show 0 + c ≤ 40; omega) (by decide) (Nat.le_of_ble_eq_true rfl) ?_
  have e : va_cpy (tva T) (tva T) (0 : Int32).toNatClampNeg (0 : Int32).toNatClampNeg (nI c).toNatClampNeg = tva T := by rw [nI_clamp (by omega)]; exact zcpy_self _ _
  refine Z.heap (h2 := th (tSz T c (va_cpy (tva T) (tva T) (0 : Int32).toNatClampNeg (0 : Int32).toNatClampNeg (nI c).toNatClampNeg)) ++ []) rfl ?_
  rw [e]
  have h9 := l_buildTail (sc := sc) (tSz T c (tva T)) [] (.ref 8) (.int (nI c)) rfl rfl
  rw [List.append_nil] at h9 ⊢
  exact h9
theorem k_extend (T : TS) (m : Nat) (v : Int32) (hm : tn T = nI m) (h2 : m < 40) : zM sc yX5_extend cX5_extend 2 none 3 0 0 [.ref 0, .int v] (th T) (.inl none) (th (tBuild (tSz T (m + 1) (upd (tva T) m v)))) := by
  refine zM.at (ls := [some (.ref 0), some (.int v)]) zy_X5_extend.2.2.2.2.2 (Nat.le_of_ble_eq_true rfl) rfl ?_
  have hn : ∀ x, x = tn T → x = nI m := fun x e => e.trans hm
  refine z_aload_0 dX5_extend_0 ?_
  refine z_get (k := 0) dX5_extend_1 rfl rfl rfl (by decide) zf_X5_11 zw_in5 ?_
  refine z_topi (w := nI m) hm ?_
  refine z_if_lt_f 40 dX5_extend_4 (by decide) (by first | assumption | (simp (disch := omega) only [Int32.lt_iff_toInt_lt, Int32.le_iff_toInt_le, nI_toInt, Int32.reduceToInt] at *; omega) | (simp (disch := omega) only [Int32.lt_iff_toInt_lt, Int32.le_iff_toInt_le, nI_toInt, Int32.reduceToInt]; omega)) ?_
  refine z_aload_0 dX5_extend_7 ?_
  refine z_get (k := 0) dX5_extend_8 rfl rfl rfl (by decide) zf_X5_11 zw_in5 ?_
  refine z_topi (w := nI m) hm ?_
  refine z_bipush (v := 40) dX5_extend_11 rfl ?_
  refine z_icmp_ge_f 40 dX5_extend_13 (by decide) (by first | assumption | (simp (disch := omega) only [Int32.lt_iff_toInt_lt, Int32.le_iff_toInt_le, nI_toInt, Int32.reduceToInt] at *; omega) | (simp (disch := omega) only [Int32.lt_iff_toInt_lt, Int32.le_iff_toInt_le, nI_toInt, Int32.reduceToInt]; omega)) ?_
  refine z_aload_0 dX5_extend_16 ?_
  refine z_get (k := 11) dX5_extend_17 rfl rfl rfl (by decide) zf_X5_47 zw_in5 ?_
  refine z_aload_0 dX5_extend_20 ?_
  refine z_get (k := 0) dX5_extend_21 rfl rfl rfl (by decide) zf_X5_11 zw_in5 ?_
  refine z_topi (w := nI m) hm ?_
  refine z_iload_1 dX5_extend_24 ?_
  refine z_iastN dX5_extend_25 rfl (by omega) (by first | decide | assumption) ?_
  refine Z.heap (h2 := th (tSz T m (upd (tva T) m v))) (by rw [tSz, ← hm]; rfl) ?_
  refine z_aload_0 dX5_extend_26 ?_
  refine z_aload_0 dX5_extend_27 ?_
  refine z_get (k := 11) dX5_extend_28 rfl rfl rfl (by decide) zf_X5_47 zw_in5 ?_
  refine z_aload_0 dX5_extend_31 ?_
  refine z_get (k := 0) dX5_extend_32 rfl rfl rfl (by decide) zf_X5_11 zw_in5 ?_
  refine z_iconst (v := 1) dX5_extend_35 rfl ?_
  refine z_iadd dX5_extend_36 ?_
  refine z_topi (w := nI (m + 1)) (zq1 m) ?_
  refine Z.call0n (zRun.V (ρ := fun i => i) (k_build (tSz T m (upd (tva T) m v)) (m + 1) (by omega) (by omega)) dX5_extend_37 zy_X5_build zm_X5_85 rfl rfl rfl rfl (Nat.le_of_ble_eq_true rfl) (by decide) (by decide)) (zlen2 9 rfl rfl) ?_
  exact z_vret dX5_extend_40 rfl rfl rfl
theorem k_shorten (T : TS) (m : Nat) (hm : tn T = nI (m + 1)) (h1 : 1 ≤ m) (h2 : m < 40) : zM sc yX5_shorten cX5_shorten 1 none 3 0 0 [.ref 0] (th T) (.inl none) (th (tBuild (tSz T m (tva T)))) := by
  refine zM.at (ls := [some (.ref 0)]) zy_X5_shorten.2.2.2.2.2 (Nat.le_of_ble_eq_true rfl) rfl ?_
  refine z_aload_0 dX5_shorten_0 ?_
  refine z_aload_0 dX5_shorten_1 ?_
  refine z_get (k := 11) dX5_shorten_2 rfl rfl rfl (by decide) zf_X5_47 zw_in5 ?_
  refine z_aload_0 dX5_shorten_5 ?_
  refine z_get (k := 0) dX5_shorten_6 rfl rfl rfl (by decide) zf_X5_11 zw_in5 ?_
  refine z_iconst (v := 1) dX5_shorten_9 rfl ?_
  refine z_isub dX5_shorten_10 ?_
  refine z_topi (w := nI m) (by rw [hm]; exact nI_pred m) ?_
  refine Z.call0n (zRun.V (ρ := fun i => i) (k_build T m h1 (by omega)) dX5_shorten_11 zy_X5_build zm_X5_85 rfl rfl rfl rfl (Nat.le_of_ble_eq_true rfl) (by decide) (by decide)) (zlen2 9 rfl rfl) ?_
  exact z_vret dX5_shorten_14 rfl rfl rfl
