variable {sc : SC}
/-! ===== a snapshot that isn't there ===== -/
def nseB : ByteArray := prog_27_method_4_code
theorem nse0 : decode nseB 0 = .ok (.aload_n 0, 1) := by decide +kernel
theorem nse1 : decode nseB 1 = .ok (.aload_n 1, 1) := by decide +kernel
theorem nse2 : decode nseB 2 = .ok (.invokespecial 13, 3) := by decide +kernel
theorem nse5 : decode nseB 5 = .ok (.return_, 1) := by decide +kernel
theorem zhatL {L : List Cond} {s : State} {args : Array Value} (hts : ∀ w ∈ zT, w.before args s = true) (hB : ∀ w ∈ zB, va_Nw w s) (h : ∀ w ∈ L, w ∈ zT ∨ w ∈ zB) : ∀ w ∈ L, w.before args s = true := fun w hw => by
  rcases h w hw with h1 | h1
  · exact hts w h1
  · exact va_Nw.use (zBon (List.mem_filter.mp h1).2) (hB w h1)
theorem zgotL {L : List Cond} {own : String} {ik : Nat} {cls : String} (hk : Cond.classLink own ik cls ∈ zT) (hini : Cond.initialized cls ∈ zT) (h : ∀ w ∈ L, w ∈ zT ∨ w ∈ zB) : ∀ w ∈ Cond.classLink own ik cls :: Cond.initialized cls :: L, vx_ot w = true := fun w hw => by
  have ht : ∀ w ∈ zT, vx_ot w = true := fun w hw => by
    have h9 := (List.mem_filter.mp hw).2
    simp [vx_ot, h9]
  rcases List.mem_cons.mp hw with rfl | hw
  · exact ht _ hk
  · rcases List.mem_cons.mp hw with rfl | hw
    · exact ht _ hini
    · rcases h w hw with h1 | h1
      · exact ht _ h1
      · have h9 := zBon (List.mem_filter.mp h1).2
        simp [vx_ot, h9]
section ZTX
variable {y : MethodName} {cc : ByteArray} {nL : Nat} {ret : Option FieldType} {d mc ms pc : Nat} {ls : List (Option Value)} {st : List Value} {h : List zO} {r : zR} {h' : List zO}
theorem z_throwX {cls text : String} {names : List String} {ik is ic i ix : Nat} {rx : ByteArray} {bt : List Int32} (x0 : decode rx 0 = .ok (.aload_n 0, 1)) (x1 : decode rx 1 = .ok (.aload_n 1, 1)) (x2 : decode rx 2 = .ok (.invokespecial ix, 3)) (x5 : decode rx 5 = .ok (.return_, 1)) (hcls : Bundle.fit cls = true) (hnames : ∀ n ∈ names, Bundle.fit n = true) (hn4 : names.length ≤ 4) (hk : Cond.classLink y.cls ik cls ∈ zT) (hini : Cond.initialized cls ∈ zT) (hstr : zStrs[i]? = some (y.cls, is, text, bt)) (hat : ∀ w ∈ (Bundle.ownAtomsX y.cls ic cls ix rx names).filter vx_no, w ∈ zT ∨ w ∈ zB)
    (d0 : decode cc pc = .ok (.new ik, 3)) (d3 : decode cc (pc + 3) = .ok (.dup, 1)) (d4 : decode cc (pc + 4) = .ok (.ldc is, 2)) (d6 : decode cc (pc + 6) = .ok (.invokespecial ic, 3)) (d9 : decode cc (pc + 9) = .ok (.athrow, 1)) (h8 : 8 ≤ d) (hcat : (st.map fun v => v.category).sum ≤ 8) (hmc : 1 ≤ mc) (hms : 6 ≤ ms) (hr : Sum.inr cls = r) (hh : h = h') (hE : zEx y = [] := by decide +kernel) : Z sc y cc nL ret d mc ms pc ls st h r h' := by
  subst hr; subst hh
  intro l p e R s m args below meth cd H locs cells slots tc ts D dA aS ad bs A la C0 hl hP hD hS hA hAb h1 h2 h3 h4 h5 h6
  have hts := C0.2.2.2.2.1
  obtain ⟨k1, k2, k3, k4, k5, k6, k7⟩ := C0.2.2.2.2.2.2.2.2.2
  have e4 : ((st.map (zv ad)).map fun v => v.category) = st.map fun v => v.category := by
    rw [List.map_map]; exact List.map_congr_left (fun v _ => zv_cat ad v)
  exact zx_throwS x0 x1 x2 x5 (text := text) (sa := aS i) C0.1 C0.2.1 k1 C0.2.2.2.1 hcls hnames (hts _ hk) (hts _ hini) (k7.1 i _ hstr).1 (zhatL hts k4 hat) (zgotL hk hini hat) (k5.narrow hAb) (k6.narrow hAb) hS (hl.1.trans C0.2.2.1.symm) d0 d3 d4 d6 d9 (fun x hx => by rw [C0.2.2.2.2.2.2.2.1, hE] at hx; exact nomatch hx) (by omega) (by rw [e4]; omega) (by omega) (by omega) C0.2.2.2.2.2.2.1
    (fun t _ hz hk9 => ⟨rfl, ad, fun i _ => rfl, hP.kept (fun k q hq => hk9 q.1 (hP k q hq).lt), hD, Nat.le_trans hS.1 hz, fun q h1 h2 => by rw [hk9 q (Nat.lt_of_lt_of_le h1 hS.1)]; exact hS.2.1 q h1 h2⟩) hS.2.2 (by omega) (by omega)
end ZTX
theorem zin_N : Cond.initialized "java/util/NoSuchElementException" ∈ zT := zmem 116 (by decide +kernel) (by decide +kernel)
theorem zat_N : ∀ w ∈ (Bundle.ownAtomsX RX6 157 "java/util/NoSuchElementException" 13 nseB zNm).filter vx_no, w ∈ zT ∨ w ∈ zB := zatB (by decide +kernel)
theorem k_c_6_restoreSnapshot_x1 (S : ZS) (X : ZS) (R : ZS) (T : TS) (hs : S.1 0 = 0) : zM sc yX6_restoreSnapshot cX6_restoreSnapshot 1 (some .int) 8 1 6 [.ref 0] (qh S X R T) (.inr "java/util/NoSuchElementException") (qh S X R T) := by
  refine zM.at (ls := [some (.ref 0)]) zy_X6_restoreSnapshot.2.2.2.2.2 (Nat.le_of_ble_eq_true rfl) rfl ?_
  refine z_aload_0 dX6_restoreSnapshot_0 ?_
  refine z_get (k := 3) (v := .int (S.1 0)) dX6_restoreSnapshot_1 rfl rfl rfl (by decide) zf_X6_26 zw_in6 ?_
  refine z_if_ne_f 17 dX6_restoreSnapshot_4 (by decide) hs ?_
  exact z_throwX (i := 18) nse0 nse1 nse2 nse5 (by decide +kernel) zNm_fit (by decide) zcl_X6_153 zin_N rfl zat_N dX6_restoreSnapshot_7 dX6_restoreSnapshot_10 dX6_restoreSnapshot_11 dX6_restoreSnapshot_13 dX6_restoreSnapshot_16 (by decide) (by decide) (by decide) (by decide) rfl rfl
theorem k_L_restoreSnapshot_x1 (S : ZS) (X : ZS) (R : ZS) (T : TS) (hs : S.1 0 = 0) (P : ZS) (TU : TS) (q : Nat) (G : Nat → TS) (TN : TS) (fo : Nat → Int64) : zMW sc yL_restoreSnapshot cL_restoreSnapshot 3 (some .int) 10 1 6 [.ref 0, .ref 115] (WL S X R T P TU q G TN fo) (some (.int 1)) (WL S X R T P TU q G TN fo) := by
  refine zMW.at (ls := [some (.ref 0), some (.ref 115), none]) (by decide +kernel) (Nat.le_of_ble_eq_true rfl) rfl ?_
  refine z_aload_1 dL_restoreSnapshot_0 ?_
  refine z_iconst (v := 0) dL_restoreSnapshot_1 rfl ?_
  refine z_aload_0 dL_restoreSnapshot_2 ?_
  refine WL_catch [] ⟨0, 8, 11, 44⟩ [] (zRun.V (ρ := fun i => i) (k_c_6_restoreSnapshot_x1 S X R T hs) dL_restoreSnapshot_3 zy_X6_restoreSnapshot zm_L_41 rfl rfl rfl rfl (Nat.le_of_ble_eq_true rfl) (by decide) (by decide)) (T9 := [(0, 8, 11, 44)]) (by decide +kernel) rfl ?_ (by decide) (by decide) zcl_L_44 zca_N (zbl_of rfl) ?_
  · exact fun z hz => absurd hz (List.not_mem_nil)
  show Z sc _ _ _ _ _ 0 0 11 _ _ _ _ _
  refine z_astore_2 dL_restoreSnapshot_11 rfl (by decide) ?_
  refine z_iconst (v := 1) dL_restoreSnapshot_12 rfl ?_
  exact z_iret dL_restoreSnapshot_13 rfl rfl rfl rfl
theorem hNo_all (n : Nat) (f : Nat → Int32) (S X R : ZS) (T : TS) (P : ZS) (TU : TS) (q : Nat) (G : Nat → TS) (TN : TS) (fl : Nat → Int64) : hNo n f S X R T P TU q G TN fl := fun hs => k_L_restoreSnapshot_x1 S X R T hs P TU q G TN fl
