variable {sc : SC}

/-- the law's heap behind its beginning, in the order in which it is made -/
noncomputable def LA (n : Nat) (f : Nat → Int32) : List zO := ((((([] : List zO) ++ (iH iT4).map (zren (zs1 0))) ++ (mh mS2).map (zren (zs1 115))) ++ ([.inl (1, 1, .inr (.inl (fun _ => 0)))] : List zO)) ++ ([.inl (2, 1, .inr (.inr (.inr (.inl (fun _ => 0)))))] : List zO))
theorem LA_len (n : Nat) (f : Nat → Int32) : (LA n f).length = 131 := by
  simp only [LA, List.length_append, List.length_map, List.length_cons, List.length_nil, iH_len]
  all_goals rfl
theorem LA_b (n : Nat) (f : Nat → Int32) : zbh 131 (LA n f) := zbh_app (zbh_app (zbh_app (zbh_app (zbh_of rfl) (zbh_ren (m := 115) (by have h9 := iH_b; rw [iH_len] at h9; exact h9) (by decide) (by decide))) (zbh_ren (m := 14) (l := mh mS2) (zbh_of rfl) (by decide) (by decide))) (zbh_of rfl)) (zbh_of rfl)
theorem l_begin (n : Nat) (f : Nat → Int32) {d mc ms : Nat} {r : zR} {h' : List zO} (hd : 23 ≤ d) (hg : h'.length = 131)
    (k : Z (n, f) yL_law cL_law 9 (some .boolean) d mc ms 28 [some (.ref 1000202), some (.ref 0), some (.ref 115), some (.ref 129), some (.ref 130), some (.int 0), none, none, none] [] (LA n f) r h') :
    Z (n, f) yL_law cL_law 9 (some .boolean) d (mc + 1 + 1 + 13 + 1 + 114 + 1) (ms + 1 + 1 + 5539 + 29 + 13269 + 7) 0 [some (.ref 1000202), none, none, none, none, none, none, none, none] [] ([] : List zO) r h' := by
  refine z_mkX6n (h := ([] : List zO)) dL_law_0 dL_law_3 dL_law_4 zcl_L_8 zm_L_161 (by omega) (Nat.le_of_ble_eq_true rfl) (zbh_of rfl) (zbl_of rfl) (zbs_of rfl) (by rw [hg]; exact (show 0 + 115 ≤ 131 by decide)) (show (0 : Nat) < 999000 by decide) ?_
  rw [show ([] : List zO).length = 0 from rfl]
  refine z_astore_1 dL_law_7 rfl (by decide) ?_
  have e2 : (([] : List zO) ++ (iH iT4).map (zren (zs1 0))).length = 115 := by simp only [List.length_append, List.length_map, List.length_cons, List.length_nil, iH_len]; all_goals rfl
  refine z_mkX7n (h := (([] : List zO) ++ (iH iT4).map (zren (zs1 0)))) dL_law_8 dL_law_11 dL_law_12 zcl_L_162 zm_L_164 (by omega) (Nat.le_of_ble_eq_true rfl) (by rw [e2]; exact (zbh_app (zbh_of rfl) (zbh_ren (m := 115) (by have h9 := iH_b; rw [iH_len] at h9; exact h9) (by decide) (by decide)))) (by rw [e2]; exact zbl_of rfl) (by rw [e2]; exact zbs_of rfl) (by rw [e2, hg]; decide) (by rw [e2]; decide) ?_
  rw [e2]
  refine z_astore_2 dL_law_15 rfl (by decide) ?_
  refine z_iconst (v := 1) dL_law_16 rfl ?_
  have e3 : ((([] : List zO) ++ (iH iT4).map (zren (zs1 0))) ++ (mh mS2).map (zren (zs1 115))).length = 129 := by simp only [List.length_append, List.length_map, List.length_cons, List.length_nil, iH_len]; all_goals rfl
  refine z_newa (h := ((([] : List zO) ++ (iH iT4).map (zren (zs1 0))) ++ (mh mS2).map (zren (zs1 115)))) (t := 1) (x := (1, .inr (.inl (fun _ => 0)))) (N := 1) dL_law_17 zar_long rfl (fun _ z => by cases z) (fun _ => rfl) (fun _ => rfl) (fun _ => rfl) (by decide) (by decide) (by decide) (by rw [e3]; exact (zbh_app (zbh_app (zbh_of rfl) (zbh_ren (m := 115) (by have h9 := iH_b; rw [iH_len] at h9; exact h9) (by decide) (by decide))) (zbh_ren (m := 14) (l := mh mS2) (zbh_of rfl) (by decide) (by decide)))) (fun _ => trivial) (by rw [e3]; exact zbl_of rfl) (by rw [e3]; exact zbs_of rfl) (by rw [e3, hg]; decide) (by rw [e3]; decide) ?_
  rw [e3]
  refine z_astore_3 dL_law_19 rfl (by decide) ?_
  refine z_iconst (v := 1) dL_law_20 rfl ?_
  have e4 : (((([] : List zO) ++ (iH iT4).map (zren (zs1 0))) ++ (mh mS2).map (zren (zs1 115))) ++ ([.inl (1, 1, .inr (.inl (fun _ => 0)))] : List zO)).length = 130 := by simp only [List.length_append, List.length_map, List.length_cons, List.length_nil, iH_len]; all_goals rfl
  refine z_newa (h := (((([] : List zO) ++ (iH iT4).map (zren (zs1 0))) ++ (mh mS2).map (zren (zs1 115))) ++ ([.inl (1, 1, .inr (.inl (fun _ => 0)))] : List zO))) (t := 2) (x := (1, .inr (.inr (.inr (.inl (fun _ => 0)))))) (N := 1) dL_law_21 zar_double rfl (fun _ z => by cases z) (fun _ => rfl) (fun _ => rfl) (fun _ => rfl) (by decide) (by decide) (by decide) (by rw [e4]; exact (zbh_app (zbh_app (zbh_app (zbh_of rfl) (zbh_ren (m := 115) (by have h9 := iH_b; rw [iH_len] at h9; exact h9) (by decide) (by decide))) (zbh_ren (m := 14) (l := mh mS2) (zbh_of rfl) (by decide) (by decide))) (zbh_of rfl))) (fun _ => trivial) (by rw [e4]; exact zbl_of rfl) (by rw [e4]; exact zbs_of rfl) (by rw [e4, hg]; decide) (by rw [e4]; decide) ?_
  rw [e4]
  refine z_astore_4 dL_law_23 rfl (by decide) ?_
  refine z_iconst (v := 0) dL_law_25 rfl ?_
  refine z_istore_5 dL_law_26 rfl (by decide) ?_
  exact k
