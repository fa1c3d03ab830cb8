variable {sc : SC}

noncomputable def s_m_add_1 (n : Nat) (p : Nat) (f : Nat) (t : Nat) (v : Int32) (S : ZS) : ZS := (g_m_remember p ((g_m_updates n f t (1) (v) (g_m_begins (sI 15 (0) (g_m_grows n S)))).1) ((g_m_updates n f t (1) (v) (g_m_begins (sI 15 (0) (g_m_grows n S)))).2)).2
noncomputable def g_m_add (n : Nat) (p : Nat) (f : Nat) (t : Nat) (v : Int32) (S : ZS) : Int32 × ZS := ((g_m_remember p ((g_m_updates n f t (1) (v) (g_m_begins (sI 15 (0) (g_m_grows n S)))).1) ((g_m_updates n f t (1) (v) (g_m_begins (sI 15 (0) (g_m_grows n S)))).2)).1, (s_m_add_1 n p f t v S))
theorem k_m_add (n : Nat) (p : Nat) (f : Nat) (t : Nat) (v : Int32) (S : ZS) (h1 : 1 ≤ n) (h40 : n ≤ 40) (hft : f ≤ t) (ht : t < n) (hO : mOK n S) (hv : g_m_isValue v = true) (hp5 : S.1 5 = nI p) (hp8 : p ≤ 8) (hfit : (g_m_fits n f t v S).1 = true) : zM sc yX7_add cX7_add 6 (some .int) 12 0 0 [.ref 0, .int (nI (f)), .int (nI (t)), .int (v)] (mh S) (.inl (some (.int (g_m_add n p f t v S).1))) (mh (g_m_add n p f t v S).2) := by
  refine zM.at (ls := [some (.ref 0), some (.int (nI (f))), some (.int (nI (t))), some (.int (v)), none, none]) zy_X7_add.2.2.2.2.2 (Nat.le_of_ble_eq_true rfl) rfl ?_
  refine z_aload_0 dX7_add_0 ?_
  refine z_iload_1 dX7_add_1 ?_
  refine z_iload_2 dX7_add_2 ?_
  refine Z.call0s (zRun.V (ρ := fun i => i) (k_m_isNone (nI (f)) (nI (t)) S ) dX7_add_3 zy_X7_isNone zm_X7_75 rfl rfl rfl rfl (Nat.le_of_ble_eq_true rfl) (by decide) (by decide)) (zlen2 14 rfl rfl) ?_
  refine z_topi (w := 0) (by rw [isNone_ok h1 h40 hO.1 hft ht]; rfl) ?_
  refine z_istore_4 dX7_add_6 rfl (by decide) ?_
  refine z_iload_2 dX7_add_8 ?_
  refine z_iload_1 dX7_add_9 ?_
  refine z_icmpN_lt_f (tgt := 20) dX7_add_10 (by decide) (x := t) (z := f) (by first | omega | assumption) (by first | omega | assumption) (by omega) ?_
  refine z_iload_3 dX7_add_13 ?_
  refine Z.callE (zRun.S (ρ := fun i => i) (k_m_isValue (v) ) dX7_add_14 zy_X7_isValue zm_X7_295 rfl rfl (Nat.le_of_ble_eq_true rfl) (by decide) (by decide)) ?_
  refine z_topi (w := 1) (by rw [hv]; rfl) ?_
  refine z_if_ne_t (tgt := 24) dX7_add_17 (by decide) (by decide) ?_
  refine z_iconst (v := 0) dX7_add_24 rfl ?_
  refine z_istore_5 dX7_add_25 rfl (by decide) ?_
  refine z_aload_0 dX7_add_27 ?_
  refine z_iload_4 dX7_add_28 ?_
  refine z_iload_5 dX7_add_30 ?_
  refine z_iload_4 dX7_add_32 ?_
  refine z_if_ne_f (tgt := 56) dX7_add_34 (by decide) (by decide) ?_
  refine z_iload_5 dX7_add_37 ?_
  refine z_if_ne_f (tgt := 56) dX7_add_39 (by decide) (by decide) ?_
  refine z_aload_0 dX7_add_42 ?_
  refine z_iload_1 dX7_add_43 ?_
  refine z_iload_2 dX7_add_44 ?_
  refine z_iload_3 dX7_add_45 ?_
  refine Z.call0s (zRun.V (ρ := fun i => i) (k_m_fits n f t (v) S h1 h40 hft ht hO) dX7_add_46 zy_X7_fits zm_X7_207 rfl rfl rfl rfl (Nat.le_of_ble_eq_true rfl) (by decide) (by decide)) (zlen2 14 rfl rfl) ?_
  refine z_topi (w := 1) (by rw [hfit]; rfl) ?_
  refine Z.heap (h2 := mh (g_m_grows n S)) (by rw [fits_2]) ?_
  refine z_if_ne_t (tgt := 56) dX7_add_49 (by decide) (by decide) ?_
  refine z_iconst (v := 0) dX7_add_56 rfl ?_
  refine Z.call0s (zRun.V (ρ := fun i => i) (k_m_throwsOne__ (false) (false) (false) (g_m_grows n S) ) dX7_add_57 zy_X7_throwsOne__ zm_X7_298 rfl rfl rfl rfl (Nat.le_of_ble_eq_true rfl) (by decide) (by decide)) (zlen2 14 rfl rfl) ?_
  refine Z.heap (h2 := mh (sI 15 (0) (g_m_grows n S))) rfl ?_
  refine z_topi (w := 0) rfl ?_
  refine z_if_eq_t (tgt := 65) dX7_add_60 (by decide) (by decide) ?_
  refine z_aload_0 dX7_add_65 ?_
  refine Z.call0n (zRun.V (ρ := fun i => i) (k_m_begins (sI 15 (0) (g_m_grows n S)) ) dX7_add_66 zy_X7_begins zm_X7_289 rfl rfl rfl rfl (Nat.le_of_ble_eq_true rfl) (by decide) (by decide)) (zlen2 14 rfl rfl) ?_
  refine z_aload_0 dX7_add_69 ?_
  refine z_aload_0 dX7_add_70 ?_
  refine z_iload_1 dX7_add_71 ?_
  refine z_iload_2 dX7_add_72 ?_
  refine z_iconst (v := 1) dX7_add_73 rfl ?_
  refine z_iload_3 dX7_add_74 ?_
  refine Z.call0s (zRun.V (ρ := fun i => i) (k_m_updates n f t (1) (v) (g_m_begins (sI 15 (0) (g_m_grows n S))) h1 h40 hft ht (begins_ok ((mGr_of h1 h40 hO).ok.sI (by decide)))) dX7_add_75 zy_X7_updates zm_X7_116 rfl rfl rfl rfl (Nat.le_of_ble_eq_true rfl) (by decide) (by decide)) (zlen2 14 rfl rfl) ?_
  refine Z.call0s (zRun.V (ρ := fun i => i) (k_m_remember p ((g_m_updates n f t (1) (v) (g_m_begins (sI 15 (0) (g_m_grows n S)))).1) ((g_m_updates n f t (1) (v) (g_m_begins (sI 15 (0) (g_m_grows n S)))).2) (((upd_keep h1 h40 (begins_ok ((mGr_of h1 h40 hO).ok.sI (by decide)))).1.1 5 (by decide) (by decide) (by decide)).trans ((begins_5 _).trans (((uF_grows S h1 h40).1 5 (by decide) (by decide) (by decide)).trans hp5))) hp8) dX7_add_78 zy_X7_remember zm_X7_292 rfl rfl rfl rfl (Nat.le_of_ble_eq_true rfl) (by decide) (by decide)) (zlen2 14 rfl rfl) ?_
  rw [g_m_add]
  try dsimp only
  exact z_iret dX7_add_81 rfl (zint _) rfl rfl
noncomputable def g_m_add_x4 (n : Nat) (_f : Nat) (_t : Nat) (_v : Int32) (S : ZS) : Int32 × ZS := (0, (sI 15 (3) (g_m_grows n S)))
theorem k_m_add_x4 (n : Nat) (f : Nat) (t : Nat) (v : Int32) (S : ZS) (h1 : 1 ≤ n) (h40 : n ≤ 40) (hft : f ≤ t) (ht : t < n) (hO : mOK n S) (hv : g_m_isValue v = true) (hfit : (g_m_fits n f t v S).1 = false) : zM sc yX7_add cX7_add 6 (some .int) 4 0 0 [.ref 0, .int (nI (f)), .int (nI (t)), .int (v)] (mh S) (.inl (some (.int (g_m_add_x4 n f t v S).1))) (mh (g_m_add_x4 n f t v S).2) := by
  refine zM.at (ls := [some (.ref 0), some (.int (nI (f))), some (.int (nI (t))), some (.int (v)), none, none]) zy_X7_add.2.2.2.2.2 (Nat.le_of_ble_eq_true rfl) rfl ?_
  refine z_aload_0 dX7_add_0 ?_
  refine z_iload_1 dX7_add_1 ?_
  refine z_iload_2 dX7_add_2 ?_
  refine Z.call0s (zRun.V (ρ := fun i => i) (k_m_isNone (nI (f)) (nI (t)) S ) dX7_add_3 zy_X7_isNone zm_X7_75 rfl rfl rfl rfl (Nat.le_of_ble_eq_true rfl) (by decide) (by decide)) (zlen2 14 rfl rfl) ?_
  refine z_topi (w := 0) (by rw [isNone_ok h1 h40 hO.1 hft ht]; rfl) ?_
  refine z_istore_4 dX7_add_6 rfl (by decide) ?_
  refine z_iload_2 dX7_add_8 ?_
  refine z_iload_1 dX7_add_9 ?_
  refine z_icmpN_lt_f (tgt := 20) dX7_add_10 (by decide) (x := t) (z := f) (by first | omega | assumption) (by first | omega | assumption) (by omega) ?_
  refine z_iload_3 dX7_add_13 ?_
  refine Z.callE (zRun.S (ρ := fun i => i) (k_m_isValue (v) ) dX7_add_14 zy_X7_isValue zm_X7_295 rfl rfl (Nat.le_of_ble_eq_true rfl) (by decide) (by decide)) ?_
  refine z_topi (w := 1) (by rw [hv]; rfl) ?_
  refine z_if_ne_t (tgt := 24) dX7_add_17 (by decide) (by decide) ?_
  refine z_iconst (v := 0) dX7_add_24 rfl ?_
  refine z_istore_5 dX7_add_25 rfl (by decide) ?_
  refine z_aload_0 dX7_add_27 ?_
  refine z_iload_4 dX7_add_28 ?_
  refine z_iload_5 dX7_add_30 ?_
  refine z_iload_4 dX7_add_32 ?_
  refine z_if_ne_f (tgt := 56) dX7_add_34 (by decide) (by decide) ?_
  refine z_iload_5 dX7_add_37 ?_
  refine z_if_ne_f (tgt := 56) dX7_add_39 (by decide) (by decide) ?_
  refine z_aload_0 dX7_add_42 ?_
  refine z_iload_1 dX7_add_43 ?_
  refine z_iload_2 dX7_add_44 ?_
  refine z_iload_3 dX7_add_45 ?_
  refine Z.call0s (zRun.V (ρ := fun i => i) (k_m_fits n f t (v) S h1 h40 hft ht hO) dX7_add_46 zy_X7_fits zm_X7_207 rfl rfl rfl rfl (Nat.le_of_ble_eq_true rfl) (by decide) (by decide)) (zlen2 14 rfl rfl) ?_
  refine z_topi (w := 0) (by rw [hfit]; rfl) ?_
  refine Z.heap (h2 := mh (g_m_grows n S)) (by rw [fits_2]) ?_
  refine z_if_ne_f (tgt := 56) dX7_add_49 (by decide) (by decide) ?_
  refine z_iconst (v := 1) dX7_add_52 rfl ?_
  refine z_goto (tgt := 57) dX7_add_53 (by decide) ?_
  refine Z.call0s (zRun.V (ρ := fun i => i) (k_m_throwsOne__ (false) (false) (true) (g_m_grows n S) ) dX7_add_57 zy_X7_throwsOne__ zm_X7_298 rfl rfl rfl rfl (Nat.le_of_ble_eq_true rfl) (by decide) (by decide)) (zlen2 14 rfl rfl) ?_
  refine Z.heap (h2 := mh (sI 15 (3) (g_m_grows n S))) rfl ?_
  refine z_topi (w := 1) rfl ?_
  refine z_if_eq_f (tgt := 65) dX7_add_60 (by decide) (by decide) ?_
  refine z_iconst (v := 0) dX7_add_63 rfl ?_
  rw [g_m_add_x4]
  try dsimp only
  exact z_iret dX7_add_64 rfl (zint _) rfl rfl
noncomputable def g_m_add_x1 (x : Int32) (z : Int32) (v : Int32) (S : ZS) : Int32 × ZS := (if z < x then (0, (sI 15 (1) S)) else (if ((g_m_isValue (v))) = true then (0, (sI 15 (1) S)) else (0, (sI 15 (1) S))))
theorem k_m_add_x1 (x : Int32) (z : Int32) (v : Int32) (S : ZS) (hx : g_m_isNone x z S = true) : zM sc yX7_add cX7_add 6 (some .int) 3 0 0 [.ref 0, .int (x), .int (z), .int (v)] (mh S) (.inl (some (.int (g_m_add_x1 x z v S).1))) (mh (g_m_add_x1 x z v S).2) := by
  refine zM.at (ls := [some (.ref 0), some (.int (x)), some (.int (z)), some (.int (v)), none, none]) zy_X7_add.2.2.2.2.2 (Nat.le_of_ble_eq_true rfl) rfl ?_
  refine z_aload_0 dX7_add_0 ?_
  refine z_iload_1 dX7_add_1 ?_
  refine z_iload_2 dX7_add_2 ?_
  refine Z.call0s (zRun.V (ρ := fun i => i) (k_m_isNone (x) (z) S ) dX7_add_3 zy_X7_isNone zm_X7_75 rfl rfl rfl rfl (Nat.le_of_ble_eq_true rfl) (by decide) (by decide)) (zlen2 14 rfl rfl) ?_
  refine z_topi (w := 1) (by rw [hx]; rfl) ?_
  refine z_istore_4 dX7_add_6 rfl (by decide) ?_
  refine z_iload_2 dX7_add_8 ?_
  refine z_iload_1 dX7_add_9 ?_
  refine z_icmp_lt (tgt := 20) dX7_add_10 (by decide) (fun c10 => ?_) (fun c10 => ?_)
  · refine z_iconst (v := 1) dX7_add_20 rfl ?_
    refine z_goto (tgt := 25) dX7_add_21 (by decide) ?_
    refine z_istore_5 dX7_add_25 rfl (by decide) ?_
    refine z_aload_0 dX7_add_27 ?_
    refine z_iload_4 dX7_add_28 ?_
    refine z_iload_5 dX7_add_30 ?_
    refine z_iload_4 dX7_add_32 ?_
    refine z_if_ne_t (tgt := 56) dX7_add_34 (by decide) (by decide) ?_
    refine z_iconst (v := 0) dX7_add_56 rfl ?_
    refine Z.call0s (zRun.V (ρ := fun i => i) (k_m_throwsOne__ (true) (true) (false) S ) dX7_add_57 zy_X7_throwsOne__ zm_X7_298 rfl rfl rfl rfl (Nat.le_of_ble_eq_true rfl) (by decide) (by decide)) (zlen2 14 rfl rfl) ?_
    refine Z.heap (h2 := mh (sI 15 (1) S)) rfl ?_
    refine z_topi (w := 1) rfl ?_
    refine z_if_eq_f (tgt := 65) dX7_add_60 (by decide) (by decide) ?_
    refine z_iconst (v := 0) dX7_add_63 rfl ?_
    rw [g_m_add_x1, if_pos c10]
    try dsimp only
    exact z_iret dX7_add_64 rfl (zint _) rfl rfl
  · refine z_iload_3 dX7_add_13 ?_
    refine Z.callE (zRun.S (ρ := fun i => i) (k_m_isValue (v) ) dX7_add_14 zy_X7_isValue zm_X7_295 rfl rfl (Nat.le_of_ble_eq_true rfl) (by decide) (by decide)) ?_
    refine z_ifB_ne (tgt := 24) dX7_add_17 (by decide) (fun c17 => ?_) (fun c17 => ?_)
    · refine z_iconst (v := 0) dX7_add_24 rfl ?_
      refine z_istore_5 dX7_add_25 rfl (by decide) ?_
      refine z_aload_0 dX7_add_27 ?_
      refine z_iload_4 dX7_add_28 ?_
      refine z_iload_5 dX7_add_30 ?_
      refine z_iload_4 dX7_add_32 ?_
      refine z_if_ne_t (tgt := 56) dX7_add_34 (by decide) (by decide) ?_
      refine z_iconst (v := 0) dX7_add_56 rfl ?_
      refine Z.call0s (zRun.V (ρ := fun i => i) (k_m_throwsOne__ (true) (false) (false) S ) dX7_add_57 zy_X7_throwsOne__ zm_X7_298 rfl rfl rfl rfl (Nat.le_of_ble_eq_true rfl) (by decide) (by decide)) (zlen2 14 rfl rfl) ?_
      refine Z.heap (h2 := mh (sI 15 (1) S)) rfl ?_
      refine z_topi (w := 1) rfl ?_
      refine z_if_eq_f (tgt := 65) dX7_add_60 (by decide) (by decide) ?_
      refine z_iconst (v := 0) dX7_add_63 rfl ?_
      rw [g_m_add_x1, if_neg c10, if_pos c17]
      try dsimp only
      exact z_iret dX7_add_64 rfl (zint _) rfl rfl
    · refine z_iconst (v := 1) dX7_add_20 rfl ?_
      refine z_goto (tgt := 25) dX7_add_21 (by decide) ?_
      refine z_istore_5 dX7_add_25 rfl (by decide) ?_
      refine z_aload_0 dX7_add_27 ?_
      refine z_iload_4 dX7_add_28 ?_
      refine z_iload_5 dX7_add_30 ?_
      refine z_iload_4 dX7_add_32 ?_
      refine z_if_ne_t (tgt := 56) dX7_add_34 (by decide) (by decide) ?_
      refine z_iconst (v := 0) dX7_add_56 rfl ?_
      refine Z.call0s (zRun.V (ρ := fun i => i) (k_m_throwsOne__ (true) (true) (false) S ) dX7_add_57 zy_X7_throwsOne__ zm_X7_298 rfl rfl rfl rfl (Nat.le_of_ble_eq_true rfl) (by decide) (by decide)) (zlen2 14 rfl rfl) ?_
      refine Z.heap (h2 := mh (sI 15 (1) S)) rfl ?_
      refine z_topi (w := 1) rfl ?_
      refine z_if_eq_f (tgt := 65) dX7_add_60 (by decide) (by decide) ?_
      refine z_iconst (v := 0) dX7_add_63 rfl ?_
      rw [g_m_add_x1, if_neg c10, if_neg c17]
      try dsimp only
      exact z_iret dX7_add_64 rfl (zint _) rfl rfl
noncomputable def g_m_add_x2 (_x : Int32) (_z : Int32) (_v : Int32) (S : ZS) : Int32 × ZS := (0, (sI 15 (2) S))
theorem k_m_add_x2 (x : Int32) (z : Int32) (v : Int32) (S : ZS) (hx : g_m_isNone x z S = false) (hz : z < x) : zM sc yX7_add cX7_add 6 (some .int) 3 0 0 [.ref 0, .int (x), .int (z), .int (v)] (mh S) (.inl (some (.int (g_m_add_x2 x z v S).1))) (mh (g_m_add_x2 x z v S).2) := by
  refine zM.at (ls := [some (.ref 0), some (.int (x)), some (.int (z)), some (.int (v)), none, none]) zy_X7_add.2.2.2.2.2 (Nat.le_of_ble_eq_true rfl) rfl ?_
  refine z_aload_0 dX7_add_0 ?_
  refine z_iload_1 dX7_add_1 ?_
  refine z_iload_2 dX7_add_2 ?_
  refine Z.call0s (zRun.V (ρ := fun i => i) (k_m_isNone (x) (z) S ) dX7_add_3 zy_X7_isNone zm_X7_75 rfl rfl rfl rfl (Nat.le_of_ble_eq_true rfl) (by decide) (by decide)) (zlen2 14 rfl rfl) ?_
  refine z_topi (w := 0) (by rw [hx]; rfl) ?_
  refine z_istore_4 dX7_add_6 rfl (by decide) ?_
  refine z_iload_2 dX7_add_8 ?_
  refine z_iload_1 dX7_add_9 ?_
  refine z_icmp_lt_t (tgt := 20) dX7_add_10 (by decide) hz ?_
  refine z_iconst (v := 1) dX7_add_20 rfl ?_
  refine z_goto (tgt := 25) dX7_add_21 (by decide) ?_
  refine z_istore_5 dX7_add_25 rfl (by decide) ?_
  refine z_aload_0 dX7_add_27 ?_
  refine z_iload_4 dX7_add_28 ?_
  refine z_iload_5 dX7_add_30 ?_
  refine z_iload_4 dX7_add_32 ?_
  refine z_if_ne_f (tgt := 56) dX7_add_34 (by decide) (by decide) ?_
  refine z_iload_5 dX7_add_37 ?_
  refine z_if_ne_t (tgt := 56) dX7_add_39 (by decide) (by decide) ?_
  refine z_iconst (v := 0) dX7_add_56 rfl ?_
  refine Z.call0s (zRun.V (ρ := fun i => i) (k_m_throwsOne__ (false) (true) (false) S ) dX7_add_57 zy_X7_throwsOne__ zm_X7_298 rfl rfl rfl rfl (Nat.le_of_ble_eq_true rfl) (by decide) (by decide)) (zlen2 14 rfl rfl) ?_
  refine Z.heap (h2 := mh (sI 15 (2) S)) rfl ?_
  refine z_topi (w := 1) rfl ?_
  refine z_if_eq_f (tgt := 65) dX7_add_60 (by decide) (by decide) ?_
  refine z_iconst (v := 0) dX7_add_63 rfl ?_
  rw [g_m_add_x2]
  try dsimp only
  exact z_iret dX7_add_64 rfl (zint _) rfl rfl
noncomputable def g_m_add_x3 (_x : Int32) (_z : Int32) (_v : Int32) (S : ZS) : Int32 × ZS := (0, (sI 15 (2) S))
theorem k_m_add_x3 (x : Int32) (z : Int32) (v : Int32) (S : ZS) (hx : g_m_isNone x z S = false) (hz : ¬ z < x) (hv : g_m_isValue v = false) : zM sc yX7_add cX7_add 6 (some .int) 3 0 0 [.ref 0, .int (x), .int (z), .int (v)] (mh S) (.inl (some (.int (g_m_add_x3 x z v S).1))) (mh (g_m_add_x3 x z v S).2) := by
  refine zM.at (ls := [some (.ref 0), some (.int (x)), some (.int (z)), some (.int (v)), none, none]) zy_X7_add.2.2.2.2.2 (Nat.le_of_ble_eq_true rfl) rfl ?_
  refine z_aload_0 dX7_add_0 ?_
  refine z_iload_1 dX7_add_1 ?_
  refine z_iload_2 dX7_add_2 ?_
  refine Z.call0s (zRun.V (ρ := fun i => i) (k_m_isNone (x) (z) S ) dX7_add_3 zy_X7_isNone zm_X7_75 rfl rfl rfl rfl (Nat.le_of_ble_eq_true rfl) (by decide) (by decide)) (zlen2 14 rfl rfl) ?_
  refine z_topi (w := 0) (by rw [hx]; rfl) ?_
  refine z_istore_4 dX7_add_6 rfl (by decide) ?_
  refine z_iload_2 dX7_add_8 ?_
  refine z_iload_1 dX7_add_9 ?_
  refine z_icmp_lt_f (tgt := 20) dX7_add_10 (by decide) hz ?_
  refine z_iload_3 dX7_add_13 ?_
  refine Z.callE (zRun.S (ρ := fun i => i) (k_m_isValue (v) ) dX7_add_14 zy_X7_isValue zm_X7_295 rfl rfl (Nat.le_of_ble_eq_true rfl) (by decide) (by decide)) ?_
  refine z_topi (w := 0) (by rw [hv]; rfl) ?_
  refine z_if_ne_f (tgt := 24) dX7_add_17 (by decide) (by decide) ?_
  refine z_iconst (v := 1) dX7_add_20 rfl ?_
  refine z_goto (tgt := 25) dX7_add_21 (by decide) ?_
  refine z_istore_5 dX7_add_25 rfl (by decide) ?_
  refine z_aload_0 dX7_add_27 ?_
  refine z_iload_4 dX7_add_28 ?_
  refine z_iload_5 dX7_add_30 ?_
  refine z_iload_4 dX7_add_32 ?_
  refine z_if_ne_f (tgt := 56) dX7_add_34 (by decide) (by decide) ?_
  refine z_iload_5 dX7_add_37 ?_
  refine z_if_ne_t (tgt := 56) dX7_add_39 (by decide) (by decide) ?_
  refine z_iconst (v := 0) dX7_add_56 rfl ?_
  refine Z.call0s (zRun.V (ρ := fun i => i) (k_m_throwsOne__ (false) (true) (false) S ) dX7_add_57 zy_X7_throwsOne__ zm_X7_298 rfl rfl rfl rfl (Nat.le_of_ble_eq_true rfl) (by decide) (by decide)) (zlen2 14 rfl rfl) ?_
  refine Z.heap (h2 := mh (sI 15 (2) S)) rfl ?_
  refine z_topi (w := 1) rfl ?_
  refine z_if_eq_f (tgt := 65) dX7_add_60 (by decide) (by decide) ?_
  refine z_iconst (v := 0) dX7_add_63 rfl ?_
  rw [g_m_add_x3]
  try dsimp only
  exact z_iret dX7_add_64 rfl (zint _) rfl rfl
noncomputable def g_m_pushDown (n : Nat) (p : Nat) (k : Nat) (S : ZS) : Bool × ZS := (if ((g_m_pushes n k (g_m_begins (sI 15 (0) (g_m_grows n S)))).1) = true then (if (g_m_remember p (1) ((g_m_pushes n k (g_m_begins (sI 15 (0) (g_m_grows n S)))).2)).1 = 1 then (true, (g_m_remember p (1) ((g_m_pushes n k (g_m_begins (sI 15 (0) (g_m_grows n S)))).2)).2) else (false, (g_m_remember p (1) ((g_m_pushes n k (g_m_begins (sI 15 (0) (g_m_grows n S)))).2)).2)) else (if (g_m_remember p (0) ((g_m_pushes n k (g_m_begins (sI 15 (0) (g_m_grows n S)))).2)).1 = 1 then (true, (g_m_remember p (0) ((g_m_pushes n k (g_m_begins (sI 15 (0) (g_m_grows n S)))).2)).2) else (false, (g_m_remember p (0) ((g_m_pushes n k (g_m_begins (sI 15 (0) (g_m_grows n S)))).2)).2)))
theorem k_m_pushDown (n : Nat) (p : Nat) (k : Nat) (S : ZS) (h1 : 1 ≤ n) (h40 : n ≤ 40) (k1 : 1 ≤ k) (k2 : k < 128) (hw : (gp n k).1 + 2 ≤ (gp n k).2) (hO : mOK n S) (hp5 : S.1 5 = nI p) (hp8 : p ≤ 8) : zM sc yX7_pushDown cX7_pushDown 3 (some .boolean) 3 0 0 [.ref 0, .int (nI (k))] (mh S) (.inl (some (.int (zb (g_m_pushDown n p k S).1)))) (mh (g_m_pushDown n p k S).2) := by
  refine zM.at (ls := [some (.ref 0), some (.int (nI (k))), none]) zy_X7_pushDown.2.2.2.2.2 (Nat.le_of_ble_eq_true rfl) rfl ?_
  refine z_aload_0 dX7_pushDown_0 ?_
  refine z_iload_1 dX7_pushDown_1 ?_
  refine Z.call0s (zRun.V (ρ := fun i => i) (k_m_isNode n k S h1 h40 k1 k2 hO) dX7_pushDown_2 zy_X7_isNode zm_X7_210 rfl rfl rfl rfl (Nat.le_of_ble_eq_true rfl) (by decide) (by decide)) (zlen2 14 rfl rfl) ?_
  refine z_topi (w := 1) (by rw [isNode_eq h40, decide_eq_true (by omega)]; rfl) ?_
  refine Z.heap (h2 := mh (g_m_grows n S)) (by rw [isNode_2]) ?_
  refine z_istore_2 dX7_pushDown_5 rfl (by decide) ?_
  refine z_aload_0 dX7_pushDown_6 ?_
  refine z_iload_2 dX7_pushDown_7 ?_
  refine z_if_ne_t (tgt := 15) dX7_pushDown_8 (by decide) (by decide) ?_
  refine z_iconst (v := 0) dX7_pushDown_15 rfl ?_
  refine z_iload_2 dX7_pushDown_16 ?_
  refine z_if_eq_f (tgt := 32) dX7_pushDown_17 (by decide) (by decide) ?_
  refine z_aload_0 dX7_pushDown_20 ?_
  refine z_iload_1 dX7_pushDown_21 ?_
  refine Z.call0s (zRun.V (ρ := fun i => i) (k_m_ends n k (g_m_grows n S) k1 k2 (mGr_of h1 h40 hO)) dX7_pushDown_22 zy_X7_ends zm_X7_93 rfl rfl rfl rfl (Nat.le_of_ble_eq_true rfl) (by decide) (by decide)) (zlen2 14 rfl rfl) ?_
  refine z_topi (w := 0) (by rw [ends_eq h40, decide_eq_false (by omega)]; rfl) ?_
  refine z_if_eq_t (tgt := 32) dX7_pushDown_25 (by decide) (by decide) ?_
  refine z_iconst (v := 0) dX7_pushDown_32 rfl ?_
  refine Z.call0s (zRun.V (ρ := fun i => i) (k_m_throwsOne_ (false) (false) (g_m_grows n S) ) dX7_pushDown_33 zy_X7_throwsOne_ zm_X7_79 rfl rfl rfl rfl (Nat.le_of_ble_eq_true rfl) (by decide) (by decide)) (zlen2 14 rfl rfl) ?_
  refine Z.heap (h2 := mh (sI 15 (0) (g_m_grows n S))) rfl ?_
  refine z_topi (w := 0) rfl ?_
  refine z_if_eq_t (tgt := 41) dX7_pushDown_36 (by decide) (by decide) ?_
  refine z_aload_0 dX7_pushDown_41 ?_
  refine Z.call0n (zRun.V (ρ := fun i => i) (k_m_begins (sI 15 (0) (g_m_grows n S)) ) dX7_pushDown_42 zy_X7_begins zm_X7_289 rfl rfl rfl rfl (Nat.le_of_ble_eq_true rfl) (by decide) (by decide)) (zlen2 14 rfl rfl) ?_
  refine z_aload_0 dX7_pushDown_45 ?_
  refine z_aload_0 dX7_pushDown_46 ?_
  refine z_iload_1 dX7_pushDown_47 ?_
  refine Z.call0s (zRun.V (ρ := fun i => i) (k_m_pushes n k (g_m_begins (sI 15 (0) (g_m_grows n S))) k1 (gp_near n k h40 k2 hw) h40 (isNode_gr ((mGr_of h1 h40 hO).sI (by decide)))) dX7_pushDown_48 zy_X7_pushes zm_X7_109 rfl rfl rfl rfl (Nat.le_of_ble_eq_true rfl) (by decide) (by decide)) (zlen2 14 rfl rfl) ?_
  refine z_ifB_eq (tgt := 58) dX7_pushDown_51 (by decide) (fun c51 => ?_) (fun c51 => ?_)
  · refine z_iconst (v := 0) dX7_pushDown_58 rfl ?_
    refine Z.call0s (zRun.V (ρ := fun i => i) (k_m_remember p (0) ((g_m_pushes n k (g_m_begins (sI 15 (0) (g_m_grows n S)))).2) (((uF_push n k _).1 5 (by decide) (by decide) (by decide)).trans ((begins_5 _).trans (((uF_grows S h1 h40).1 5 (by decide) (by decide) (by decide)).trans hp5))) hp8) dX7_pushDown_59 zy_X7_remember zm_X7_292 rfl rfl rfl rfl (Nat.le_of_ble_eq_true rfl) (by decide) (by decide)) (zlen2 14 rfl rfl) ?_
    refine z_iconst (v := 1) dX7_pushDown_62 rfl ?_
    refine z_icmp_ne (tgt := 70) dX7_pushDown_63 (by decide) (fun c63 => ?_) (fun c63 => ?_)
    · refine z_iconst (v := 0) dX7_pushDown_70 rfl ?_
      rw [g_m_pushDown, if_neg c51, if_neg c63]
      try dsimp only
      exact z_iret dX7_pushDown_71 rfl rfl rfl rfl
    · refine z_iconst (v := 1) dX7_pushDown_66 rfl ?_
      refine z_goto (tgt := 71) dX7_pushDown_67 (by decide) ?_
      rw [g_m_pushDown, if_neg c51, if_pos c63]
      try dsimp only
      exact z_iret dX7_pushDown_71 rfl rfl rfl rfl
  · refine z_iconst (v := 1) dX7_pushDown_54 rfl ?_
    refine z_goto (tgt := 59) dX7_pushDown_55 (by decide) ?_
    refine Z.call0s (zRun.V (ρ := fun i => i) (k_m_remember p (1) ((g_m_pushes n k (g_m_begins (sI 15 (0) (g_m_grows n S)))).2) (((uF_push n k _).1 5 (by decide) (by decide) (by decide)).trans ((begins_5 _).trans (((uF_grows S h1 h40).1 5 (by decide) (by decide) (by decide)).trans hp5))) hp8) dX7_pushDown_59 zy_X7_remember zm_X7_292 rfl rfl rfl rfl (Nat.le_of_ble_eq_true rfl) (by decide) (by decide)) (zlen2 14 rfl rfl) ?_
    refine z_iconst (v := 1) dX7_pushDown_62 rfl ?_
    refine z_icmp_ne (tgt := 70) dX7_pushDown_63 (by decide) (fun c63 => ?_) (fun c63 => ?_)
    · refine z_iconst (v := 0) dX7_pushDown_70 rfl ?_
      rw [g_m_pushDown, if_pos c51, if_neg c63]
      try dsimp only
      exact z_iret dX7_pushDown_71 rfl rfl rfl rfl
    · refine z_iconst (v := 1) dX7_pushDown_66 rfl ?_
      refine z_goto (tgt := 71) dX7_pushDown_67 (by decide) ?_
      rw [g_m_pushDown, if_pos c51, if_pos c63]
      try dsimp only
      exact z_iret dX7_pushDown_71 rfl rfl rfl rfl
noncomputable def g_m_pushDown_x1 (n : Nat) (_k : Nat) (S : ZS) : Bool × ZS := (false, (sI 15 (1) (g_m_grows n S)))
theorem k_m_pushDown_x1 (n : Nat) (k : Nat) (S : ZS) (h1 : 1 ≤ n) (h40 : n ≤ 40) (k1 : 1 ≤ k) (k2 : k < 128) (hp : ¬ (gp n k).1 < (gp n k).2) (hO : mOK n S) : zM sc yX7_pushDown cX7_pushDown 3 (some .boolean) 2 0 0 [.ref 0, .int (nI (k))] (mh S) (.inl (some (.int (zb (g_m_pushDown_x1 n k S).1)))) (mh (g_m_pushDown_x1 n k S).2) := by
  refine zM.at (ls := [some (.ref 0), some (.int (nI (k))), none]) zy_X7_pushDown.2.2.2.2.2 (Nat.le_of_ble_eq_true rfl) rfl ?_
  refine z_aload_0 dX7_pushDown_0 ?_
  refine z_iload_1 dX7_pushDown_1 ?_
  refine Z.call0s (zRun.V (ρ := fun i => i) (k_m_isNode n k S h1 h40 k1 k2 hO) dX7_pushDown_2 zy_X7_isNode zm_X7_210 rfl rfl rfl rfl (Nat.le_of_ble_eq_true rfl) (by decide) (by decide)) (zlen2 14 rfl rfl) ?_
  refine z_topi (w := 0) (by rw [isNode_eq h40, decide_eq_false hp]; rfl) ?_
  refine Z.heap (h2 := mh (g_m_grows n S)) (by rw [isNode_2]) ?_
  refine z_istore_2 dX7_pushDown_5 rfl (by decide) ?_
  refine z_aload_0 dX7_pushDown_6 ?_
  refine z_iload_2 dX7_pushDown_7 ?_
  refine z_if_ne_f (tgt := 15) dX7_pushDown_8 (by decide) (by decide) ?_
  refine z_iconst (v := 1) dX7_pushDown_11 rfl ?_
  refine z_goto (tgt := 16) dX7_pushDown_12 (by decide) ?_
  refine z_iload_2 dX7_pushDown_16 ?_
  refine z_if_eq_t (tgt := 32) dX7_pushDown_17 (by decide) (by decide) ?_
  refine z_iconst (v := 0) dX7_pushDown_32 rfl ?_
  refine Z.call0s (zRun.V (ρ := fun i => i) (k_m_throwsOne_ (true) (false) (g_m_grows n S) ) dX7_pushDown_33 zy_X7_throwsOne_ zm_X7_79 rfl rfl rfl rfl (Nat.le_of_ble_eq_true rfl) (by decide) (by decide)) (zlen2 14 rfl rfl) ?_
  refine Z.heap (h2 := mh (sI 15 (1) (g_m_grows n S))) rfl ?_
  refine z_topi (w := 1) rfl ?_
  refine z_if_eq_f (tgt := 41) dX7_pushDown_36 (by decide) (by decide) ?_
  refine z_iconst (v := 0) dX7_pushDown_39 rfl ?_
  rw [g_m_pushDown_x1]
  try dsimp only
  exact z_iret dX7_pushDown_40 rfl rfl rfl rfl
noncomputable def g_m_pushDown_x2 (n : Nat) (_x : Int32) (S : ZS) : Bool × ZS := (false, (sI 15 (1) (g_m_grows n S)))
theorem k_m_pushDown_x2 (n : Nat) (x : Int32) (S : ZS) (h1 : 1 ≤ n) (h40 : n ≤ 40) (hx : ¬ (1 ≤ x ∧ x ≤ 127)) (hO : mOK n S) : zM sc yX7_pushDown cX7_pushDown 3 (some .boolean) 2 0 0 [.ref 0, .int (x)] (mh S) (.inl (some (.int (zb (g_m_pushDown_x2 n x S).1)))) (mh (g_m_pushDown_x2 n x S).2) := by
  refine zM.at (ls := [some (.ref 0), some (.int (x)), none]) zy_X7_pushDown.2.2.2.2.2 (Nat.le_of_ble_eq_true rfl) rfl ?_
  refine z_aload_0 dX7_pushDown_0 ?_
  refine z_iload_1 dX7_pushDown_1 ?_
  refine Z.call0s (zRun.V (ρ := fun i => i) (k_m_isNodeX n (x) S h1 h40 hx hO) dX7_pushDown_2 zy_X7_isNode zm_X7_210 rfl rfl rfl rfl (Nat.le_of_ble_eq_true rfl) (by decide) (by decide)) (zlen2 14 rfl rfl) ?_
  refine z_topi (w := 0) rfl ?_
  refine Z.heap (h2 := mh (g_m_grows n S)) (by rw [(show (g_m_isNodeX n x S).2 = g_m_grows n S from rfl)]) ?_
  refine z_istore_2 dX7_pushDown_5 rfl (by decide) ?_
  refine z_aload_0 dX7_pushDown_6 ?_
  refine z_iload_2 dX7_pushDown_7 ?_
  refine z_if_ne_f (tgt := 15) dX7_pushDown_8 (by decide) (by decide) ?_
  refine z_iconst (v := 1) dX7_pushDown_11 rfl ?_
  refine z_goto (tgt := 16) dX7_pushDown_12 (by decide) ?_
  refine z_iload_2 dX7_pushDown_16 ?_
  refine z_if_eq_t (tgt := 32) dX7_pushDown_17 (by decide) (by decide) ?_
  refine z_iconst (v := 0) dX7_pushDown_32 rfl ?_
  refine Z.call0s (zRun.V (ρ := fun i => i) (k_m_throwsOne_ (true) (false) (g_m_grows n S) ) dX7_pushDown_33 zy_X7_throwsOne_ zm_X7_79 rfl rfl rfl rfl (Nat.le_of_ble_eq_true rfl) (by decide) (by decide)) (zlen2 14 rfl rfl) ?_
  refine Z.heap (h2 := mh (sI 15 (1) (g_m_grows n S))) rfl ?_
  refine z_topi (w := 1) rfl ?_
  refine z_if_eq_f (tgt := 41) dX7_pushDown_36 (by decide) (by decide) ?_
  refine z_iconst (v := 0) dX7_pushDown_39 rfl ?_
  rw [g_m_pushDown_x2]
  try dsimp only
  exact z_iret dX7_pushDown_40 rfl rfl rfl rfl
noncomputable def g_m_pushDown_x3 (n : Nat) (_k : Nat) (S : ZS) : Bool × ZS := (false, (sI 15 (2) (g_m_grows n S)))
theorem k_m_pushDown_x3 (n : Nat) (k : Nat) (S : ZS) (h1 : 1 ≤ n) (h40 : n ≤ 40) (k1 : 1 ≤ k) (k2 : k < 128) (he : (gp n k).2 = (gp n k).1 + 1) (hO : mOK n S) : zM sc yX7_pushDown cX7_pushDown 3 (some .boolean) 2 0 0 [.ref 0, .int (nI (k))] (mh S) (.inl (some (.int (zb (g_m_pushDown_x3 n k S).1)))) (mh (g_m_pushDown_x3 n k S).2) := by
  refine zM.at (ls := [some (.ref 0), some (.int (nI (k))), none]) zy_X7_pushDown.2.2.2.2.2 (Nat.le_of_ble_eq_true rfl) rfl ?_
  refine z_aload_0 dX7_pushDown_0 ?_
  refine z_iload_1 dX7_pushDown_1 ?_
  refine Z.call0s (zRun.V (ρ := fun i => i) (k_m_isNode n k S h1 h40 k1 k2 hO) dX7_pushDown_2 zy_X7_isNode zm_X7_210 rfl rfl rfl rfl (Nat.le_of_ble_eq_true rfl) (by decide) (by decide)) (zlen2 14 rfl rfl) ?_
  refine z_topi (w := 1) (by rw [isNode_eq h40, decide_eq_true (by omega)]; rfl) ?_
  refine Z.heap (h2 := mh (g_m_grows n S)) (by rw [isNode_2]) ?_
  refine z_istore_2 dX7_pushDown_5 rfl (by decide) ?_
  refine z_aload_0 dX7_pushDown_6 ?_
  refine z_iload_2 dX7_pushDown_7 ?_
  refine z_if_ne_t (tgt := 15) dX7_pushDown_8 (by decide) (by decide) ?_
  refine z_iconst (v := 0) dX7_pushDown_15 rfl ?_
  refine z_iload_2 dX7_pushDown_16 ?_
  refine z_if_eq_f (tgt := 32) dX7_pushDown_17 (by decide) (by decide) ?_
  refine z_aload_0 dX7_pushDown_20 ?_
  refine z_iload_1 dX7_pushDown_21 ?_
  refine Z.call0s (zRun.V (ρ := fun i => i) (k_m_ends n k (g_m_grows n S) k1 k2 (mGr_of h1 h40 hO)) dX7_pushDown_22 zy_X7_ends zm_X7_93 rfl rfl rfl rfl (Nat.le_of_ble_eq_true rfl) (by decide) (by decide)) (zlen2 14 rfl rfl) ?_
  refine z_topi (w := 1) (by rw [ends_eq h40, decide_eq_true he]; rfl) ?_
  refine z_if_eq_f (tgt := 32) dX7_pushDown_25 (by decide) (by decide) ?_
  refine z_iconst (v := 1) dX7_pushDown_28 rfl ?_
  refine z_goto (tgt := 33) dX7_pushDown_29 (by decide) ?_
  refine Z.call0s (zRun.V (ρ := fun i => i) (k_m_throwsOne_ (false) (true) (g_m_grows n S) ) dX7_pushDown_33 zy_X7_throwsOne_ zm_X7_79 rfl rfl rfl rfl (Nat.le_of_ble_eq_true rfl) (by decide) (by decide)) (zlen2 14 rfl rfl) ?_
  refine Z.heap (h2 := mh (sI 15 (2) (g_m_grows n S))) rfl ?_
  refine z_topi (w := 1) rfl ?_
  refine z_if_eq_f (tgt := 41) dX7_pushDown_36 (by decide) (by decide) ?_
  refine z_iconst (v := 0) dX7_pushDown_39 rfl ?_
  rw [g_m_pushDown_x3]
  try dsimp only
  exact z_iret dX7_pushDown_40 rfl rfl rfl rfl
noncomputable def s_m_pushAll_1 (n : Nat) (p : Nat) (S : ZS) : ZS := (g_m_remember p (nI ((g_m_allPushes n (g_m_begins (sI 15 (0) S))).1)) ((g_m_allPushes n (g_m_begins (sI 15 (0) S))).2)).2
noncomputable def g_m_pushAll (n : Nat) (p : Nat) (S : ZS) : Int32 × ZS := ((g_m_remember p (nI ((g_m_allPushes n (g_m_begins (sI 15 (0) S))).1)) ((g_m_allPushes n (g_m_begins (sI 15 (0) S))).2)).1, (s_m_pushAll_1 n p S))
theorem k_m_pushAll (n : Nat) (p : Nat) (S : ZS) (h1 : 1 ≤ n) (h40 : n ≤ 40) (hO : mOK n S) (hp5 : S.1 5 = nI p) (hp8 : p ≤ 8) : zM sc yX7_pushAll cX7_pushAll 1 (some .int) 4 0 0 [.ref 0] (mh S) (.inl (some (.int (g_m_pushAll n p S).1))) (mh (g_m_pushAll n p S).2) := by
  refine zM.at (ls := [some (.ref 0)]) zy_X7_pushAll.2.2.2.2.2 (Nat.le_of_ble_eq_true rfl) rfl ?_
  refine z_aload_0 dX7_pushAll_0 ?_
  refine z_iconst (v := 0) dX7_pushAll_1 rfl ?_
  refine z_put (k := 15) (ty := tyX7) dX7_pushAll_2 rfl rfl (by decide) zf_X7_64 zw_in7 tyX7_ok nmX7 rfl (fun _ => ⟨rfl, rfl⟩) (Nat.le_of_ble_eq_true rfl) ?_
  refine Z.heap (h2 := mh (sI 15 (0) S)) rfl ?_
  refine z_aload_0 dX7_pushAll_5 ?_
  refine Z.call0n (zRun.V (ρ := fun i => i) (k_m_begins (sI 15 (0) S) ) dX7_pushAll_6 zy_X7_begins zm_X7_289 rfl rfl rfl rfl (Nat.le_of_ble_eq_true rfl) (by decide) (by decide)) (zlen2 14 rfl rfl) ?_
  refine z_aload_0 dX7_pushAll_9 ?_
  refine z_aload_0 dX7_pushAll_10 ?_
  refine Z.call0s (zRun.V (ρ := fun i => i) (k_m_allPushes n (g_m_begins (sI 15 (0) S)) h1 h40 (begins_ok (hO.sI (by decide)))) dX7_pushAll_11 zy_X7_allPushes zm_X7_213 rfl rfl rfl rfl (Nat.le_of_ble_eq_true rfl) (by decide) (by decide)) (zlen2 14 rfl rfl) ?_
  refine Z.call0s (zRun.V (ρ := fun i => i) (k_m_remember p (nI ((g_m_allPushes n (g_m_begins (sI 15 (0) S))).1)) ((g_m_allPushes n (g_m_begins (sI 15 (0) S))).2) (((all_keep h1 h40 (begins_ok (hO.sI (by decide)))).1.1 5 (by decide) (by decide) (by decide)).trans ((begins_5 _).trans hp5)) hp8) dX7_pushAll_14 zy_X7_remember zm_X7_292 rfl rfl rfl rfl (Nat.le_of_ble_eq_true rfl) (by decide) (by decide)) (zlen2 14 rfl rfl) ?_
  rw [g_m_pushAll]
  try dsimp only
  exact z_iret dX7_pushAll_17 rfl (zint _) rfl rfl
noncomputable def s_m_appendElement_1 (n : Nat) (p : Nat) (v : Int32) (S : ZS) : ZS := (g_m_remember p (nI ((g_m_appends n (v) (g_m_begins (sI 15 (0) S))).1)) ((g_m_appends n (v) (g_m_begins (sI 15 (0) S))).2)).2
noncomputable def g_m_appendElement (n : Nat) (p : Nat) (v : Int32) (S : ZS) : Int32 × ZS := ((g_m_remember p (nI ((g_m_appends n (v) (g_m_begins (sI 15 (0) S))).1)) ((g_m_appends n (v) (g_m_begins (sI 15 (0) S))).2)).1, (s_m_appendElement_1 n p v S))
theorem k_m_appendElement (n : Nat) (p : Nat) (v : Int32) (S : ZS) (h1 : 1 ≤ n) (h40 : n ≤ 40) (hO : mOK n S) (hv : g_m_isValue v = true) (hp5 : S.1 5 = nI p) (hp8 : p ≤ 8) (h39 : n < 40) : zM sc yX7_appendElement cX7_appendElement 2 (some .int) 4 0 0 [.ref 0, .int (v)] (mh S) (.inl (some (.int (g_m_appendElement n p v S).1))) (mh (g_m_appendElement n p v S).2) := by
  refine zM.at (ls := [some (.ref 0), some (.int (v))]) zy_X7_appendElement.2.2.2.2.2 (Nat.le_of_ble_eq_true rfl) rfl ?_
  refine z_aload_0 dX7_appendElement_0 ?_
  refine z_iload_1 dX7_appendElement_1 ?_
  refine Z.callE (zRun.S (ρ := fun i => i) (k_m_isValue (v) ) dX7_appendElement_2 zy_X7_isValue zm_X7_295 rfl rfl (Nat.le_of_ble_eq_true rfl) (by decide) (by decide)) ?_
  refine z_topi (w := 1) (by rw [hv]; rfl) ?_
  refine z_if_ne_t (tgt := 12) dX7_appendElement_5 (by decide) (by decide) ?_
  refine z_iconst (v := 0) dX7_appendElement_12 rfl ?_
  refine z_aload_0 dX7_appendElement_13 ?_
  refine z_get (k := 0) (v := .ref 1) dX7_appendElement_14 rfl rfl rfl (by decide) zf_X7_7 zw_in7 ?_
  refine z_iconst (v := 0) dX7_appendElement_17 rfl ?_
  refine z_ialdN (k := 0) dX7_appendElement_18 rfl (by first | omega | assumption) (by decide) ?_
  refine z_topi (w := S.2 0 (0)) rfl ?_
  refine z_topi (w := nI (n)) hO.1 ?_
  refine z_bipush (v := 40) dX7_appendElement_19 rfl ?_
  refine z_icmpN_ne_t (tgt := 28) dX7_appendElement_21 (by decide) (x := n) (z := 40) (by first | omega | assumption) (by first | omega | assumption) (by omega) ?_
  refine z_iconst (v := 0) dX7_appendElement_28 rfl ?_
  refine Z.call0s (zRun.V (ρ := fun i => i) (k_m_throwsOne_ (false) (false) S ) dX7_appendElement_29 zy_X7_throwsOne_ zm_X7_79 rfl rfl rfl rfl (Nat.le_of_ble_eq_true rfl) (by decide) (by decide)) (zlen2 14 rfl rfl) ?_
  refine Z.heap (h2 := mh (sI 15 (0) S)) rfl ?_
  refine z_topi (w := 0) rfl ?_
  refine z_if_eq_t (tgt := 37) dX7_appendElement_32 (by decide) (by decide) ?_
  refine z_aload_0 dX7_appendElement_37 ?_
  refine Z.call0n (zRun.V (ρ := fun i => i) (k_m_begins (sI 15 (0) S) ) dX7_appendElement_38 zy_X7_begins zm_X7_289 rfl rfl rfl rfl (Nat.le_of_ble_eq_true rfl) (by decide) (by decide)) (zlen2 14 rfl rfl) ?_
  refine z_aload_0 dX7_appendElement_41 ?_
  refine z_aload_0 dX7_appendElement_42 ?_
  refine z_iload_1 dX7_appendElement_43 ?_
  refine Z.call0s (zRun.V (ρ := fun i => i) (k_m_appends n (v) (g_m_begins (sI 15 (0) S)) h1 h40 (begins_ok (hO.sI (by decide))) h39) dX7_appendElement_44 zy_X7_appends zm_X7_216 rfl rfl rfl rfl (Nat.le_of_ble_eq_true rfl) (by decide) (by decide)) (zlen2 14 rfl rfl) ?_
  refine Z.call0s (zRun.V (ρ := fun i => i) (k_m_remember p (nI ((g_m_appends n (v) (g_m_begins (sI 15 (0) S))).1)) ((g_m_appends n (v) (g_m_begins (sI 15 (0) S))).2) (((app_keep h1 h39 (begins_ok (hO.sI (by decide)))).1.1 5 (by decide) (by decide) (by decide)).trans ((begins_5 _).trans hp5)) hp8) dX7_appendElement_47 zy_X7_remember zm_X7_292 rfl rfl rfl rfl (Nat.le_of_ble_eq_true rfl) (by decide) (by decide)) (zlen2 14 rfl rfl) ?_
  rw [g_m_appendElement]
  try dsimp only
  exact z_iret dX7_appendElement_50 rfl (zint _) rfl rfl
noncomputable def g_m_appendElement_x1 (_v : Int32) (S : ZS) : Int32 × ZS := (if S.2 0 (0) = 40 then (0, (sI 15 (1) S)) else (0, (sI 15 (1) S)))
theorem k_m_appendElement_x1 (v : Int32) (S : ZS) (hv : g_m_isValue v = false) : zM sc yX7_appendElement cX7_appendElement 2 (some .int) 2 0 0 [.ref 0, .int (v)] (mh S) (.inl (some (.int (g_m_appendElement_x1 v S).1))) (mh (g_m_appendElement_x1 v S).2) := by
  refine zM.at (ls := [some (.ref 0), some (.int (v))]) zy_X7_appendElement.2.2.2.2.2 (Nat.le_of_ble_eq_true rfl) rfl ?_
  refine z_aload_0 dX7_appendElement_0 ?_
  refine z_iload_1 dX7_appendElement_1 ?_
  refine Z.callE (zRun.S (ρ := fun i => i) (k_m_isValue (v) ) dX7_appendElement_2 zy_X7_isValue zm_X7_295 rfl rfl (Nat.le_of_ble_eq_true rfl) (by decide) (by decide)) ?_
  refine z_topi (w := 0) (by rw [hv]; rfl) ?_
  refine z_if_ne_f (tgt := 12) dX7_appendElement_5 (by decide) (by decide) ?_
  refine z_iconst (v := 1) dX7_appendElement_8 rfl ?_
  refine z_goto (tgt := 13) dX7_appendElement_9 (by decide) ?_
  refine z_aload_0 dX7_appendElement_13 ?_
  refine z_get (k := 0) (v := .ref 1) dX7_appendElement_14 rfl rfl rfl (by decide) zf_X7_7 zw_in7 ?_
  refine z_iconst (v := 0) dX7_appendElement_17 rfl ?_
  refine z_ialdN (k := 0) dX7_appendElement_18 rfl (by first | omega | assumption) (by decide) ?_
  refine z_topi (w := S.2 0 (0)) rfl ?_
  refine z_bipush (v := 40) dX7_appendElement_19 rfl ?_
  refine z_icmp_ne (tgt := 28) dX7_appendElement_21 (by decide) (fun c21 => ?_) (fun c21 => ?_)
  · refine z_iconst (v := 0) dX7_appendElement_28 rfl ?_
    refine Z.call0s (zRun.V (ρ := fun i => i) (k_m_throwsOne_ (true) (false) S ) dX7_appendElement_29 zy_X7_throwsOne_ zm_X7_79 rfl rfl rfl rfl (Nat.le_of_ble_eq_true rfl) (by decide) (by decide)) (zlen2 14 rfl rfl) ?_
    refine Z.heap (h2 := mh (sI 15 (1) S)) rfl ?_
    refine z_topi (w := 1) rfl ?_
    refine z_if_eq_f (tgt := 37) dX7_appendElement_32 (by decide) (by decide) ?_
    refine z_iconst (v := 0) dX7_appendElement_35 rfl ?_
    rw [g_m_appendElement_x1, if_neg c21]
    try dsimp only
    exact z_iret dX7_appendElement_36 rfl (zint _) rfl rfl
  · refine z_iconst (v := 1) dX7_appendElement_24 rfl ?_
    refine z_goto (tgt := 29) dX7_appendElement_25 (by decide) ?_
    refine Z.call0s (zRun.V (ρ := fun i => i) (k_m_throwsOne_ (true) (true) S ) dX7_appendElement_29 zy_X7_throwsOne_ zm_X7_79 rfl rfl rfl rfl (Nat.le_of_ble_eq_true rfl) (by decide) (by decide)) (zlen2 14 rfl rfl) ?_
    refine Z.heap (h2 := mh (sI 15 (1) S)) rfl ?_
    refine z_topi (w := 1) rfl ?_
    refine z_if_eq_f (tgt := 37) dX7_appendElement_32 (by decide) (by decide) ?_
    refine z_iconst (v := 0) dX7_appendElement_35 rfl ?_
    rw [g_m_appendElement_x1, if_pos c21]
    try dsimp only
    exact z_iret dX7_appendElement_36 rfl (zint _) rfl rfl
noncomputable def g_m_appendElement_x2 (_v : Int32) (S : ZS) : Int32 × ZS := (0, (sI 15 (2) S))
theorem k_m_appendElement_x2 (v : Int32) (S : ZS) (hv : g_m_isValue v = true) (hc : S.2 0 0 = nI 40) : zM sc yX7_appendElement cX7_appendElement 2 (some .int) 2 0 0 [.ref 0, .int (v)] (mh S) (.inl (some (.int (g_m_appendElement_x2 v S).1))) (mh (g_m_appendElement_x2 v S).2) := by
  refine zM.at (ls := [some (.ref 0), some (.int (v))]) zy_X7_appendElement.2.2.2.2.2 (Nat.le_of_ble_eq_true rfl) rfl ?_
  refine z_aload_0 dX7_appendElement_0 ?_
  refine z_iload_1 dX7_appendElement_1 ?_
  refine Z.callE (zRun.S (ρ := fun i => i) (k_m_isValue (v) ) dX7_appendElement_2 zy_X7_isValue zm_X7_295 rfl rfl (Nat.le_of_ble_eq_true rfl) (by decide) (by decide)) ?_
  refine z_topi (w := 1) (by rw [hv]; rfl) ?_
  refine z_if_ne_t (tgt := 12) dX7_appendElement_5 (by decide) (by decide) ?_
  refine z_iconst (v := 0) dX7_appendElement_12 rfl ?_
  refine z_aload_0 dX7_appendElement_13 ?_
  refine z_get (k := 0) (v := .ref 1) dX7_appendElement_14 rfl rfl rfl (by decide) zf_X7_7 zw_in7 ?_
  refine z_iconst (v := 0) dX7_appendElement_17 rfl ?_
  refine z_ialdN (k := 0) dX7_appendElement_18 rfl (by first | omega | assumption) (by decide) ?_
  refine z_topi (w := S.2 0 (0)) rfl ?_
  refine z_topi (w := nI (40)) hc ?_
  refine z_bipush (v := 40) dX7_appendElement_19 rfl ?_
  refine z_icmpN_ne_f (tgt := 28) dX7_appendElement_21 (by decide) (x := 40) (z := 40) (by first | omega | assumption) (by first | omega | assumption) (by omega) ?_
  refine z_iconst (v := 1) dX7_appendElement_24 rfl ?_
  refine z_goto (tgt := 29) dX7_appendElement_25 (by decide) ?_
  refine Z.call0s (zRun.V (ρ := fun i => i) (k_m_throwsOne_ (false) (true) S ) dX7_appendElement_29 zy_X7_throwsOne_ zm_X7_79 rfl rfl rfl rfl (Nat.le_of_ble_eq_true rfl) (by decide) (by decide)) (zlen2 14 rfl rfl) ?_
  refine Z.heap (h2 := mh (sI 15 (2) S)) rfl ?_
  refine z_topi (w := 1) rfl ?_
  refine z_if_eq_f (tgt := 37) dX7_appendElement_32 (by decide) (by decide) ?_
  refine z_iconst (v := 0) dX7_appendElement_35 rfl ?_
  rw [g_m_appendElement_x2]
  try dsimp only
  exact z_iret dX7_appendElement_36 rfl (zint _) rfl rfl
noncomputable def s_m_removeLast_1 (n : Nat) (p : Nat) (S : ZS) : ZS := (g_m_remember p ((g_m_removes n (g_m_begins (sI 15 (0) S))).1) ((g_m_removes n (g_m_begins (sI 15 (0) S))).2)).2
noncomputable def g_m_removeLast (n : Nat) (p : Nat) (S : ZS) : Int32 × ZS := ((g_m_remember p ((g_m_removes n (g_m_begins (sI 15 (0) S))).1) ((g_m_removes n (g_m_begins (sI 15 (0) S))).2)).1, (s_m_removeLast_1 n p S))
theorem k_m_removeLast (n : Nat) (p : Nat) (S : ZS) (h1 : 1 ≤ n) (h40 : n ≤ 40) (hO : mOK n S) (hp5 : S.1 5 = nI p) (hp8 : p ≤ 8) (h2 : 2 ≤ n) : zM sc yX7_removeLast cX7_removeLast 1 (some .int) 4 0 0 [.ref 0] (mh S) (.inl (some (.int (g_m_removeLast n p S).1))) (mh (g_m_removeLast n p S).2) := by
  refine zM.at (ls := [some (.ref 0)]) zy_X7_removeLast.2.2.2.2.2 (Nat.le_of_ble_eq_true rfl) rfl ?_
  refine z_aload_0 dX7_removeLast_0 ?_
  refine z_aload_0 dX7_removeLast_1 ?_
  refine z_get (k := 0) (v := .ref 1) dX7_removeLast_2 rfl rfl rfl (by decide) zf_X7_7 zw_in7 ?_
  refine z_iconst (v := 0) dX7_removeLast_5 rfl ?_
  refine z_ialdN (k := 0) dX7_removeLast_6 rfl (by first | omega | assumption) (by decide) ?_
  refine z_topi (w := S.2 0 (0)) rfl ?_
  refine z_topi (w := nI (n)) hO.1 ?_
  refine z_iconst (v := 1) dX7_removeLast_7 rfl ?_
  refine z_icmpN_ne_t (tgt := 15) dX7_removeLast_8 (by decide) (x := n) (z := 1) (by first | omega | assumption) (by first | omega | assumption) (by omega) ?_
  refine z_iconst (v := 0) dX7_removeLast_15 rfl ?_
  refine Z.call0s (zRun.V (ρ := fun i => i) (k_m_throwsOne (false) S ) dX7_removeLast_16 zy_X7_throwsOne zm_X7_284 rfl rfl rfl rfl (Nat.le_of_ble_eq_true rfl) (by decide) (by decide)) (zlen2 14 rfl rfl) ?_
  refine Z.heap (h2 := mh (sI 15 (0) S)) rfl ?_
  refine z_topi (w := 0) rfl ?_
  refine z_if_eq_t (tgt := 24) dX7_removeLast_19 (by decide) (by decide) ?_
  refine z_aload_0 dX7_removeLast_24 ?_
  refine Z.call0n (zRun.V (ρ := fun i => i) (k_m_begins (sI 15 (0) S) ) dX7_removeLast_25 zy_X7_begins zm_X7_289 rfl rfl rfl rfl (Nat.le_of_ble_eq_true rfl) (by decide) (by decide)) (zlen2 14 rfl rfl) ?_
  refine z_aload_0 dX7_removeLast_28 ?_
  refine z_aload_0 dX7_removeLast_29 ?_
  refine Z.call0s (zRun.V (ρ := fun i => i) (k_m_removes n (g_m_begins (sI 15 (0) S)) h1 h40 (begins_ok (hO.sI (by decide))) h2) dX7_removeLast_30 zy_X7_removes zm_X7_219 rfl rfl rfl rfl (Nat.le_of_ble_eq_true rfl) (by decide) (by decide)) (zlen2 14 rfl rfl) ?_
  refine Z.call0s (zRun.V (ρ := fun i => i) (k_m_remember p ((g_m_removes n (g_m_begins (sI 15 (0) S))).1) ((g_m_removes n (g_m_begins (sI 15 (0) S))).2) (((rem_keep h2 h40 (begins_ok (hO.sI (by decide)))).1.1 5 (by decide) (by decide) (by decide)).trans ((begins_5 _).trans hp5)) hp8) dX7_removeLast_33 zy_X7_remember zm_X7_292 rfl rfl rfl rfl (Nat.le_of_ble_eq_true rfl) (by decide) (by decide)) (zlen2 14 rfl rfl) ?_
  rw [g_m_removeLast]
  try dsimp only
  exact z_iret dX7_removeLast_36 rfl (zint _) rfl rfl
noncomputable def g_m_removeLast_x1 (S : ZS) : Int32 × ZS := (0, (sI 15 (1) S))
theorem k_m_removeLast_x1 (S : ZS) (hc : S.2 0 0 = nI 1) : zM sc yX7_removeLast cX7_removeLast 1 (some .int) 1 0 0 [.ref 0] (mh S) (.inl (some (.int (g_m_removeLast_x1 S).1))) (mh (g_m_removeLast_x1 S).2) := by
  refine zM.at (ls := [some (.ref 0)]) zy_X7_removeLast.2.2.2.2.2 (Nat.le_of_ble_eq_true rfl) rfl ?_
  refine z_aload_0 dX7_removeLast_0 ?_
  refine z_aload_0 dX7_removeLast_1 ?_
  refine z_get (k := 0) (v := .ref 1) dX7_removeLast_2 rfl rfl rfl (by decide) zf_X7_7 zw_in7 ?_
  refine z_iconst (v := 0) dX7_removeLast_5 rfl ?_
  refine z_ialdN (k := 0) dX7_removeLast_6 rfl (by first | omega | assumption) (by decide) ?_
  refine z_topi (w := S.2 0 (0)) rfl ?_
  refine z_topi (w := nI (1)) hc ?_
  refine z_iconst (v := 1) dX7_removeLast_7 rfl ?_
  refine z_icmpN_ne_f (tgt := 15) dX7_removeLast_8 (by decide) (x := 1) (z := 1) (by first | omega | assumption) (by first | omega | assumption) (by omega) ?_
  refine z_iconst (v := 1) dX7_removeLast_11 rfl ?_
  refine z_goto (tgt := 16) dX7_removeLast_12 (by decide) ?_
  refine Z.call0s (zRun.V (ρ := fun i => i) (k_m_throwsOne (true) S ) dX7_removeLast_16 zy_X7_throwsOne zm_X7_284 rfl rfl rfl rfl (Nat.le_of_ble_eq_true rfl) (by decide) (by decide)) (zlen2 14 rfl rfl) ?_
  refine Z.heap (h2 := mh (sI 15 (1) S)) rfl ?_
  refine z_topi (w := 1) rfl ?_
  refine z_if_eq_f (tgt := 24) dX7_removeLast_19 (by decide) (by decide) ?_
  refine z_iconst (v := 0) dX7_removeLast_22 rfl ?_
  rw [g_m_removeLast_x1]
  try dsimp only
  exact z_iret dX7_removeLast_23 rfl (zint _) rfl rfl
