variable {sc : SC}

def mh (S : ZS) : List zO := [.inr (7, [.ref 1, .ref 2, .ref 3, .ref 4, .ref 5, .int (S.1 5), .int (S.1 6), .ref 6, .ref 7, .int (S.1 9), .int (S.1 10), .int (S.1 11), .int (S.1 12), .ref 8, .int (S.1 14), .int (S.1 15), .ref 9, .ref 10, .ref 11, .int (S.1 19), .ref 12, .int (S.1 21), .int (S.1 22), .int (S.1 23), .int (S.1 24), .int (S.1 25), .int (S.1 26), .int (S.1 27), .ref 13]), .inl (0, 300, .inl (S.2 0)), .inl (0, 300, .inl (S.2 1)), .inl (0, 300, .inl (S.2 2)), .inl (0, 2400, .inl (S.2 3)), .inl (0, 300, .inl (S.2 4)), .inl (0, 600, .inl (S.2 5)), .inl (0, 600, .inl (S.2 6)), .inl (4, 400, .inl (S.2 7)), .inl (0, 128, .inl (S.2 8)), .inl (0, 128, .inl (S.2 9)), .inl (0, 40, .inl (S.2 10)), .inl (0, 40, .inl (S.2 11)), .inl (0, 3, .inl (S.2 12))]
noncomputable def g_m_thrown (S : ZS) : Int32 := S.1 15
theorem k_m_thrown (S : ZS)  : zM sc yX7_thrown cX7_thrown 1 (some .int) 0 0 0 [.ref 0] (mh S) (.inl (some (.int (g_m_thrown S)))) (mh S) := by
  refine zM.at (ls := [some (.ref 0)]) zy_X7_thrown.2.2.2.2.2 (Nat.le_of_ble_eq_true rfl) rfl ?_
  refine z_aload_0 dX7_thrown_0 ?_
  refine z_get (k := 15) (v := .int (S.1 15)) dX7_thrown_1 rfl rfl rfl (by decide) zf_X7_64 zw_in7 ?_
  rw [g_m_thrown]
  exact z_iret dX7_thrown_4 rfl rfl rfl rfl
noncomputable def g_m_in (x : Int32) (a : Int32) (b : Int32) : Bool := (if x < a then false else (if b < x then false else true))
theorem k_m_in (x : Int32) (a : Int32) (b : Int32)  : zM sc yX7_in cX7_in 3 (some .boolean) 0 0 0 [.int (x), .int (a), .int (b)] ([]) (.inl (some (.int (zb (g_m_in x a b))))) ([]) := by
  refine zM.at (ls := [some (.int (x)), some (.int (a)), some (.int (b))]) zy_X7_in.2.2.2.2 (Nat.le_of_ble_eq_true rfl) rfl ?_
  refine z_iload_0 dX7_in_0 ?_
  refine z_iload_1 dX7_in_1 ?_
  refine z_icmp_lt (tgt := 14) dX7_in_2 (by decide) (fun c2 => ?_) (fun c2 => ?_)
  · refine z_iconst (v := 0) dX7_in_14 rfl ?_
    rw [g_m_in, if_pos c2]
    exact z_iret dX7_in_15 rfl rfl rfl rfl
  · refine z_iload_0 dX7_in_5 ?_
    refine z_iload_2 dX7_in_6 ?_
    refine z_icmp_gt (tgt := 14) dX7_in_7 (by decide) (fun c7 => ?_) (fun c7 => ?_)
    · refine z_iconst (v := 0) dX7_in_14 rfl ?_
      rw [g_m_in, if_neg c2, if_pos c7]
      exact z_iret dX7_in_15 rfl rfl rfl rfl
    · refine z_iconst (v := 1) dX7_in_10 rfl ?_
      refine z_goto (tgt := 15) dX7_in_11 (by decide) ?_
      rw [g_m_in, if_neg c2, if_neg c7]
      exact z_iret dX7_in_15 rfl rfl rfl rfl
noncomputable def g_m_throwsOne (a : Bool) (S : ZS) : Bool × ZS := (if a = true then (a, (sI 15 (1) S)) else (a, (sI 15 (0) S)))
theorem k_m_throwsOne (a : Bool) (S : ZS)  : zM sc yX7_throwsOne cX7_throwsOne 2 (some .boolean) 0 0 0 [.ref 0, .int (zb (a))] (mh S) (.inl (some (.int (zb (g_m_throwsOne a S).1)))) (mh (g_m_throwsOne a S).2) := by
  refine zM.at (ls := [some (.ref 0), some (.int (zb (a)))]) zy_X7_throwsOne.2.2.2.2.2 (Nat.le_of_ble_eq_true rfl) rfl ?_
  refine z_aload_0 dX7_throwsOne_0 ?_
  refine z_iload_1 dX7_throwsOne_1 ?_
  refine z_ifB_eq (tgt := 9) dX7_throwsOne_2 (by decide) (fun c2 => ?_) (fun c2 => ?_)
  · refine z_iconst (v := 0) dX7_throwsOne_9 rfl ?_
    refine z_put (k := 15) (ty := tyX7) dX7_throwsOne_10 rfl rfl (by decide) zf_X7_64 zw_in7 tyX7_ok nmX7 rfl (fun _ => ⟨rfl, rfl⟩) (Nat.le_of_ble_eq_true rfl) ?_
    refine Z.heap (h2 := mh (sI 15 (0) S)) rfl ?_
    refine z_iload_1 dX7_throwsOne_13 ?_
    rw [g_m_throwsOne, if_neg c2]
    exact z_iret dX7_throwsOne_14 rfl (zb_nar _) rfl rfl
  · refine z_iconst (v := 1) dX7_throwsOne_5 rfl ?_
    refine z_goto (tgt := 10) dX7_throwsOne_6 (by decide) ?_
    refine z_put (k := 15) (ty := tyX7) dX7_throwsOne_10 rfl rfl (by decide) zf_X7_64 zw_in7 tyX7_ok nmX7 rfl (fun _ => ⟨rfl, rfl⟩) (Nat.le_of_ble_eq_true rfl) ?_
    refine Z.heap (h2 := mh (sI 15 (1) S)) rfl ?_
    refine z_iload_1 dX7_throwsOne_13 ?_
    rw [g_m_throwsOne, if_pos c2]
    exact z_iret dX7_throwsOne_14 rfl (zb_nar _) rfl rfl
noncomputable def g_m_throwsOne_ (a : Bool) (b : Bool) (S : ZS) : Bool × ZS := (if a = true then (true, (sI 15 (1) S)) else (if b = true then (true, (sI 15 (2) S)) else (false, (sI 15 (0) S))))
theorem k_m_throwsOne_ (a : Bool) (b : Bool) (S : ZS)  : zM sc yX7_throwsOne_ cX7_throwsOne_ 3 (some .boolean) 0 0 0 [.ref 0, .int (zb (a)), .int (zb (b))] (mh S) (.inl (some (.int (zb (g_m_throwsOne_ a b S).1)))) (mh (g_m_throwsOne_ a b S).2) := by
  refine zM.at (ls := [some (.ref 0), some (.int (zb (a))), some (.int (zb (b)))]) zy_X7_throwsOne_.2.2.2.2.2 (Nat.le_of_ble_eq_true rfl) rfl ?_
  refine z_aload_0 dX7_throwsOne__0 ?_
  refine z_iload_1 dX7_throwsOne__1 ?_
  refine z_ifB_eq (tgt := 9) dX7_throwsOne__2 (by decide) (fun c2 => ?_) (fun c2 => ?_)
  · refine z_iload_2 dX7_throwsOne__9 ?_
    refine z_ifB_eq (tgt := 17) dX7_throwsOne__10 (by decide) (fun c10 => ?_) (fun c10 => ?_)
    · refine z_iconst (v := 0) dX7_throwsOne__17 rfl ?_
      refine z_put (k := 15) (ty := tyX7) dX7_throwsOne__18 rfl rfl (by decide) zf_X7_64 zw_in7 tyX7_ok nmX7 rfl (fun _ => ⟨rfl, rfl⟩) (Nat.le_of_ble_eq_true rfl) ?_
      refine Z.heap (h2 := mh (sI 15 (0) S)) rfl ?_
      refine z_iload_1 dX7_throwsOne__21 ?_
      refine z_ifB_ne_f (tgt := 29) dX7_throwsOne__22 (by decide) c2 ?_
      refine z_iload_2 dX7_throwsOne__25 ?_
      refine z_ifB_eq_t (tgt := 33) dX7_throwsOne__26 (by decide) c10 ?_
      refine z_iconst (v := 0) dX7_throwsOne__33 rfl ?_
      rw [g_m_throwsOne_, if_neg c2, if_neg c10]
      exact z_iret dX7_throwsOne__34 rfl rfl rfl rfl
    · refine z_iconst (v := 2) dX7_throwsOne__13 rfl ?_
      refine z_goto (tgt := 18) dX7_throwsOne__14 (by decide) ?_
      refine z_put (k := 15) (ty := tyX7) dX7_throwsOne__18 rfl rfl (by decide) zf_X7_64 zw_in7 tyX7_ok nmX7 rfl (fun _ => ⟨rfl, rfl⟩) (Nat.le_of_ble_eq_true rfl) ?_
      refine Z.heap (h2 := mh (sI 15 (2) S)) rfl ?_
      refine z_iload_1 dX7_throwsOne__21 ?_
      refine z_ifB_ne_f (tgt := 29) dX7_throwsOne__22 (by decide) c2 ?_
      refine z_iload_2 dX7_throwsOne__25 ?_
      refine z_ifB_eq_f (tgt := 33) dX7_throwsOne__26 (by decide) c10 ?_
      refine z_iconst (v := 1) dX7_throwsOne__29 rfl ?_
      refine z_goto (tgt := 34) dX7_throwsOne__30 (by decide) ?_
      rw [g_m_throwsOne_, if_neg c2, if_pos c10]
      exact z_iret dX7_throwsOne__34 rfl rfl rfl rfl
  · refine z_iconst (v := 1) dX7_throwsOne__5 rfl ?_
    refine z_goto (tgt := 18) dX7_throwsOne__6 (by decide) ?_
    refine z_put (k := 15) (ty := tyX7) dX7_throwsOne__18 rfl rfl (by decide) zf_X7_64 zw_in7 tyX7_ok nmX7 rfl (fun _ => ⟨rfl, rfl⟩) (Nat.le_of_ble_eq_true rfl) ?_
    refine Z.heap (h2 := mh (sI 15 (1) S)) rfl ?_
    refine z_iload_1 dX7_throwsOne__21 ?_
    refine z_ifB_ne_t (tgt := 29) dX7_throwsOne__22 (by decide) c2 ?_
    refine z_iconst (v := 1) dX7_throwsOne__29 rfl ?_
    refine z_goto (tgt := 34) dX7_throwsOne__30 (by decide) ?_
    rw [g_m_throwsOne_, if_pos c2]
    exact z_iret dX7_throwsOne__34 rfl rfl rfl rfl
noncomputable def g_m_throwsOne__ (a : Bool) (b : Bool) (c : Bool) (S : ZS) : Bool × ZS := (if a = true then (true, (sI 15 (1) S)) else (if b = true then (true, (sI 15 (2) S)) else (if c = true then (true, (sI 15 (3) S)) else (false, (sI 15 (0) S)))))
theorem k_m_throwsOne__ (a : Bool) (b : Bool) (c : Bool) (S : ZS)  : zM sc yX7_throwsOne__ cX7_throwsOne__ 4 (some .boolean) 0 0 0 [.ref 0, .int (zb (a)), .int (zb (b)), .int (zb (c))] (mh S) (.inl (some (.int (zb (g_m_throwsOne__ a b c S).1)))) (mh (g_m_throwsOne__ a b c S).2) := by
  refine zM.at (ls := [some (.ref 0), some (.int (zb (a))), some (.int (zb (b))), some (.int (zb (c)))]) zy_X7_throwsOne__.2.2.2.2.2 (Nat.le_of_ble_eq_true rfl) rfl ?_
  refine z_aload_0 dX7_throwsOne___0 ?_
  refine z_iload_1 dX7_throwsOne___1 ?_
  refine z_ifB_eq (tgt := 9) dX7_throwsOne___2 (by decide) (fun c2 => ?_) (fun c2 => ?_)
  · refine z_iload_2 dX7_throwsOne___9 ?_
    refine z_ifB_eq (tgt := 17) dX7_throwsOne___10 (by decide) (fun c10 => ?_) (fun c10 => ?_)
    · refine z_iload_3 dX7_throwsOne___17 ?_
      refine z_ifB_eq (tgt := 25) dX7_throwsOne___18 (by decide) (fun c18 => ?_) (fun c18 => ?_)
      · refine z_iconst (v := 0) dX7_throwsOne___25 rfl ?_
        refine z_put (k := 15) (ty := tyX7) dX7_throwsOne___26 rfl rfl (by decide) zf_X7_64 zw_in7 tyX7_ok nmX7 rfl (fun _ => ⟨rfl, rfl⟩) (Nat.le_of_ble_eq_true rfl) ?_
        refine Z.heap (h2 := mh (sI 15 (0) S)) rfl ?_
        refine z_iload_1 dX7_throwsOne___29 ?_
        refine z_ifB_ne_f (tgt := 41) dX7_throwsOne___30 (by decide) c2 ?_
        refine z_iload_2 dX7_throwsOne___33 ?_
        refine z_ifB_ne_f (tgt := 41) dX7_throwsOne___34 (by decide) c10 ?_
        refine z_iload_3 dX7_throwsOne___37 ?_
        refine z_ifB_eq_t (tgt := 45) dX7_throwsOne___38 (by decide) c18 ?_
        refine z_iconst (v := 0) dX7_throwsOne___45 rfl ?_
        rw [g_m_throwsOne__, if_neg c2, if_neg c10, if_neg c18]
        exact z_iret dX7_throwsOne___46 rfl rfl rfl rfl
      · refine z_iconst (v := 3) dX7_throwsOne___21 rfl ?_
        refine z_goto (tgt := 26) dX7_throwsOne___22 (by decide) ?_
        refine z_put (k := 15) (ty := tyX7) dX7_throwsOne___26 rfl rfl (by decide) zf_X7_64 zw_in7 tyX7_ok nmX7 rfl (fun _ => ⟨rfl, rfl⟩) (Nat.le_of_ble_eq_true rfl) ?_
        refine Z.heap (h2 := mh (sI 15 (3) S)) rfl ?_
        refine z_iload_1 dX7_throwsOne___29 ?_
        refine z_ifB_ne_f (tgt := 41) dX7_throwsOne___30 (by decide) c2 ?_
        refine z_iload_2 dX7_throwsOne___33 ?_
        refine z_ifB_ne_f (tgt := 41) dX7_throwsOne___34 (by decide) c10 ?_
        refine z_iload_3 dX7_throwsOne___37 ?_
        refine z_ifB_eq_f (tgt := 45) dX7_throwsOne___38 (by decide) c18 ?_
        refine z_iconst (v := 1) dX7_throwsOne___41 rfl ?_
        refine z_goto (tgt := 46) dX7_throwsOne___42 (by decide) ?_
        rw [g_m_throwsOne__, if_neg c2, if_neg c10, if_pos c18]
        exact z_iret dX7_throwsOne___46 rfl rfl rfl rfl
    · refine z_iconst (v := 2) dX7_throwsOne___13 rfl ?_
      refine z_goto (tgt := 26) dX7_throwsOne___14 (by decide) ?_
      refine z_put (k := 15) (ty := tyX7) dX7_throwsOne___26 rfl rfl (by decide) zf_X7_64 zw_in7 tyX7_ok nmX7 rfl (fun _ => ⟨rfl, rfl⟩) (Nat.le_of_ble_eq_true rfl) ?_
      refine Z.heap (h2 := mh (sI 15 (2) S)) rfl ?_
      refine z_iload_1 dX7_throwsOne___29 ?_
      refine z_ifB_ne_f (tgt := 41) dX7_throwsOne___30 (by decide) c2 ?_
      refine z_iload_2 dX7_throwsOne___33 ?_
      refine z_ifB_ne_t (tgt := 41) dX7_throwsOne___34 (by decide) c10 ?_
      refine z_iconst (v := 1) dX7_throwsOne___41 rfl ?_
      refine z_goto (tgt := 46) dX7_throwsOne___42 (by decide) ?_
      rw [g_m_throwsOne__, if_neg c2, if_pos c10]
      exact z_iret dX7_throwsOne___46 rfl rfl rfl rfl
  · refine z_iconst (v := 1) dX7_throwsOne___5 rfl ?_
    refine z_goto (tgt := 26) dX7_throwsOne___6 (by decide) ?_
    refine z_put (k := 15) (ty := tyX7) dX7_throwsOne___26 rfl rfl (by decide) zf_X7_64 zw_in7 tyX7_ok nmX7 rfl (fun _ => ⟨rfl, rfl⟩) (Nat.le_of_ble_eq_true rfl) ?_
    refine Z.heap (h2 := mh (sI 15 (1) S)) rfl ?_
    refine z_iload_1 dX7_throwsOne___29 ?_
    refine z_ifB_ne_t (tgt := 41) dX7_throwsOne___30 (by decide) c2 ?_
    refine z_iconst (v := 1) dX7_throwsOne___41 rfl ?_
    refine z_goto (tgt := 46) dX7_throwsOne___42 (by decide) ?_
    rw [g_m_throwsOne__, if_pos c2]
    exact z_iret dX7_throwsOne___46 rfl rfl rfl rfl
