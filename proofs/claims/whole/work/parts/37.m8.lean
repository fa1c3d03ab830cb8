variable {sc : SC}

noncomputable def g_m_sortOf (c : Int32) : Int32 := (if c = 59 then 1 else (if c < 97 then (if c < 48 then (if c = 45 then 4 else (if c = 40 then 5 else (if c = 41 then 6 else 7))) else (if 57 < c then (if c = 45 then 4 else (if c = 40 then 5 else (if c = 41 then 6 else 7))) else 3)) else (if 122 < c then (if c < 48 then (if c = 45 then 4 else (if c = 40 then 5 else (if c = 41 then 6 else 7))) else (if 57 < c then (if c = 45 then 4 else (if c = 40 then 5 else (if c = 41 then 6 else 7))) else 3)) else 2)))
theorem k_m_sortOf (c : Int32)  : zM sc yX7_sortOf cX7_sortOf 1 (some .int) 0 0 0 [.int (c)] ([]) (.inl (some (.int (g_m_sortOf c)))) ([]) := by
  refine zM.at (ls := [some (.int (c))]) zy_X7_sortOf.2.2.2.2 (Nat.le_of_ble_eq_true rfl) rfl ?_
  refine z_iload_0 dX7_sortOf_0 ?_
  refine z_bipush (v := 59) dX7_sortOf_1 rfl ?_
  refine z_icmp_ne (tgt := 10) dX7_sortOf_3 (by decide) (fun c3 => ?_) (fun c3 => ?_)
  · refine z_iload_0 dX7_sortOf_10 ?_
    refine z_bipush (v := 97) dX7_sortOf_11 rfl ?_
    refine z_icmp_lt (tgt := 26) dX7_sortOf_13 (by decide) (fun c13 => ?_) (fun c13 => ?_)
    · refine z_iload_0 dX7_sortOf_26 ?_
      refine z_bipush (v := 48) dX7_sortOf_27 rfl ?_
      refine z_icmp_lt (tgt := 42) dX7_sortOf_29 (by decide) (fun c29 => ?_) (fun c29 => ?_)
      · refine z_iload_0 dX7_sortOf_42 ?_
        refine z_bipush (v := 45) dX7_sortOf_43 rfl ?_
        refine z_icmp_ne (tgt := 52) dX7_sortOf_45 (by decide) (fun c45 => ?_) (fun c45 => ?_)
        · refine z_iload_0 dX7_sortOf_52 ?_
          refine z_bipush (v := 40) dX7_sortOf_53 rfl ?_
          refine z_icmp_ne (tgt := 62) dX7_sortOf_55 (by decide) (fun c55 => ?_) (fun c55 => ?_)
          · refine z_iload_0 dX7_sortOf_62 ?_
            refine z_bipush (v := 41) dX7_sortOf_63 rfl ?_
            refine z_icmp_ne (tgt := 73) dX7_sortOf_65 (by decide) (fun c65 => ?_) (fun c65 => ?_)
            · refine z_bipush (v := 7) dX7_sortOf_73 rfl ?_
              rw [g_m_sortOf, if_neg c3, if_pos c13, if_pos c29, if_neg c45, if_neg c55, if_neg c65]
              exact z_iret dX7_sortOf_75 rfl rfl rfl rfl
            · refine z_bipush (v := 6) dX7_sortOf_68 rfl ?_
              refine z_goto (tgt := 75) dX7_sortOf_70 (by decide) ?_
              rw [g_m_sortOf, if_neg c3, if_pos c13, if_pos c29, if_neg c45, if_neg c55, if_pos c65]
              exact z_iret dX7_sortOf_75 rfl rfl rfl rfl
          · refine z_iconst (v := 5) dX7_sortOf_58 rfl ?_
            refine z_goto (tgt := 75) dX7_sortOf_59 (by decide) ?_
            rw [g_m_sortOf, if_neg c3, if_pos c13, if_pos c29, if_neg c45, if_pos c55]
            exact z_iret dX7_sortOf_75 rfl rfl rfl rfl
        · refine z_iconst (v := 4) dX7_sortOf_48 rfl ?_
          refine z_goto (tgt := 75) dX7_sortOf_49 (by decide) ?_
          rw [g_m_sortOf, if_neg c3, if_pos c13, if_pos c29, if_pos c45]
          exact z_iret dX7_sortOf_75 rfl rfl rfl rfl
      · refine z_iload_0 dX7_sortOf_32 ?_
        refine z_bipush (v := 57) dX7_sortOf_33 rfl ?_
        refine z_icmp_gt (tgt := 42) dX7_sortOf_35 (by decide) (fun c35 => ?_) (fun c35 => ?_)
        · refine z_iload_0 dX7_sortOf_42 ?_
          refine z_bipush (v := 45) dX7_sortOf_43 rfl ?_
          refine z_icmp_ne (tgt := 52) dX7_sortOf_45 (by decide) (fun c45 => ?_) (fun c45 => ?_)
          · refine z_iload_0 dX7_sortOf_52 ?_
            refine z_bipush (v := 40) dX7_sortOf_53 rfl ?_
            refine z_icmp_ne (tgt := 62) dX7_sortOf_55 (by decide) (fun c55 => ?_) (fun c55 => ?_)
            · refine z_iload_0 dX7_sortOf_62 ?_
              refine z_bipush (v := 41) dX7_sortOf_63 rfl ?_
              refine z_icmp_ne (tgt := 73) dX7_sortOf_65 (by decide) (fun c65 => ?_) (fun c65 => ?_)
              · refine z_bipush (v := 7) dX7_sortOf_73 rfl ?_
                rw [g_m_sortOf, if_neg c3, if_pos c13, if_neg c29, if_pos c35, if_neg c45, if_neg c55, if_neg c65]
                exact z_iret dX7_sortOf_75 rfl rfl rfl rfl
              · refine z_bipush (v := 6) dX7_sortOf_68 rfl ?_
                refine z_goto (tgt := 75) dX7_sortOf_70 (by decide) ?_
                rw [g_m_sortOf, if_neg c3, if_pos c13, if_neg c29, if_pos c35, if_neg c45, if_neg c55, if_pos c65]
                exact z_iret dX7_sortOf_75 rfl rfl rfl rfl
            · refine z_iconst (v := 5) dX7_sortOf_58 rfl ?_
              refine z_goto (tgt := 75) dX7_sortOf_59 (by decide) ?_
              rw [g_m_sortOf, if_neg c3, if_pos c13, if_neg c29, if_pos c35, if_neg c45, if_pos c55]
              exact z_iret dX7_sortOf_75 rfl rfl rfl rfl
          · refine z_iconst (v := 4) dX7_sortOf_48 rfl ?_
            refine z_goto (tgt := 75) dX7_sortOf_49 (by decide) ?_
            rw [g_m_sortOf, if_neg c3, if_pos c13, if_neg c29, if_pos c35, if_pos c45]
            exact z_iret dX7_sortOf_75 rfl rfl rfl rfl
        · refine z_iconst (v := 3) dX7_sortOf_38 rfl ?_
          refine z_goto (tgt := 75) dX7_sortOf_39 (by decide) ?_
          rw [g_m_sortOf, if_neg c3, if_pos c13, if_neg c29, if_neg c35]
          exact z_iret dX7_sortOf_75 rfl rfl rfl rfl
    · refine z_iload_0 dX7_sortOf_16 ?_
      refine z_bipush (v := 122) dX7_sortOf_17 rfl ?_
      refine z_icmp_gt (tgt := 26) dX7_sortOf_19 (by decide) (fun c19 => ?_) (fun c19 => ?_)
      · refine z_iload_0 dX7_sortOf_26 ?_
        refine z_bipush (v := 48) dX7_sortOf_27 rfl ?_
        refine z_icmp_lt (tgt := 42) dX7_sortOf_29 (by decide) (fun c29 => ?_) (fun c29 => ?_)
        · refine z_iload_0 dX7_sortOf_42 ?_
          refine z_bipush (v := 45) dX7_sortOf_43 rfl ?_
          refine z_icmp_ne (tgt := 52) dX7_sortOf_45 (by decide) (fun c45 => ?_) (fun c45 => ?_)
          · refine z_iload_0 dX7_sortOf_52 ?_
            refine z_bipush (v := 40) dX7_sortOf_53 rfl ?_
            refine z_icmp_ne (tgt := 62) dX7_sortOf_55 (by decide) (fun c55 => ?_) (fun c55 => ?_)
            · refine z_iload_0 dX7_sortOf_62 ?_
              refine z_bipush (v := 41) dX7_sortOf_63 rfl ?_
              refine z_icmp_ne (tgt := 73) dX7_sortOf_65 (by decide) (fun c65 => ?_) (fun c65 => ?_)
              · refine z_bipush (v := 7) dX7_sortOf_73 rfl ?_
                rw [g_m_sortOf, if_neg c3, if_neg c13, if_pos c19, if_pos c29, if_neg c45, if_neg c55, if_neg c65]
                exact z_iret dX7_sortOf_75 rfl rfl rfl rfl
              · refine z_bipush (v := 6) dX7_sortOf_68 rfl ?_
                refine z_goto (tgt := 75) dX7_sortOf_70 (by decide) ?_
                rw [g_m_sortOf, if_neg c3, if_neg c13, if_pos c19, if_pos c29, if_neg c45, if_neg c55, if_pos c65]
                exact z_iret dX7_sortOf_75 rfl rfl rfl rfl
            · refine z_iconst (v := 5) dX7_sortOf_58 rfl ?_
              refine z_goto (tgt := 75) dX7_sortOf_59 (by decide) ?_
              rw [g_m_sortOf, if_neg c3, if_neg c13, if_pos c19, if_pos c29, if_neg c45, if_pos c55]
              exact z_iret dX7_sortOf_75 rfl rfl rfl rfl
          · refine z_iconst (v := 4) dX7_sortOf_48 rfl ?_
            refine z_goto (tgt := 75) dX7_sortOf_49 (by decide) ?_
            rw [g_m_sortOf, if_neg c3, if_neg c13, if_pos c19, if_pos c29, if_pos c45]
            exact z_iret dX7_sortOf_75 rfl rfl rfl rfl
        · refine z_iload_0 dX7_sortOf_32 ?_
          refine z_bipush (v := 57) dX7_sortOf_33 rfl ?_
          refine z_icmp_gt (tgt := 42) dX7_sortOf_35 (by decide) (fun c35 => ?_) (fun c35 => ?_)
          · refine z_iload_0 dX7_sortOf_42 ?_
            refine z_bipush (v := 45) dX7_sortOf_43 rfl ?_
            refine z_icmp_ne (tgt := 52) dX7_sortOf_45 (by decide) (fun c45 => ?_) (fun c45 => ?_)
            · refine z_iload_0 dX7_sortOf_52 ?_
              refine z_bipush (v := 40) dX7_sortOf_53 rfl ?_
              refine z_icmp_ne (tgt := 62) dX7_sortOf_55 (by decide) (fun c55 => ?_) (fun c55 => ?_)
              · refine z_iload_0 dX7_sortOf_62 ?_
                refine z_bipush (v := 41) dX7_sortOf_63 rfl ?_
                refine z_icmp_ne (tgt := 73) dX7_sortOf_65 (by decide) (fun c65 => ?_) (fun c65 => ?_)
                · refine z_bipush (v := 7) dX7_sortOf_73 rfl ?_
                  rw [g_m_sortOf, if_neg c3, if_neg c13, if_pos c19, if_neg c29, if_pos c35, if_neg c45, if_neg c55, if_neg c65]
                  exact z_iret dX7_sortOf_75 rfl rfl rfl rfl
                · refine z_bipush (v := 6) dX7_sortOf_68 rfl ?_
                  refine z_goto (tgt := 75) dX7_sortOf_70 (by decide) ?_
                  rw [g_m_sortOf, if_neg c3, if_neg c13, if_pos c19, if_neg c29, if_pos c35, if_neg c45, if_neg c55, if_pos c65]
                  exact z_iret dX7_sortOf_75 rfl rfl rfl rfl
              · refine z_iconst (v := 5) dX7_sortOf_58 rfl ?_
                refine z_goto (tgt := 75) dX7_sortOf_59 (by decide) ?_
                rw [g_m_sortOf, if_neg c3, if_neg c13, if_pos c19, if_neg c29, if_pos c35, if_neg c45, if_pos c55]
                exact z_iret dX7_sortOf_75 rfl rfl rfl rfl
            · refine z_iconst (v := 4) dX7_sortOf_48 rfl ?_
              refine z_goto (tgt := 75) dX7_sortOf_49 (by decide) ?_
              rw [g_m_sortOf, if_neg c3, if_neg c13, if_pos c19, if_neg c29, if_pos c35, if_pos c45]
              exact z_iret dX7_sortOf_75 rfl rfl rfl rfl
          · refine z_iconst (v := 3) dX7_sortOf_38 rfl ?_
            refine z_goto (tgt := 75) dX7_sortOf_39 (by decide) ?_
            rw [g_m_sortOf, if_neg c3, if_neg c13, if_pos c19, if_neg c29, if_neg c35]
            exact z_iret dX7_sortOf_75 rfl rfl rfl rfl
      · refine z_iconst (v := 2) dX7_sortOf_22 rfl ?_
        refine z_goto (tgt := 75) dX7_sortOf_23 (by decide) ?_
        rw [g_m_sortOf, if_neg c3, if_neg c13, if_neg c19]
        exact z_iret dX7_sortOf_75 rfl rfl rfl rfl
  · refine z_iconst (v := 1) dX7_sortOf_6 rfl ?_
    refine z_goto (tgt := 75) dX7_sortOf_7 (by decide) ?_
    rw [g_m_sortOf, if_pos c3]
    exact z_iret dX7_sortOf_75 rfl rfl rfl rfl
/-- the token's begin and end -/
def mo (S : ZS) : Nat := (S.1 24).toNatClampNeg
def me (S : ZS) : Nat := (S.1 25).toNatClampNeg
def mTk (tl : Nat) (S : ZS) : Prop := S.1 10 = nI tl ∧ tl ≤ 600 ∧ S.1 25 = nI (me S) ∧ me S ≤ tl
def mLx (tl : Nat) (S : ZS) : Prop := mTk tl S ∧ S.1 24 = nI (mo S) ∧ mo S ≤ me S
noncomputable def g_m_next_L3 (tl : Nat) : Nat → Nat → Nat → ZS → ZS
  | 0, _, _, S => S
  | fu + 1, k, e, S => (if S.1 23 = 3 then g_m_next_L3 tl fu (k + 1) e (sI 26 (((10 * (S.1 26)) + (S.2 6 (k))) - 48) S) else S)
theorem l_g_m_next_L3 (tl : Nat) : ∀ (fu : Nat) (k : Nat) (e : Nat) (S : ZS) , (S.1 10 = nI tl) → (tl ≤ 600) → (k + fu = e) → (e ≤ 600) → (S.1 25 = nI e) → Z sc yX7_next cX7_next 2 none 1 0 0 207 [some (.ref 0), some (.int (nI (k)))] [] (mh S) (.inl none) (mh (g_m_next_L3 tl fu k e S)) := by
  intro fu
  induction fu with
  | zero =>
    intro k e S ht h6 hk he h_e
    refine z_iload_1 dX7_next_207 ?_
    refine z_aload_0 dX7_next_208 ?_
    refine z_get (k := 25) (v := .int (S.1 25)) dX7_next_209 rfl rfl rfl (by decide) zf_X7_159 zw_in7 ?_
    refine z_topi (w := nI (e)) h_e ?_
    refine z_icmpN_ge_t (tgt := 250) dX7_next_212 (by decide) (x := k) (z := e) (by first | omega | assumption) (by first | omega | assumption) (by omega) ?_
    rw [g_m_next_L3]
    exact z_vret dX7_next_250 rfl rfl rfl
  | succ fu ih =>
    intro k e S ht h6 hk he h_e
    refine z_iload_1 dX7_next_207 ?_
    refine z_aload_0 dX7_next_208 ?_
    refine z_get (k := 25) (v := .int (S.1 25)) dX7_next_209 rfl rfl rfl (by decide) zf_X7_159 zw_in7 ?_
    refine z_topi (w := nI (e)) h_e ?_
    refine z_icmpN_ge_f (tgt := 250) dX7_next_212 (by decide) (x := k) (z := e) (by first | omega | assumption) (by first | omega | assumption) (by omega) ?_
    refine z_aload_0 dX7_next_215 ?_
    refine z_get (k := 23) (v := .int (S.1 23)) dX7_next_216 rfl rfl rfl (by decide) zf_X7_165 zw_in7 ?_
    refine z_iconst (v := 3) dX7_next_219 rfl ?_
    refine z_icmp_ne (tgt := 250) dX7_next_220 (by decide) (fun c220 => ?_) (fun c220 => ?_)
    · rw [g_m_next_L3, if_neg c220]
      exact z_vret dX7_next_250 rfl rfl rfl
    · refine z_aload_0 dX7_next_223 ?_
      refine z_bipush (v := 10) dX7_next_224 rfl ?_
      refine z_aload_0 dX7_next_226 ?_
      refine z_get (k := 26) (v := .int (S.1 26)) dX7_next_227 rfl rfl rfl (by decide) zf_X7_171 zw_in7 ?_
      refine z_imul dX7_next_230 ?_
      refine z_aload_0 dX7_next_231 ?_
      refine z_get (k := 8) (v := .ref 7) dX7_next_232 rfl rfl rfl (by decide) zf_X7_28 zw_in7 ?_
      refine z_iload_1 dX7_next_235 ?_
      refine z_ialdN (k := k) dX7_next_236 rfl (by first | omega | assumption) (by decide) ?_
      refine z_topi (w := S.2 6 (k)) rfl ?_
      refine z_iadd dX7_next_237 ?_
      refine z_bipush (v := 48) dX7_next_238 rfl ?_
      refine z_isub dX7_next_240 ?_
      refine z_put (k := 26) (ty := tyX7) dX7_next_241 rfl rfl (by decide) zf_X7_171 zw_in7 tyX7_ok nmX7 rfl (fun _ => ⟨rfl, rfl⟩) (Nat.le_of_ble_eq_true rfl) ?_
      refine Z.heap (h2 := mh (sI 26 (((10 * (S.1 26)) + (S.2 6 (k))) - 48) S)) rfl ?_
      refine z_iinc_1 (v := nI (k + 1)) dX7_next_244 (nI_add _ 1) rfl (by decide) ?_
      refine z_goto (tgt := 207) dX7_next_247 (by decide) ?_
      rw [g_m_next_L3, if_pos c220]
      exact ih (k + 1) e (sI 26 (((10 * (S.1 26)) + (S.2 6 (k))) - 48) S) (by exact ht) (by first | omega | assumption) (by first | omega | assumption) (by first | omega | assumption) (by first | rfl | exact h_e)
noncomputable def g_m_next_L2 (tl : Nat) : Nat → Nat → Nat → ZS → ZS
  | 0, q, o, S => (if S.1 23 = 2 then (if S.1 23 = 3 then (if q - o ≤ 4 then g_m_next_L3 tl (q - o) o q (sI 26 (0) S) else g_m_next_L3 tl (q - o) o q (sI 26 (0) (sI 23 (7) S))) else g_m_next_L3 tl (q - o) o q (sI 26 (0) S)) else (if S.1 23 = 3 then (if q - o ≤ 4 then g_m_next_L3 tl (q - o) o q (sI 26 (0) S) else g_m_next_L3 tl (q - o) o q (sI 26 (0) (sI 23 (7) S))) else g_m_next_L3 tl (q - o) o q (sI 26 (0) S)))
  | fu + 1, q, o, S => (if S.1 23 = 2 then (if (g_m_sortOf (S.2 6 (q))) = S.1 23 then g_m_next_L2 tl fu (q + 1) o (sI 25 (nI (q + 1)) S) else (if S.1 23 = 3 then (if q - o ≤ 4 then g_m_next_L3 tl (q - o) o q (sI 26 (0) S) else g_m_next_L3 tl (q - o) o q (sI 26 (0) (sI 23 (7) S))) else g_m_next_L3 tl (q - o) o q (sI 26 (0) S))) else (if S.1 23 = 3 then (if (g_m_sortOf (S.2 6 (q))) = S.1 23 then g_m_next_L2 tl fu (q + 1) o (sI 25 (nI (q + 1)) S) else (if q - o ≤ 4 then g_m_next_L3 tl (q - o) o q (sI 26 (0) S) else g_m_next_L3 tl (q - o) o q (sI 26 (0) (sI 23 (7) S)))) else g_m_next_L3 tl (q - o) o q (sI 26 (0) S)))
theorem l_g_m_next_L2 (tl : Nat) : ∀ (fu : Nat) (q : Nat) (o : Nat) (S : ZS) (j1 : Option Value), (S.1 10 = nI tl) → (tl ≤ 600) → (q + fu = tl) → (o ≤ q) → (S.1 25 = nI q) → (S.1 24 = nI o) → Z sc yX7_next cX7_next 2 none 1 0 0 111 [some (.ref 0), j1] [] (mh S) (.inl none) (mh (g_m_next_L2 tl fu q o S)) := by
  intro fu
  induction fu with
  | zero =>
    intro q o S j1 ht h6 hq hoq h_q h_o
    refine z_aload_0 dX7_next_111 ?_
    refine z_get (k := 23) (v := .int (S.1 23)) dX7_next_112 rfl rfl rfl (by decide) zf_X7_165 zw_in7 ?_
    refine z_iconst (v := 2) dX7_next_115 rfl ?_
    refine z_icmp_eq (tgt := 127) dX7_next_116 (by decide) (fun c116 => ?_) (fun c116 => ?_)
    · refine z_aload_0 dX7_next_127 ?_
      refine z_get (k := 25) (v := .int (S.1 25)) dX7_next_128 rfl rfl rfl (by decide) zf_X7_159 zw_in7 ?_
      refine z_topi (w := nI (q)) h_q ?_
      refine z_aload_0 dX7_next_131 ?_
      refine z_get (k := 10) (v := .int (S.1 10)) dX7_next_132 rfl rfl rfl (by decide) zf_X7_152 zw_in7 ?_
      refine z_topi (w := nI (tl)) ht ?_
      refine z_icmpN_ge_t (tgt := 170) dX7_next_135 (by decide) (x := q) (z := tl) (by first | omega | assumption) (by first | omega | assumption) (by omega) ?_
      refine z_aload_0 dX7_next_170 ?_
      refine z_get (k := 23) (v := .int (S.1 23)) dX7_next_171 rfl rfl rfl (by decide) zf_X7_165 zw_in7 ?_
      refine z_iconst (v := 3) dX7_next_174 rfl ?_
      refine z_icmp_ne (tgt := 197) dX7_next_175 (by decide) (fun c175 => ?_) (fun c175 => ?_)
      · refine z_aload_0 dX7_next_197 ?_
        refine z_iconst (v := 0) dX7_next_198 rfl ?_
        refine z_put (k := 26) (ty := tyX7) dX7_next_199 rfl rfl (by decide) zf_X7_171 zw_in7 tyX7_ok nmX7 rfl (fun _ => ⟨rfl, rfl⟩) (Nat.le_of_ble_eq_true rfl) ?_
        refine Z.heap (h2 := mh (sI 26 (0) S)) rfl ?_
        refine z_aload_0 dX7_next_202 ?_
        refine z_get (k := 24) (v := .int (S.1 24)) dX7_next_203 rfl rfl rfl (by decide) zf_X7_162 zw_in7 ?_
        refine z_topi (w := nI (o)) h_o ?_
        refine z_istore_1 dX7_next_206 rfl (by decide) ?_
        rw [g_m_next_L2, if_pos c116, if_neg c175]
        exact l_g_m_next_L3 tl (q - o) o q (sI 26 (0) S) (by first | exact ht | exact hT.1) (by first | exact h6 | exact hT.2.1) (by first | omega | assumption) (by first | omega | assumption) (by first | rfl | exact h_q | exact h_e | exact hT.2.2.1)
      · refine z_aload_0 dX7_next_178 ?_
        refine z_get (k := 25) (v := .int (S.1 25)) dX7_next_179 rfl rfl rfl (by decide) zf_X7_159 zw_in7 ?_
        refine z_topi (w := nI (q)) h_q ?_
        refine z_aload_0 dX7_next_182 ?_
        refine z_get (k := 24) (v := .int (S.1 24)) dX7_next_183 rfl rfl rfl (by decide) zf_X7_162 zw_in7 ?_
        refine z_topi (w := nI (o)) h_o ?_
        refine z_isub dX7_next_186 ?_
        refine z_topi (w := nI (q - o)) (pk_sub (a := q) (b := o) (by first | omega | assumption)) ?_
        refine z_iconst (v := 4) dX7_next_187 rfl ?_
        refine z_icmpN_le (tgt := 197) dX7_next_188 (by decide) (x := q - o) (z := 4) (by first | omega | assumption) (by first | omega | assumption) (fun c188 => ?_) (fun c188 => ?_)
        · refine z_aload_0 dX7_next_197 ?_
          refine z_iconst (v := 0) dX7_next_198 rfl ?_
          refine z_put (k := 26) (ty := tyX7) dX7_next_199 rfl rfl (by decide) zf_X7_171 zw_in7 tyX7_ok nmX7 rfl (fun _ => ⟨rfl, rfl⟩) (Nat.le_of_ble_eq_true rfl) ?_
          refine Z.heap (h2 := mh (sI 26 (0) S)) rfl ?_
          refine z_aload_0 dX7_next_202 ?_
          refine z_get (k := 24) (v := .int (S.1 24)) dX7_next_203 rfl rfl rfl (by decide) zf_X7_162 zw_in7 ?_
          refine z_topi (w := nI (o)) h_o ?_
          refine z_istore_1 dX7_next_206 rfl (by decide) ?_
          rw [g_m_next_L2, if_pos c116, if_pos c175, if_pos c188]
          exact l_g_m_next_L3 tl (q - o) o q (sI 26 (0) S) (by first | exact ht | exact hT.1) (by first | exact h6 | exact hT.2.1) (by first | omega | assumption) (by first | omega | assumption) (by first | rfl | exact h_q | exact h_e | exact hT.2.2.1)
        · refine z_aload_0 dX7_next_191 ?_
          refine z_bipush (v := 7) dX7_next_192 rfl ?_
          refine z_put (k := 23) (ty := tyX7) dX7_next_194 rfl rfl (by decide) zf_X7_165 zw_in7 tyX7_ok nmX7 rfl (fun _ => ⟨rfl, rfl⟩) (Nat.le_of_ble_eq_true rfl) ?_
          refine Z.heap (h2 := mh (sI 23 (7) S)) rfl ?_
          refine z_aload_0 dX7_next_197 ?_
          refine z_iconst (v := 0) dX7_next_198 rfl ?_
          refine z_put (k := 26) (ty := tyX7) dX7_next_199 rfl rfl (by decide) zf_X7_171 zw_in7 tyX7_ok nmX7 rfl (fun _ => ⟨rfl, rfl⟩) (Nat.le_of_ble_eq_true rfl) ?_
          refine Z.heap (h2 := mh (sI 26 (0) (sI 23 (7) S))) rfl ?_
          refine z_aload_0 dX7_next_202 ?_
          refine z_get (k := 24) (v := .int (S.1 24)) dX7_next_203 rfl rfl rfl (by decide) zf_X7_162 zw_in7 ?_
          refine z_topi (w := nI (o)) h_o ?_
          refine z_istore_1 dX7_next_206 rfl (by decide) ?_
          rw [g_m_next_L2, if_pos c116, if_pos c175, if_neg c188]
          exact l_g_m_next_L3 tl (q - o) o q (sI 26 (0) (sI 23 (7) S)) (by first | exact ht | exact hT.1) (by first | exact h6 | exact hT.2.1) (by first | omega | assumption) (by first | omega | assumption) (by first | rfl | exact h_q | exact h_e | exact hT.2.2.1)
    · refine z_aload_0 dX7_next_119 ?_
      refine z_get (k := 23) (v := .int (S.1 23)) dX7_next_120 rfl rfl rfl (by decide) zf_X7_165 zw_in7 ?_
      refine z_iconst (v := 3) dX7_next_123 rfl ?_
      refine z_icmp_ne (tgt := 170) dX7_next_124 (by decide) (fun c124 => ?_) (fun c124 => ?_)
      · refine z_aload_0 dX7_next_170 ?_
        refine z_get (k := 23) (v := .int (S.1 23)) dX7_next_171 rfl rfl rfl (by decide) zf_X7_165 zw_in7 ?_
        refine z_iconst (v := 3) dX7_next_174 rfl ?_
        refine z_icmp_ne_t (tgt := 197) dX7_next_175 (by decide) c124 ?_
        refine z_aload_0 dX7_next_197 ?_
        refine z_iconst (v := 0) dX7_next_198 rfl ?_
        refine z_put (k := 26) (ty := tyX7) dX7_next_199 rfl rfl (by decide) zf_X7_171 zw_in7 tyX7_ok nmX7 rfl (fun _ => ⟨rfl, rfl⟩) (Nat.le_of_ble_eq_true rfl) ?_
        refine Z.heap (h2 := mh (sI 26 (0) S)) rfl ?_
        refine z_aload_0 dX7_next_202 ?_
        refine z_get (k := 24) (v := .int (S.1 24)) dX7_next_203 rfl rfl rfl (by decide) zf_X7_162 zw_in7 ?_
        refine z_topi (w := nI (o)) h_o ?_
        refine z_istore_1 dX7_next_206 rfl (by decide) ?_
        rw [g_m_next_L2, if_neg c116, if_neg c124]
        exact l_g_m_next_L3 tl (q - o) o q (sI 26 (0) S) (by first | exact ht | exact hT.1) (by first | exact h6 | exact hT.2.1) (by first | omega | assumption) (by first | omega | assumption) (by first | rfl | exact h_q | exact h_e | exact hT.2.2.1)
      · refine z_aload_0 dX7_next_127 ?_
        refine z_get (k := 25) (v := .int (S.1 25)) dX7_next_128 rfl rfl rfl (by decide) zf_X7_159 zw_in7 ?_
        refine z_topi (w := nI (q)) h_q ?_
        refine z_aload_0 dX7_next_131 ?_
        refine z_get (k := 10) (v := .int (S.1 10)) dX7_next_132 rfl rfl rfl (by decide) zf_X7_152 zw_in7 ?_
        refine z_topi (w := nI (tl)) ht ?_
        refine z_icmpN_ge_t (tgt := 170) dX7_next_135 (by decide) (x := q) (z := tl) (by first | omega | assumption) (by first | omega | assumption) (by omega) ?_
        refine z_aload_0 dX7_next_170 ?_
        refine z_get (k := 23) (v := .int (S.1 23)) dX7_next_171 rfl rfl rfl (by decide) zf_X7_165 zw_in7 ?_
        refine z_iconst (v := 3) dX7_next_174 rfl ?_
        refine z_icmp_ne_f (tgt := 197) dX7_next_175 (by decide) c124 ?_
        refine z_aload_0 dX7_next_178 ?_
        refine z_get (k := 25) (v := .int (S.1 25)) dX7_next_179 rfl rfl rfl (by decide) zf_X7_159 zw_in7 ?_
        refine z_topi (w := nI (q)) h_q ?_
        refine z_aload_0 dX7_next_182 ?_
        refine z_get (k := 24) (v := .int (S.1 24)) dX7_next_183 rfl rfl rfl (by decide) zf_X7_162 zw_in7 ?_
        refine z_topi (w := nI (o)) h_o ?_
        refine z_isub dX7_next_186 ?_
        refine z_topi (w := nI (q - o)) (pk_sub (a := q) (b := o) (by first | omega | assumption)) ?_
        refine z_iconst (v := 4) dX7_next_187 rfl ?_
        refine z_icmpN_le (tgt := 197) dX7_next_188 (by decide) (x := q - o) (z := 4) (by first | omega | assumption) (by first | omega | assumption) (fun c188 => ?_) (fun c188 => ?_)
        · refine z_aload_0 dX7_next_197 ?_
          refine z_iconst (v := 0) dX7_next_198 rfl ?_
          refine z_put (k := 26) (ty := tyX7) dX7_next_199 rfl rfl (by decide) zf_X7_171 zw_in7 tyX7_ok nmX7 rfl (fun _ => ⟨rfl, rfl⟩) (Nat.le_of_ble_eq_true rfl) ?_
          refine Z.heap (h2 := mh (sI 26 (0) S)) rfl ?_
          refine z_aload_0 dX7_next_202 ?_
          refine z_get (k := 24) (v := .int (S.1 24)) dX7_next_203 rfl rfl rfl (by decide) zf_X7_162 zw_in7 ?_
          refine z_topi (w := nI (o)) h_o ?_
          refine z_istore_1 dX7_next_206 rfl (by decide) ?_
          rw [g_m_next_L2, if_neg c116, if_pos c124, if_pos c188]
          exact l_g_m_next_L3 tl (q - o) o q (sI 26 (0) S) (by first | exact ht | exact hT.1) (by first | exact h6 | exact hT.2.1) (by first | omega | assumption) (by first | omega | assumption) (by first | rfl | exact h_q | exact h_e | exact hT.2.2.1)
        · refine z_aload_0 dX7_next_191 ?_
          refine z_bipush (v := 7) dX7_next_192 rfl ?_
          refine z_put (k := 23) (ty := tyX7) dX7_next_194 rfl rfl (by decide) zf_X7_165 zw_in7 tyX7_ok nmX7 rfl (fun _ => ⟨rfl, rfl⟩) (Nat.le_of_ble_eq_true rfl) ?_
          refine Z.heap (h2 := mh (sI 23 (7) S)) rfl ?_
          refine z_aload_0 dX7_next_197 ?_
          refine z_iconst (v := 0) dX7_next_198 rfl ?_
          refine z_put (k := 26) (ty := tyX7) dX7_next_199 rfl rfl (by decide) zf_X7_171 zw_in7 tyX7_ok nmX7 rfl (fun _ => ⟨rfl, rfl⟩) (Nat.le_of_ble_eq_true rfl) ?_
          refine Z.heap (h2 := mh (sI 26 (0) (sI 23 (7) S))) rfl ?_
          refine z_aload_0 dX7_next_202 ?_
          refine z_get (k := 24) (v := .int (S.1 24)) dX7_next_203 rfl rfl rfl (by decide) zf_X7_162 zw_in7 ?_
          refine z_topi (w := nI (o)) h_o ?_
          refine z_istore_1 dX7_next_206 rfl (by decide) ?_
          rw [g_m_next_L2, if_neg c116, if_pos c124, if_neg c188]
          exact l_g_m_next_L3 tl (q - o) o q (sI 26 (0) (sI 23 (7) S)) (by first | exact ht | exact hT.1) (by first | exact h6 | exact hT.2.1) (by first | omega | assumption) (by first | omega | assumption) (by first | rfl | exact h_q | exact h_e | exact hT.2.2.1)
  | succ fu ih =>
    intro q o S j1 ht h6 hq hoq h_q h_o
    refine z_aload_0 dX7_next_111 ?_
    refine z_get (k := 23) (v := .int (S.1 23)) dX7_next_112 rfl rfl rfl (by decide) zf_X7_165 zw_in7 ?_
    refine z_iconst (v := 2) dX7_next_115 rfl ?_
    refine z_icmp_eq (tgt := 127) dX7_next_116 (by decide) (fun c116 => ?_) (fun c116 => ?_)
    · refine z_aload_0 dX7_next_127 ?_
      refine z_get (k := 25) (v := .int (S.1 25)) dX7_next_128 rfl rfl rfl (by decide) zf_X7_159 zw_in7 ?_
      refine z_topi (w := nI (q)) h_q ?_
      refine z_aload_0 dX7_next_131 ?_
      refine z_get (k := 10) (v := .int (S.1 10)) dX7_next_132 rfl rfl rfl (by decide) zf_X7_152 zw_in7 ?_
      refine z_topi (w := nI (tl)) ht ?_
      refine z_icmpN_ge_f (tgt := 170) dX7_next_135 (by decide) (x := q) (z := tl) (by first | omega | assumption) (by first | omega | assumption) (by omega) ?_
      refine z_aload_0 dX7_next_138 ?_
      refine z_get (k := 8) (v := .ref 7) dX7_next_139 rfl rfl rfl (by decide) zf_X7_28 zw_in7 ?_
      refine z_aload_0 dX7_next_142 ?_
      refine z_get (k := 25) (v := .int (S.1 25)) dX7_next_143 rfl rfl rfl (by decide) zf_X7_159 zw_in7 ?_
      refine z_topi (w := nI (q)) h_q ?_
      refine z_ialdN (k := q) dX7_next_146 rfl (by first | omega | assumption) (by decide) ?_
      refine z_topi (w := S.2 6 (q)) rfl ?_
      refine Z.callE (zRun.S (ρ := fun i => i) (k_m_sortOf (S.2 6 (q)) ) dX7_next_147 zy_X7_sortOf zm_X7_168 rfl rfl (Nat.le_of_ble_eq_true rfl) (by decide) (by decide)) ?_
      refine z_aload_0 dX7_next_150 ?_
      refine z_get (k := 23) (v := .int (S.1 23)) dX7_next_151 rfl rfl rfl (by decide) zf_X7_165 zw_in7 ?_
      refine z_icmp_ne (tgt := 170) dX7_next_154 (by decide) (fun c154 => ?_) (fun c154 => ?_)
      · refine z_aload_0 dX7_next_170 ?_
        refine z_get (k := 23) (v := .int (S.1 23)) dX7_next_171 rfl rfl rfl (by decide) zf_X7_165 zw_in7 ?_
        refine z_iconst (v := 3) dX7_next_174 rfl ?_
        refine z_icmp_ne (tgt := 197) dX7_next_175 (by decide) (fun c175 => ?_) (fun c175 => ?_)
        · refine z_aload_0 dX7_next_197 ?_
          refine z_iconst (v := 0) dX7_next_198 rfl ?_
          refine z_put (k := 26) (ty := tyX7) dX7_next_199 rfl rfl (by decide) zf_X7_171 zw_in7 tyX7_ok nmX7 rfl (fun _ => ⟨rfl, rfl⟩) (Nat.le_of_ble_eq_true rfl) ?_
          refine Z.heap (h2 := mh (sI 26 (0) S)) rfl ?_
          refine z_aload_0 dX7_next_202 ?_
          refine z_get (k := 24) (v := .int (S.1 24)) dX7_next_203 rfl rfl rfl (by decide) zf_X7_162 zw_in7 ?_
          refine z_topi (w := nI (o)) h_o ?_
          refine z_istore_1 dX7_next_206 rfl (by decide) ?_
          rw [g_m_next_L2, if_pos c116, if_neg c154, if_neg c175]
          exact l_g_m_next_L3 tl (q - o) o q (sI 26 (0) S) (by first | exact ht | exact hT.1) (by first | exact h6 | exact hT.2.1) (by first | omega | assumption) (by first | omega | assumption) (by first | rfl | exact h_q | exact h_e | exact hT.2.2.1)
        · refine z_aload_0 dX7_next_178 ?_
          refine z_get (k := 25) (v := .int (S.1 25)) dX7_next_179 rfl rfl rfl (by decide) zf_X7_159 zw_in7 ?_
          refine z_topi (w := nI (q)) h_q ?_
          refine z_aload_0 dX7_next_182 ?_
          refine z_get (k := 24) (v := .int (S.1 24)) dX7_next_183 rfl rfl rfl (by decide) zf_X7_162 zw_in7 ?_
          refine z_topi (w := nI (o)) h_o ?_
          refine z_isub dX7_next_186 ?_
          refine z_topi (w := nI (q - o)) (pk_sub (a := q) (b := o) (by first | omega | assumption)) ?_
          refine z_iconst (v := 4) dX7_next_187 rfl ?_
          refine z_icmpN_le (tgt := 197) dX7_next_188 (by decide) (x := q - o) (z := 4) (by first | omega | assumption) (by first | omega | assumption) (fun c188 => ?_) (fun c188 => ?_)
          · refine z_aload_0 dX7_next_197 ?_
            refine z_iconst (v := 0) dX7_next_198 rfl ?_
            refine z_put (k := 26) (ty := tyX7) dX7_next_199 rfl rfl (by decide) zf_X7_171 zw_in7 tyX7_ok nmX7 rfl (fun _ => ⟨rfl, rfl⟩) (Nat.le_of_ble_eq_true rfl) ?_
            refine Z.heap (h2 := mh (sI 26 (0) S)) rfl ?_
            refine z_aload_0 dX7_next_202 ?_
            refine z_get (k := 24) (v := .int (S.1 24)) dX7_next_203 rfl rfl rfl (by decide) zf_X7_162 zw_in7 ?_
            refine z_topi (w := nI (o)) h_o ?_
            refine z_istore_1 dX7_next_206 rfl (by decide) ?_
            rw [g_m_next_L2, if_pos c116, if_neg c154, if_pos c175, if_pos c188]
            exact l_g_m_next_L3 tl (q - o) o q (sI 26 (0) S) (by first | exact ht | exact hT.1) (by first | exact h6 | exact hT.2.1) (by first | omega | assumption) (by first | omega | assumption) (by first | rfl | exact h_q | exact h_e | exact hT.2.2.1)
          · refine z_aload_0 dX7_next_191 ?_
            refine z_bipush (v := 7) dX7_next_192 rfl ?_
            refine z_put (k := 23) (ty := tyX7) dX7_next_194 rfl rfl (by decide) zf_X7_165 zw_in7 tyX7_ok nmX7 rfl (fun _ => ⟨rfl, rfl⟩) (Nat.le_of_ble_eq_true rfl) ?_
            refine Z.heap (h2 := mh (sI 23 (7) S)) rfl ?_
            refine z_aload_0 dX7_next_197 ?_
            refine z_iconst (v := 0) dX7_next_198 rfl ?_
            refine z_put (k := 26) (ty := tyX7) dX7_next_199 rfl rfl (by decide) zf_X7_171 zw_in7 tyX7_ok nmX7 rfl (fun _ => ⟨rfl, rfl⟩) (Nat.le_of_ble_eq_true rfl) ?_
            refine Z.heap (h2 := mh (sI 26 (0) (sI 23 (7) S))) rfl ?_
            refine z_aload_0 dX7_next_202 ?_
            refine z_get (k := 24) (v := .int (S.1 24)) dX7_next_203 rfl rfl rfl (by decide) zf_X7_162 zw_in7 ?_
            refine z_topi (w := nI (o)) h_o ?_
            refine z_istore_1 dX7_next_206 rfl (by decide) ?_
            rw [g_m_next_L2, if_pos c116, if_neg c154, if_pos c175, if_neg c188]
            exact l_g_m_next_L3 tl (q - o) o q (sI 26 (0) (sI 23 (7) S)) (by first | exact ht | exact hT.1) (by first | exact h6 | exact hT.2.1) (by first | omega | assumption) (by first | omega | assumption) (by first | rfl | exact h_q | exact h_e | exact hT.2.2.1)
      · refine z_aload_0 dX7_next_157 ?_
        refine z_dup dX7_next_158 rfl ?_
        refine z_get (k := 25) (v := .int (S.1 25)) dX7_next_159 rfl rfl rfl (by decide) zf_X7_159 zw_in7 ?_
        refine z_topi (w := nI (q)) h_q ?_
        refine z_iconst (v := 1) dX7_next_162 rfl ?_
        refine z_iadd dX7_next_163 ?_
        refine z_topi (w := nI (q + 1)) (nI_add _ _) ?_
        refine z_put (k := 25) (ty := tyX7) dX7_next_164 rfl rfl (by decide) zf_X7_159 zw_in7 tyX7_ok nmX7 rfl (fun _ => ⟨rfl, rfl⟩) (Nat.le_of_ble_eq_true rfl) ?_
        refine Z.heap (h2 := mh (sI 25 (nI (q + 1)) S)) rfl ?_
        refine z_goto (tgt := 111) dX7_next_167 (by decide) ?_
        rw [g_m_next_L2, if_pos c116, if_pos c154]
        exact ih (q + 1) o (sI 25 (nI (q + 1)) S) _ (by exact ht) (by first | omega | assumption) (by first | omega | assumption) (by first | omega | assumption) (by first | rfl | exact h_q) (by first | rfl | exact h_o)
    · refine z_aload_0 dX7_next_119 ?_
      refine z_get (k := 23) (v := .int (S.1 23)) dX7_next_120 rfl rfl rfl (by decide) zf_X7_165 zw_in7 ?_
      refine z_iconst (v := 3) dX7_next_123 rfl ?_
      refine z_icmp_ne (tgt := 170) dX7_next_124 (by decide) (fun c124 => ?_) (fun c124 => ?_)
      · refine z_aload_0 dX7_next_170 ?_
        refine z_get (k := 23) (v := .int (S.1 23)) dX7_next_171 rfl rfl rfl (by decide) zf_X7_165 zw_in7 ?_
        refine z_iconst (v := 3) dX7_next_174 rfl ?_
        refine z_icmp_ne_t (tgt := 197) dX7_next_175 (by decide) c124 ?_
        refine z_aload_0 dX7_next_197 ?_
        refine z_iconst (v := 0) dX7_next_198 rfl ?_
        refine z_put (k := 26) (ty := tyX7) dX7_next_199 rfl rfl (by decide) zf_X7_171 zw_in7 tyX7_ok nmX7 rfl (fun _ => ⟨rfl, rfl⟩) (Nat.le_of_ble_eq_true rfl) ?_
        refine Z.heap (h2 := mh (sI 26 (0) S)) rfl ?_
        refine z_aload_0 dX7_next_202 ?_
        refine z_get (k := 24) (v := .int (S.1 24)) dX7_next_203 rfl rfl rfl (by decide) zf_X7_162 zw_in7 ?_
        refine z_topi (w := nI (o)) h_o ?_
        refine z_istore_1 dX7_next_206 rfl (by decide) ?_
        rw [g_m_next_L2, if_neg c116, if_neg c124]
        exact l_g_m_next_L3 tl (q - o) o q (sI 26 (0) S) (by first | exact ht | exact hT.1) (by first | exact h6 | exact hT.2.1) (by first | omega | assumption) (by first | omega | assumption) (by first | rfl | exact h_q | exact h_e | exact hT.2.2.1)
      · refine z_aload_0 dX7_next_127 ?_
        refine z_get (k := 25) (v := .int (S.1 25)) dX7_next_128 rfl rfl rfl (by decide) zf_X7_159 zw_in7 ?_
        refine z_topi (w := nI (q)) h_q ?_
        refine z_aload_0 dX7_next_131 ?_
        refine z_get (k := 10) (v := .int (S.1 10)) dX7_next_132 rfl rfl rfl (by decide) zf_X7_152 zw_in7 ?_
        refine z_topi (w := nI (tl)) ht ?_
        refine z_icmpN_ge_f (tgt := 170) dX7_next_135 (by decide) (x := q) (z := tl) (by first | omega | assumption) (by first | omega | assumption) (by omega) ?_
        refine z_aload_0 dX7_next_138 ?_
        refine z_get (k := 8) (v := .ref 7) dX7_next_139 rfl rfl rfl (by decide) zf_X7_28 zw_in7 ?_
        refine z_aload_0 dX7_next_142 ?_
        refine z_get (k := 25) (v := .int (S.1 25)) dX7_next_143 rfl rfl rfl (by decide) zf_X7_159 zw_in7 ?_
        refine z_topi (w := nI (q)) h_q ?_
        refine z_ialdN (k := q) dX7_next_146 rfl (by first | omega | assumption) (by decide) ?_
        refine z_topi (w := S.2 6 (q)) rfl ?_
        refine Z.callE (zRun.S (ρ := fun i => i) (k_m_sortOf (S.2 6 (q)) ) dX7_next_147 zy_X7_sortOf zm_X7_168 rfl rfl (Nat.le_of_ble_eq_true rfl) (by decide) (by decide)) ?_
        refine z_aload_0 dX7_next_150 ?_
        refine z_get (k := 23) (v := .int (S.1 23)) dX7_next_151 rfl rfl rfl (by decide) zf_X7_165 zw_in7 ?_
        refine z_icmp_ne (tgt := 170) dX7_next_154 (by decide) (fun c154 => ?_) (fun c154 => ?_)
        · refine z_aload_0 dX7_next_170 ?_
          refine z_get (k := 23) (v := .int (S.1 23)) dX7_next_171 rfl rfl rfl (by decide) zf_X7_165 zw_in7 ?_
          refine z_iconst (v := 3) dX7_next_174 rfl ?_
          refine z_icmp_ne_f (tgt := 197) dX7_next_175 (by decide) c124 ?_
          refine z_aload_0 dX7_next_178 ?_
          refine z_get (k := 25) (v := .int (S.1 25)) dX7_next_179 rfl rfl rfl (by decide) zf_X7_159 zw_in7 ?_
          refine z_topi (w := nI (q)) h_q ?_
          refine z_aload_0 dX7_next_182 ?_
          refine z_get (k := 24) (v := .int (S.1 24)) dX7_next_183 rfl rfl rfl (by decide) zf_X7_162 zw_in7 ?_
          refine z_topi (w := nI (o)) h_o ?_
          refine z_isub dX7_next_186 ?_
          refine z_topi (w := nI (q - o)) (pk_sub (a := q) (b := o) (by first | omega | assumption)) ?_
          refine z_iconst (v := 4) dX7_next_187 rfl ?_
          refine z_icmpN_le (tgt := 197) dX7_next_188 (by decide) (x := q - o) (z := 4) (by first | omega | assumption) (by first | omega | assumption) (fun c188 => ?_) (fun c188 => ?_)
          · refine z_aload_0 dX7_next_197 ?_
            refine z_iconst (v := 0) dX7_next_198 rfl ?_
            refine z_put (k := 26) (ty := tyX7) dX7_next_199 rfl rfl (by decide) zf_X7_171 zw_in7 tyX7_ok nmX7 rfl (fun _ => ⟨rfl, rfl⟩) (Nat.le_of_ble_eq_true rfl) ?_
            refine Z.heap (h2 := mh (sI 26 (0) S)) rfl ?_
            refine z_aload_0 dX7_next_202 ?_
            refine z_get (k := 24) (v := .int (S.1 24)) dX7_next_203 rfl rfl rfl (by decide) zf_X7_162 zw_in7 ?_
            refine z_topi (w := nI (o)) h_o ?_
            refine z_istore_1 dX7_next_206 rfl (by decide) ?_
            rw [g_m_next_L2, if_neg c116, if_pos c124, if_neg c154, if_pos c188]
            exact l_g_m_next_L3 tl (q - o) o q (sI 26 (0) S) (by first | exact ht | exact hT.1) (by first | exact h6 | exact hT.2.1) (by first | omega | assumption) (by first | omega | assumption) (by first | rfl | exact h_q | exact h_e | exact hT.2.2.1)
          · refine z_aload_0 dX7_next_191 ?_
            refine z_bipush (v := 7) dX7_next_192 rfl ?_
            refine z_put (k := 23) (ty := tyX7) dX7_next_194 rfl rfl (by decide) zf_X7_165 zw_in7 tyX7_ok nmX7 rfl (fun _ => ⟨rfl, rfl⟩) (Nat.le_of_ble_eq_true rfl) ?_
            refine Z.heap (h2 := mh (sI 23 (7) S)) rfl ?_
            refine z_aload_0 dX7_next_197 ?_
            refine z_iconst (v := 0) dX7_next_198 rfl ?_
            refine z_put (k := 26) (ty := tyX7) dX7_next_199 rfl rfl (by decide) zf_X7_171 zw_in7 tyX7_ok nmX7 rfl (fun _ => ⟨rfl, rfl⟩) (Nat.le_of_ble_eq_true rfl) ?_
            refine Z.heap (h2 := mh (sI 26 (0) (sI 23 (7) S))) rfl ?_
            refine z_aload_0 dX7_next_202 ?_
            refine z_get (k := 24) (v := .int (S.1 24)) dX7_next_203 rfl rfl rfl (by decide) zf_X7_162 zw_in7 ?_
            refine z_topi (w := nI (o)) h_o ?_
            refine z_istore_1 dX7_next_206 rfl (by decide) ?_
            rw [g_m_next_L2, if_neg c116, if_pos c124, if_neg c154, if_neg c188]
            exact l_g_m_next_L3 tl (q - o) o q (sI 26 (0) (sI 23 (7) S)) (by first | exact ht | exact hT.1) (by first | exact h6 | exact hT.2.1) (by first | omega | assumption) (by first | omega | assumption) (by first | rfl | exact h_q | exact h_e | exact hT.2.2.1)
        · refine z_aload_0 dX7_next_157 ?_
          refine z_dup dX7_next_158 rfl ?_
          refine z_get (k := 25) (v := .int (S.1 25)) dX7_next_159 rfl rfl rfl (by decide) zf_X7_159 zw_in7 ?_
          refine z_topi (w := nI (q)) h_q ?_
          refine z_iconst (v := 1) dX7_next_162 rfl ?_
          refine z_iadd dX7_next_163 ?_
          refine z_topi (w := nI (q + 1)) (nI_add _ _) ?_
          refine z_put (k := 25) (ty := tyX7) dX7_next_164 rfl rfl (by decide) zf_X7_159 zw_in7 tyX7_ok nmX7 rfl (fun _ => ⟨rfl, rfl⟩) (Nat.le_of_ble_eq_true rfl) ?_
          refine Z.heap (h2 := mh (sI 25 (nI (q + 1)) S)) rfl ?_
          refine z_goto (tgt := 111) dX7_next_167 (by decide) ?_
          rw [g_m_next_L2, if_neg c116, if_pos c124, if_pos c154]
          exact ih (q + 1) o (sI 25 (nI (q + 1)) S) _ (by exact ht) (by first | omega | assumption) (by first | omega | assumption) (by first | omega | assumption) (by first | rfl | exact h_q) (by first | rfl | exact h_o)
noncomputable def g_m_next_L1 (tl : Nat) : Nat → Nat → ZS → ZS
  | 0, p, S => (sI 23 (0) (sI 25 (nI (p)) S))
  | fu + 1, p, S => (if S.2 6 (p) = 32 then g_m_next_L1 tl fu (p + 1) (sI 24 (nI (p + 1)) S) else (if S.2 6 (p) = 10 then g_m_next_L1 tl fu (p + 1) (sI 24 (nI (p + 1)) S) else g_m_next_L2 tl (tl - (p + 1)) (p + 1) p (sI 25 (nI (p + 1)) (sI 23 ((g_m_sortOf (S.2 6 (p)))) (sI 25 (nI (p)) S)))))
theorem l_g_m_next_L1 (tl : Nat) : ∀ (fu : Nat) (p : Nat) (S : ZS) (j1 : Option Value), (S.1 10 = nI tl) → (tl ≤ 600) → (p + fu = tl) → (S.1 24 = nI p) → Z sc yX7_next cX7_next 2 none 1 0 0 8 [some (.ref 0), j1] [] (mh S) (.inl none) (mh (g_m_next_L1 tl fu p S)) := by
  intro fu
  induction fu with
  | zero =>
    intro p S j1 ht h6 hp h_p
    refine z_aload_0 dX7_next_8 ?_
    refine z_get (k := 24) (v := .int (S.1 24)) dX7_next_9 rfl rfl rfl (by decide) zf_X7_162 zw_in7 ?_
    refine z_topi (w := nI (p)) h_p ?_
    refine z_aload_0 dX7_next_12 ?_
    refine z_get (k := 10) (v := .int (S.1 10)) dX7_next_13 rfl rfl rfl (by decide) zf_X7_152 zw_in7 ?_
    refine z_topi (w := nI (tl)) ht ?_
    refine z_icmpN_ge_t (tgt := 60) dX7_next_16 (by decide) (x := p) (z := tl) (by first | omega | assumption) (by first | omega | assumption) (by omega) ?_
    refine z_aload_0 dX7_next_60 ?_
    refine z_aload_0 dX7_next_61 ?_
    refine z_get (k := 24) (v := .int (S.1 24)) dX7_next_62 rfl rfl rfl (by decide) zf_X7_162 zw_in7 ?_
    refine z_topi (w := nI (p)) h_p ?_
    refine z_put (k := 25) (ty := tyX7) dX7_next_65 rfl rfl (by decide) zf_X7_159 zw_in7 tyX7_ok nmX7 rfl (fun _ => ⟨rfl, rfl⟩) (Nat.le_of_ble_eq_true rfl) ?_
    refine Z.heap (h2 := mh (sI 25 (nI (p)) S)) rfl ?_
    refine z_aload_0 dX7_next_68 ?_
    refine z_get (k := 24) (v := .int (S.1 24)) dX7_next_69 rfl rfl rfl (by decide) zf_X7_162 zw_in7 ?_
    refine z_topi (w := nI (p)) h_p ?_
    refine z_aload_0 dX7_next_72 ?_
    refine z_get (k := 10) (v := .int (S.1 10)) dX7_next_73 rfl rfl rfl (by decide) zf_X7_152 zw_in7 ?_
    refine z_topi (w := nI (tl)) ht ?_
    refine z_icmpN_ne_f (tgt := 85) dX7_next_76 (by decide) (x := p) (z := tl) (by first | omega | assumption) (by first | omega | assumption) (by omega) ?_
    refine z_aload_0 dX7_next_79 ?_
    refine z_iconst (v := 0) dX7_next_80 rfl ?_
    refine z_put (k := 23) (ty := tyX7) dX7_next_81 rfl rfl (by decide) zf_X7_165 zw_in7 tyX7_ok nmX7 rfl (fun _ => ⟨rfl, rfl⟩) (Nat.le_of_ble_eq_true rfl) ?_
    refine Z.heap (h2 := mh (sI 23 (0) (sI 25 (nI (p)) S))) rfl ?_
    rw [g_m_next_L1]
    exact z_vret dX7_next_84 rfl rfl rfl
  | succ fu ih =>
    intro p S j1 ht h6 hp h_p
    refine z_aload_0 dX7_next_8 ?_
    refine z_get (k := 24) (v := .int (S.1 24)) dX7_next_9 rfl rfl rfl (by decide) zf_X7_162 zw_in7 ?_
    refine z_topi (w := nI (p)) h_p ?_
    refine z_aload_0 dX7_next_12 ?_
    refine z_get (k := 10) (v := .int (S.1 10)) dX7_next_13 rfl rfl rfl (by decide) zf_X7_152 zw_in7 ?_
    refine z_topi (w := nI (tl)) ht ?_
    refine z_icmpN_ge_f (tgt := 60) dX7_next_16 (by decide) (x := p) (z := tl) (by first | omega | assumption) (by first | omega | assumption) (by omega) ?_
    refine z_aload_0 dX7_next_19 ?_
    refine z_get (k := 8) (v := .ref 7) dX7_next_20 rfl rfl rfl (by decide) zf_X7_28 zw_in7 ?_
    refine z_aload_0 dX7_next_23 ?_
    refine z_get (k := 24) (v := .int (S.1 24)) dX7_next_24 rfl rfl rfl (by decide) zf_X7_162 zw_in7 ?_
    refine z_topi (w := nI (p)) h_p ?_
    refine z_ialdN (k := p) dX7_next_27 rfl (by first | omega | assumption) (by decide) ?_
    refine z_topi (w := S.2 6 (p)) rfl ?_
    refine z_bipush (v := 32) dX7_next_28 rfl ?_
    refine z_icmp_eq (tgt := 47) dX7_next_30 (by decide) (fun c30 => ?_) (fun c30 => ?_)
    · refine z_aload_0 dX7_next_47 ?_
      refine z_dup dX7_next_48 rfl ?_
      refine z_get (k := 24) (v := .int (S.1 24)) dX7_next_49 rfl rfl rfl (by decide) zf_X7_162 zw_in7 ?_
      refine z_topi (w := nI (p)) h_p ?_
      refine z_iconst (v := 1) dX7_next_52 rfl ?_
      refine z_iadd dX7_next_53 ?_
      refine z_topi (w := nI (p + 1)) (nI_add _ _) ?_
      refine z_put (k := 24) (ty := tyX7) dX7_next_54 rfl rfl (by decide) zf_X7_162 zw_in7 tyX7_ok nmX7 rfl (fun _ => ⟨rfl, rfl⟩) (Nat.le_of_ble_eq_true rfl) ?_
      refine Z.heap (h2 := mh (sI 24 (nI (p + 1)) S)) rfl ?_
      refine z_goto (tgt := 8) dX7_next_57 (by decide) ?_
      rw [g_m_next_L1, if_pos c30]
      exact ih (p + 1) (sI 24 (nI (p + 1)) S) _ (by exact ht) (by first | omega | assumption) (by first | omega | assumption) (by first | rfl | exact h_p)
    · refine z_aload_0 dX7_next_33 ?_
      refine z_get (k := 8) (v := .ref 7) dX7_next_34 rfl rfl rfl (by decide) zf_X7_28 zw_in7 ?_
      refine z_aload_0 dX7_next_37 ?_
      refine z_get (k := 24) (v := .int (S.1 24)) dX7_next_38 rfl rfl rfl (by decide) zf_X7_162 zw_in7 ?_
      refine z_topi (w := nI (p)) h_p ?_
      refine z_ialdN (k := p) dX7_next_41 rfl (by first | omega | assumption) (by decide) ?_
      refine z_topi (w := S.2 6 (p)) rfl ?_
      refine z_bipush (v := 10) dX7_next_42 rfl ?_
      refine z_icmp_ne (tgt := 60) dX7_next_44 (by decide) (fun c44 => ?_) (fun c44 => ?_)
      · refine z_aload_0 dX7_next_60 ?_
        refine z_aload_0 dX7_next_61 ?_
        refine z_get (k := 24) (v := .int (S.1 24)) dX7_next_62 rfl rfl rfl (by decide) zf_X7_162 zw_in7 ?_
        refine z_topi (w := nI (p)) h_p ?_
        refine z_put (k := 25) (ty := tyX7) dX7_next_65 rfl rfl (by decide) zf_X7_159 zw_in7 tyX7_ok nmX7 rfl (fun _ => ⟨rfl, rfl⟩) (Nat.le_of_ble_eq_true rfl) ?_
        refine Z.heap (h2 := mh (sI 25 (nI (p)) S)) rfl ?_
        refine z_aload_0 dX7_next_68 ?_
        refine z_get (k := 24) (v := .int (S.1 24)) dX7_next_69 rfl rfl rfl (by decide) zf_X7_162 zw_in7 ?_
        refine z_topi (w := nI (p)) h_p ?_
        refine z_aload_0 dX7_next_72 ?_
        refine z_get (k := 10) (v := .int (S.1 10)) dX7_next_73 rfl rfl rfl (by decide) zf_X7_152 zw_in7 ?_
        refine z_topi (w := nI (tl)) ht ?_
        refine z_icmpN_ne_t (tgt := 85) dX7_next_76 (by decide) (x := p) (z := tl) (by first | omega | assumption) (by first | omega | assumption) (by omega) ?_
        refine z_aload_0 dX7_next_85 ?_
        refine z_aload_0 dX7_next_86 ?_
        refine z_get (k := 8) (v := .ref 7) dX7_next_87 rfl rfl rfl (by decide) zf_X7_28 zw_in7 ?_
        refine z_aload_0 dX7_next_90 ?_
        refine z_get (k := 24) (v := .int (S.1 24)) dX7_next_91 rfl rfl rfl (by decide) zf_X7_162 zw_in7 ?_
        refine z_topi (w := nI (p)) h_p ?_
        refine z_ialdN (k := p) dX7_next_94 rfl (by first | omega | assumption) (by decide) ?_
        refine z_topi (w := S.2 6 (p)) (by rw [sI_2]) ?_
        refine Z.callE (zRun.S (ρ := fun i => i) (k_m_sortOf (S.2 6 (p)) ) dX7_next_95 zy_X7_sortOf zm_X7_168 rfl rfl (Nat.le_of_ble_eq_true rfl) (by decide) (by decide)) ?_
        refine z_put (k := 23) (ty := tyX7) dX7_next_98 rfl rfl (by decide) zf_X7_165 zw_in7 tyX7_ok nmX7 rfl (fun _ => ⟨rfl, rfl⟩) (Nat.le_of_ble_eq_true rfl) ?_
        refine Z.heap (h2 := mh (sI 23 ((g_m_sortOf (S.2 6 (p)))) (sI 25 (nI (p)) S))) rfl ?_
        refine z_aload_0 dX7_next_101 ?_
        refine z_dup dX7_next_102 rfl ?_
        refine z_get (k := 25) (v := .int (nI (p))) dX7_next_103 rfl rfl rfl (by decide) zf_X7_159 zw_in7 ?_
        refine z_iconst (v := 1) dX7_next_106 rfl ?_
        refine z_iadd dX7_next_107 ?_
        refine z_topi (w := nI (p + 1)) (nI_add _ _) ?_
        refine z_put (k := 25) (ty := tyX7) dX7_next_108 rfl rfl (by decide) zf_X7_159 zw_in7 tyX7_ok nmX7 rfl (fun _ => ⟨rfl, rfl⟩) (Nat.le_of_ble_eq_true rfl) ?_
        refine Z.heap (h2 := mh (sI 25 (nI (p + 1)) (sI 23 ((g_m_sortOf (S.2 6 (p)))) (sI 25 (nI (p)) S)))) rfl ?_
        rw [g_m_next_L1, if_neg c30, if_neg c44]
        exact l_g_m_next_L2 tl (tl - (p + 1)) (p + 1) p (sI 25 (nI (p + 1)) (sI 23 ((g_m_sortOf (S.2 6 (p)))) (sI 25 (nI (p)) S))) _ (by first | exact ht | exact hT.1) (by first | exact h6 | exact hT.2.1) (by first | omega | assumption) (by first | omega | assumption) (by first | rfl | exact h_q | exact h_e | exact hT.2.2.1) (by first | rfl | exact h_p | exact h_o)
      · refine z_aload_0 dX7_next_47 ?_
        refine z_dup dX7_next_48 rfl ?_
        refine z_get (k := 24) (v := .int (S.1 24)) dX7_next_49 rfl rfl rfl (by decide) zf_X7_162 zw_in7 ?_
        refine z_topi (w := nI (p)) h_p ?_
        refine z_iconst (v := 1) dX7_next_52 rfl ?_
        refine z_iadd dX7_next_53 ?_
        refine z_topi (w := nI (p + 1)) (nI_add _ _) ?_
        refine z_put (k := 24) (ty := tyX7) dX7_next_54 rfl rfl (by decide) zf_X7_162 zw_in7 tyX7_ok nmX7 rfl (fun _ => ⟨rfl, rfl⟩) (Nat.le_of_ble_eq_true rfl) ?_
        refine Z.heap (h2 := mh (sI 24 (nI (p + 1)) S)) rfl ?_
        refine z_goto (tgt := 8) dX7_next_57 (by decide) ?_
        rw [g_m_next_L1, if_neg c30, if_pos c44]
        exact ih (p + 1) (sI 24 (nI (p + 1)) S) _ (by exact ht) (by first | omega | assumption) (by first | omega | assumption) (by first | rfl | exact h_p)
noncomputable def g_m_next (tl : Nat) (S : ZS) : ZS := g_m_next_L1 tl (tl - (me S)) (me S) (sI 24 (nI (me S)) S)
theorem k_m_next (tl : Nat) (S : ZS) (hT : mTk tl S) : zM sc yX7_next cX7_next 2 none 1 0 0 [.ref 0] (mh S) (.inl none) (mh (g_m_next tl S)) := by
  refine zM.at (ls := [some (.ref 0), none]) zy_X7_next.2.2.2.2.2 (Nat.le_of_ble_eq_true rfl) rfl ?_
  refine z_aload_0 dX7_next_0 ?_
  refine z_aload_0 dX7_next_1 ?_
  refine z_get (k := 25) (v := .int (S.1 25)) dX7_next_2 rfl rfl rfl (by decide) zf_X7_159 zw_in7 ?_
  refine z_topi (w := nI (me S)) hT.2.2.1 ?_
  refine z_put (k := 24) (ty := tyX7) dX7_next_5 rfl rfl (by decide) zf_X7_162 zw_in7 tyX7_ok nmX7 rfl (fun _ => ⟨rfl, rfl⟩) (Nat.le_of_ble_eq_true rfl) ?_
  refine Z.heap (h2 := mh (sI 24 (nI (me S)) S)) rfl ?_
  rw [g_m_next]
  exact l_g_m_next_L1 tl (tl - (me S)) (me S) (sI 24 (nI (me S)) S) _ (by first | exact ht | exact hT.1) (by first | exact h6 | exact hT.2.1) (by have := hT.2.2.2; omega) (by first | rfl | exact h_p | exact h_o)
noncomputable def g_m_says_L (tl : Nat) (i : Nat) : Nat → Nat → Nat → ZS → Bool
  | 0, _, _, _ => true
  | fu + 1, k, o, S => (if S.2 6 (o + k) = (zby i).getD k 0 then g_m_says_L tl i fu (k + 1) o S else false)
theorem l_g_m_says_L (tl : Nat) (i : Nat) : ∀ (fu : Nat) (k : Nat) (o : Nat) (S : ZS) , (i < 29) → (k + fu = (zby i).length) → (o + (zby i).length ≤ 600) → (S.1 24 = nI o) → Z sc yX7_says cX7_says 3 (some .boolean) 4 0 0 28 [some (.ref 0), some (.ref (1000000 + i)), some (.int (nI (k)))] [] (mh S) (.inl (some (.int (zb (g_m_says_L tl i fu k o S))))) (mh S) := by
  intro fu
  induction fu with
  | zero =>
    intro k o S hi hk ho h_o
    refine z_iload_2 dX7_says_28 ?_
    refine z_aload_1 dX7_says_29 ?_
    refine Z.callE (zRun.VT (ρ := fun i => i) (k_slenT (by first | omega | assumption)) dX7_says_30 zy_J0_length_8abf5 zm_X7_146 rfl (zStr_at (by first | omega | assumption)) rfl rfl (Nat.le_of_ble_eq_true rfl) (by decide) (by decide)) ?_
    refine z_icmpN_ge_t (tgt := 63) dX7_says_33 (by decide) (x := k) (z := (zby i).length) (by first | omega | assumption) (by first | omega | assumption) (by omega) ?_
    refine z_iconst (v := 1) dX7_says_63 rfl ?_
    rw [g_m_says_L]
    exact z_iret dX7_says_64 rfl rfl rfl rfl
  | succ fu ih =>
    intro k o S hi hk ho h_o
    refine z_iload_2 dX7_says_28 ?_
    refine z_aload_1 dX7_says_29 ?_
    refine Z.callE (zRun.VT (ρ := fun i => i) (k_slenT (by first | omega | assumption)) dX7_says_30 zy_J0_length_8abf5 zm_X7_146 rfl (zStr_at (by first | omega | assumption)) rfl rfl (Nat.le_of_ble_eq_true rfl) (by decide) (by decide)) ?_
    refine z_icmpN_ge_f (tgt := 63) dX7_says_33 (by decide) (x := k) (z := (zby i).length) (by first | omega | assumption) (by first | omega | assumption) (by omega) ?_
    refine z_aload_0 dX7_says_36 ?_
    refine z_get (k := 8) (v := .ref 7) dX7_says_37 rfl rfl rfl (by decide) zf_X7_28 zw_in7 ?_
    refine z_aload_0 dX7_says_40 ?_
    refine z_get (k := 24) (v := .int (S.1 24)) dX7_says_41 rfl rfl rfl (by decide) zf_X7_162 zw_in7 ?_
    refine z_topi (w := nI (o)) h_o ?_
    refine z_iload_2 dX7_says_44 ?_
    refine z_iadd dX7_says_45 ?_
    refine z_topi (w := nI (o + k)) (nI_add _ _) ?_
    refine z_ialdN (k := (o + k)) dX7_says_46 rfl (by first | omega | assumption) (by decide) ?_
    refine z_topi (w := S.2 6 (o + k)) rfl ?_
    refine z_aload_1 dX7_says_47 ?_
    refine z_iload_2 dX7_says_48 ?_
    refine Z.callE (zRun.VT (ρ := fun i => i) (k_scharT (by first | omega | assumption) (by first | omega | assumption)) dX7_says_49 zy_J0_charAt_5068e zm_X7_155 rfl (zStr_at (by first | omega | assumption)) rfl rfl (Nat.le_of_ble_eq_true rfl) (by decide) (by decide)) ?_
    refine z_icmp_eq (tgt := 57) dX7_says_52 (by decide) (fun c52 => ?_) (fun c52 => ?_)
    · refine z_iinc_2 (v := nI (k + 1)) dX7_says_57 (nI_add _ 1) rfl (by decide) ?_
      refine z_goto (tgt := 28) dX7_says_60 (by decide) ?_
      rw [g_m_says_L, if_pos c52]
      exact ih (k + 1) o S (by first | omega | assumption) (by first | omega | assumption) (by first | omega | assumption) (by first | rfl | exact h_o)
    · refine z_iconst (v := 0) dX7_says_55 rfl ?_
      rw [g_m_says_L, if_neg c52]
      exact z_iret dX7_says_56 rfl rfl rfl rfl
noncomputable def g_m_says (tl : Nat) (i : Nat) (S : ZS) : Bool := (if S.1 23 = 2 then (if (me S) - (mo S) = (zby i).length then g_m_says_L tl i ((zby i).length) 0 (mo S) S else false) else false)
theorem k_m_says (tl : Nat) (i : Nat) (S : ZS) (hi : i < 29) (hL : mLx tl S) : zM sc yX7_says cX7_says 3 (some .boolean) 4 0 0 [.ref 0, .ref (1000000 + i)] (mh S) (.inl (some (.int (zb (g_m_says tl i S))))) (mh S) := by
  refine zM.at (ls := [some (.ref 0), some (.ref (1000000 + i)), none]) zy_X7_says.2.2.2.2.2 (Nat.le_of_ble_eq_true rfl) rfl ?_
  have hl := zby_len hi
  have h6 := hL.1.2.1
  have h7 := hL.1.2.2.2
  have h8 := hL.2.2
  refine z_aload_0 dX7_says_0 ?_
  refine z_get (k := 23) (v := .int (S.1 23)) dX7_says_1 rfl rfl rfl (by decide) zf_X7_165 zw_in7 ?_
  refine z_iconst (v := 2) dX7_says_4 rfl ?_
  refine z_icmp_ne (tgt := 24) dX7_says_5 (by decide) (fun c5 => ?_) (fun c5 => ?_)
  · refine z_iconst (v := 0) dX7_says_24 rfl ?_
    rw [g_m_says, if_neg c5]
    exact z_iret dX7_says_25 rfl rfl rfl rfl
  · refine z_aload_0 dX7_says_8 ?_
    refine z_get (k := 25) (v := .int (S.1 25)) dX7_says_9 rfl rfl rfl (by decide) zf_X7_159 zw_in7 ?_
    refine z_topi (w := nI (me S)) hL.1.2.2.1 ?_
    refine z_aload_0 dX7_says_12 ?_
    refine z_get (k := 24) (v := .int (S.1 24)) dX7_says_13 rfl rfl rfl (by decide) zf_X7_162 zw_in7 ?_
    refine z_topi (w := nI (mo S)) hL.2.1 ?_
    refine z_isub dX7_says_16 ?_
    refine z_topi (w := nI ((me S) - (mo S))) (pk_sub (a := me S) (b := mo S) (by first | omega | assumption)) ?_
    refine z_aload_1 dX7_says_17 ?_
    refine Z.callE (zRun.VT (ρ := fun i => i) (k_slenT (by first | omega | assumption)) dX7_says_18 zy_J0_length_8abf5 zm_X7_146 rfl (zStr_at (by first | omega | assumption)) rfl rfl (Nat.le_of_ble_eq_true rfl) (by decide) (by decide)) ?_
    refine z_icmpN_eq (tgt := 26) dX7_says_21 (by decide) (x := (me S) - (mo S)) (z := (zby i).length) (by first | omega | assumption) (by first | omega | assumption) (fun c21 => ?_) (fun c21 => ?_)
    · refine z_iconst (v := 0) dX7_says_26 rfl ?_
      refine z_istore_2 dX7_says_27 rfl (by decide) ?_
      rw [g_m_says, if_pos c5, if_pos c21]
      exact l_g_m_says_L tl i ((zby i).length) 0 (mo S) S (by first | omega | assumption) (by first | omega | assumption) (by first | omega | assumption) (by first | rfl | exact h_o | exact hL.2.1)
    · refine z_iconst (v := 0) dX7_says_24 rfl ?_
      rw [g_m_says, if_pos c5, if_neg c21]
      exact z_iret dX7_says_25 rfl rfl rfl rfl
noncomputable def g_m_tell_L (tl : Nat) (i : Nat) : Nat → Nat → Nat → ZS → ZS
  | 0, _, _, S => S
  | fu + 1, k, p, S => g_m_tell_L tl i fu (k + 1) (p + 1) (sI 10 (nI (p + 1)) (sA 6 (p) ((zby i).getD k 0) S))
theorem l_g_m_tell_L (tl : Nat) (i : Nat) : ∀ (fu : Nat) (k : Nat) (p : Nat) (S : ZS) , (i < 29) → (k + fu = (zby i).length) → (p + fu ≤ 600) → (S.1 10 = nI p) → Z sc yX7_tell cX7_tell 3 none 4 0 0 2 [some (.ref 0), some (.ref (1000000 + i)), some (.int (nI (k)))] [] (mh S) (.inl none) (mh (g_m_tell_L tl i fu k p S)) := by
  intro fu
  induction fu with
  | zero =>
    intro k p S hi hk ho h_p
    refine z_iload_2 dX7_tell_2 ?_
    have hl := zby_len hi
    refine z_aload_1 dX7_tell_3 ?_
    refine Z.callE (zRun.VT (ρ := fun i => i) (k_slenT (by first | omega | assumption)) dX7_tell_4 zy_J0_length_8abf5 zm_X7_146 rfl (zStr_at (by first | omega | assumption)) rfl rfl (Nat.le_of_ble_eq_true rfl) (by decide) (by decide)) ?_
    refine z_icmpN_ge_t (tgt := 40) dX7_tell_7 (by decide) (x := k) (z := (zby i).length) (by first | omega | assumption) (by first | omega | assumption) (by omega) ?_
    rw [g_m_tell_L]
    exact z_vret dX7_tell_40 rfl rfl rfl
  | succ fu ih =>
    intro k p S hi hk ho h_p
    refine z_iload_2 dX7_tell_2 ?_
    have hl := zby_len hi
    refine z_aload_1 dX7_tell_3 ?_
    refine Z.callE (zRun.VT (ρ := fun i => i) (k_slenT (by first | omega | assumption)) dX7_tell_4 zy_J0_length_8abf5 zm_X7_146 rfl (zStr_at (by first | omega | assumption)) rfl rfl (Nat.le_of_ble_eq_true rfl) (by decide) (by decide)) ?_
    refine z_icmpN_ge_f (tgt := 40) dX7_tell_7 (by decide) (x := k) (z := (zby i).length) (by first | omega | assumption) (by first | omega | assumption) (by omega) ?_
    refine z_aload_0 dX7_tell_10 ?_
    refine z_get (k := 8) (v := .ref 7) dX7_tell_11 rfl rfl rfl (by decide) zf_X7_28 zw_in7 ?_
    refine z_aload_0 dX7_tell_14 ?_
    refine z_get (k := 10) (v := .int (S.1 10)) dX7_tell_15 rfl rfl rfl (by decide) zf_X7_152 zw_in7 ?_
    refine z_topi (w := nI (p)) h_p ?_
    refine z_aload_1 dX7_tell_18 ?_
    refine z_iload_2 dX7_tell_19 ?_
    refine Z.callE (zRun.VT (ρ := fun i => i) (k_scharT (by first | omega | assumption) (by first | omega | assumption)) dX7_tell_20 zy_J0_charAt_5068e zm_X7_155 rfl (zStr_at (by first | omega | assumption)) rfl rfl (Nat.le_of_ble_eq_true rfl) (by decide) (by decide)) ?_
    refine z_iastN (k := p) dX7_tell_23 rfl (by first | omega | assumption) (by decide) ?_
    refine Z.heap (h2 := mh (sA 6 (p) ((zby i).getD k 0) S)) rfl ?_
    refine z_aload_0 dX7_tell_24 ?_
    refine z_dup dX7_tell_25 rfl ?_
    refine z_get (k := 10) (v := .int (S.1 10)) dX7_tell_26 rfl rfl rfl (by decide) zf_X7_152 zw_in7 ?_
    refine z_topi (w := nI (p)) h_p ?_
    refine z_iconst (v := 1) dX7_tell_29 rfl ?_
    refine z_iadd dX7_tell_30 ?_
    refine z_topi (w := nI (p + 1)) (nI_add _ _) ?_
    refine z_put (k := 10) (ty := tyX7) dX7_tell_31 rfl rfl (by decide) zf_X7_152 zw_in7 tyX7_ok nmX7 rfl (fun _ => ⟨rfl, rfl⟩) (Nat.le_of_ble_eq_true rfl) ?_
    refine Z.heap (h2 := mh (sI 10 (nI (p + 1)) (sA 6 (p) ((zby i).getD k 0) S))) rfl ?_
    refine z_iinc_2 (v := nI (k + 1)) dX7_tell_34 (nI_add _ 1) rfl (by decide) ?_
    refine z_goto (tgt := 2) dX7_tell_37 (by decide) ?_
    rw [g_m_tell_L]
    exact ih (k + 1) (p + 1) (sI 10 (nI (p + 1)) (sA 6 (p) ((zby i).getD k 0) S)) (by first | omega | assumption) (by first | omega | assumption) (by first | omega | assumption) (by first | rfl | exact h_p)
noncomputable def g_m_tell (tl : Nat) (i : Nat) (S : ZS) : ZS := g_m_tell_L tl i ((zby i).length) 0 tl S
theorem k_m_tell (tl : Nat) (i : Nat) (S : ZS) (hi : i < 29) (ht : S.1 10 = nI tl) (h6 : tl + (zby i).length ≤ 600) : zM sc yX7_tell cX7_tell 3 none 4 0 0 [.ref 0, .ref (1000000 + i)] (mh S) (.inl none) (mh (g_m_tell tl i S)) := by
  refine zM.at (ls := [some (.ref 0), some (.ref (1000000 + i)), none]) zy_X7_tell.2.2.2.2.2 (Nat.le_of_ble_eq_true rfl) rfl ?_
  have hl := zby_len hi
  refine z_iconst (v := 0) dX7_tell_0 rfl ?_
  refine z_istore_2 dX7_tell_1 rfl (by decide) ?_
  rw [g_m_tell]
  exact l_g_m_tell_L tl i ((zby i).length) 0 tl S (by first | omega | assumption) (by first | omega | assumption) (by first | omega | assumption) (by first | rfl | exact h_p | exact ht)
noncomputable def g_m_fail (x : Int32) (S : ZS) : Bool × ZS := (if S.1 11 = 0 then (false, (sI 12 (S.1 24) (sI 11 (x) S))) else (false, S))
theorem k_m_fail (x : Int32) (S : ZS)  : zM sc yX7_fail cX7_fail 2 (some .boolean) 0 0 0 [.ref 0, .int (x)] (mh S) (.inl (some (.int (zb (g_m_fail x S).1)))) (mh (g_m_fail x S).2) := by
  refine zM.at (ls := [some (.ref 0), some (.int (x))]) zy_X7_fail.2.2.2.2.2 (Nat.le_of_ble_eq_true rfl) rfl ?_
  refine z_aload_0 dX7_fail_0 ?_
  refine z_get (k := 11) (v := .int (S.1 11)) dX7_fail_1 rfl rfl rfl (by decide) zf_X7_173 zw_in7 ?_
  refine z_if_ne (tgt := 20) dX7_fail_4 (by decide) (fun c4 => ?_) (fun c4 => ?_)
  · refine z_iconst (v := 0) dX7_fail_20 rfl ?_
    rw [g_m_fail, if_neg c4]
    exact z_iret dX7_fail_21 rfl rfl rfl rfl
  · refine z_aload_0 dX7_fail_7 ?_
    refine z_iload_1 dX7_fail_8 ?_
    refine z_put (k := 11) (ty := tyX7) dX7_fail_9 rfl rfl (by decide) zf_X7_173 zw_in7 tyX7_ok nmX7 rfl (fun _ => ⟨rfl, rfl⟩) (Nat.le_of_ble_eq_true rfl) ?_
    refine Z.heap (h2 := mh (sI 11 (x) S)) rfl ?_
    refine z_aload_0 dX7_fail_12 ?_
    refine z_aload_0 dX7_fail_13 ?_
    refine z_get (k := 24) (v := .int (S.1 24)) dX7_fail_14 rfl rfl rfl (by decide) zf_X7_162 zw_in7 ?_
    refine z_put (k := 12) (ty := tyX7) dX7_fail_17 rfl rfl (by decide) zf_X7_31 zw_in7 tyX7_ok nmX7 rfl (fun _ => ⟨rfl, rfl⟩) (Nat.le_of_ble_eq_true rfl) ?_
    refine Z.heap (h2 := mh (sI 12 (S.1 24) (sI 11 (x) S))) rfl ?_
    refine z_iconst (v := 0) dX7_fail_20 rfl ?_
    rw [g_m_fail, if_pos c4]
    exact z_iret dX7_fail_21 rfl rfl rfl rfl
