variable {sc : SC}

/-- the call's long argument -/
def lq (f : Nat → Int32) (i : Nat) : Int64 := (((f (i + 1)).toInt64) <<< ((32 : Int32).toInt64 &&& 63)) ||| (((f (i + 2)).toInt64) &&& 4294967295)
section LAWP
variable {d mc ms pc : Nat} {st : List Value} {r : zR} {h' : List zO} {i : Nat} {t : List (Option Value)} {a6 a7 a8 : Option Value}
variable {S X R : ZS} {T : TS} {P : ZS} {TU : TS} {q : Nat} {G : Nat → TS} {TN : TS} {fl : Nat → Int64} {fd : Nat → UInt64} {n : Nat} {f : Nat → Int32} {M : ZS}
theorem l_vp0 : vp_in (0 : Int32) 1 := vp_in_nI (n := 0) (N := 1) (by decide) (by decide)
theorem LH_dbl : (LH S X R T P TU q G TN fl fd n f M)[116]? = some (.inl (2, 1, .inr (.inr (.inr (.inl fd))))) := by
  rw [LH, List.getElem?_append_right (by rw [WL_len]; decide), WL_len]; rfl
theorem LH_out : (LH S X R T P TU q G TN fl fd n f M)[115]? = some (.inl (1, 1, .inr (.inl fl))) := by
  rw [LH, List.getElem?_append_left (by rw [WL_len]; decide)]; exact WL_at _ _ _ _ _ _ _ _ _ _
/-- an int of the script -/
theorem l_arg {j : Nat} {J : Int} (hi : i + 6 ≤ n) (hn : n ≤ 3072) (hj : j < 6) (eJ : Int32.ofInt J = nI j) (D0 : decode cL_law pc = .ok (.aload_n 0, 1)) (D1 : decode cL_law (pc + 1) = .ok (.iload 5, 2)) (D3 : decode cL_law (pc + 3) = .ok (.iconst J, 1)) (D4 : decode cL_law (pc + 4) = .ok (.iadd, 1)) (D5 : decode cL_law (pc + 5) = .ok (.iaload, 1))
    (k : Z (n, f) yL_law cL_law 9 (some .boolean) d mc ms (pc + 6) (some (.ref 1000202) :: some (.ref 0) :: some (.ref 117) :: some (.ref 115) :: some (.ref 116) :: some (.int (nI (i))) :: t) (.int (f (i + j)) :: st) (LH S X R T P TU q G TN fl fd n f M) r h') : Z (n, f) yL_law cL_law 9 (some .boolean) d mc ms pc (some (.ref 1000202) :: some (.ref 0) :: some (.ref 117) :: some (.ref 115) :: some (.ref 116) :: some (.int (nI (i))) :: t) st (LH S X R T P TU q G TN fl fd n f M) r h' :=
  z_aload_0 D0 (z_iload_5 D1 (z_iconst D3 eJ (z_iadd D4 (z_topi (nI_add i j) (z_scrInt (sc := (n, f)) D5 (show i + j < n by omega) (show n < 2 ^ 31 by omega) k)))))
/-- the loop's head: the call's number -/
theorem l_head (hi : i + 6 ≤ n) (hn : n ≤ 3072) (k : Z (n, f) yL_law cL_law 9 (some .boolean) d mc ms 45 (some (.ref 1000202) :: some (.ref 0) :: some (.ref 117) :: some (.ref 115) :: some (.ref 116) :: some (.int (nI (i))) :: t) [.int (f i &&& 63)] (LH S X R T P TU q G TN fl fd n f M) r h') : Z (n, f) yL_law cL_law 9 (some .boolean) d mc ms 28 (some (.ref 1000202) :: some (.ref 0) :: some (.ref 117) :: some (.ref 115) :: some (.ref 116) :: some (.int (nI (i))) :: t) [] (LH S X R T P TU q G TN fl fd n f M) r h' := by
  refine z_iload_5 dL_law_28 ?_
  refine z_aload_0 dL_law_30 ?_
  refine z_scrLen (sc := (n, f)) (v := nI n) dL_law_31 rfl ?_
  refine z_bipush (v := 6) dL_law_32 rfl ?_
  refine z_isub dL_law_34 ?_
  refine z_topi (w := nI (n - 6)) (pk_sub (a := n) (b := 6) (by omega)) ?_
  refine z_icmpN_gt_f (tgt := 3645) dL_law_35 (by decide) (by omega) (by omega) (by omega) ?_
  refine z_aload_0 dL_law_38 ?_
  refine z_iload_5 dL_law_39 ?_
  refine z_scrInt (sc := (n, f)) (k9 := i) dL_law_41 (show i < n by omega) (show n < 2 ^ 31 by omega) ?_
  refine z_bipush (v := 63) dL_law_42 rfl ?_
  refine z_iand dL_law_44 ?_
  exact k
/-- the law's end -/
theorem l_end (hi : n < i + 6) (hin : i ≤ n) (hn : n ≤ 3072) (hr : r = .inl (some (.int 1))) (hh : h' = LH S X R T P TU q G TN fl fd n f M) : Z (n, f) yL_law cL_law 9 (some .boolean) d mc ms 28 (some (.ref 1000202) :: some (.ref 0) :: some (.ref 117) :: some (.ref 115) :: some (.ref 116) :: some (.int (nI (i))) :: t) [] (LH S X R T P TU q G TN fl fd n f M) r h' := by
  refine z_iload_5 dL_law_28 ?_
  refine z_aload_0 dL_law_30 ?_
  refine z_scrLen (sc := (n, f)) (v := nI n) dL_law_31 rfl ?_
  refine z_bipush (v := 6) dL_law_32 rfl ?_
  refine z_isub dL_law_34 ?_
  refine z_icmp_gt_t (tgt := 3645) dL_law_35 (by decide) ?_ ?_
  · show nI n - nI 6 < nI i
    rw [Int32.lt_iff_toInt_lt, pk_sub_toInt (by omega) (by omega), nI_toInt (by omega)]
    omega
  refine z_iconst (v := 1) dL_law_3645 rfl ?_
  exact z_iret dL_law_3646 rfl rfl hr.symm hh.symm
/-- on to the next call -/
theorem l_next (k : Z (n, f) yL_law cL_law 9 (some .boolean) d mc ms 28 (some (.ref 1000202) :: some (.ref 0) :: some (.ref 117) :: some (.ref 115) :: some (.ref 116) :: some (.int (nI (i + 6))) :: [none, none, none]) [] (LH S X R T P TU q G TN fl fd n f M) r h') : Z (n, f) yL_law cL_law 9 (some .boolean) d mc ms 3639 (some (.ref 1000202) :: some (.ref 0) :: some (.ref 117) :: some (.ref 115) :: some (.ref 116) :: some (.int (nI (i))) :: [a6, a7, a8]) [] (LH S X R T P TU q G TN fl fd n f M) r h' := by
  refine z_iinc_5 (v := nI (i + 6)) dL_law_3639 (nI_add i 6) rfl (by decide) ?_
  refine z_goto (tgt := 28) dL_law_3642 (by decide) ?_
  refine Z.sub (fun j v hv => ?_) k
  match j with
  | 0 => exact hv
  | 1 => exact hv
  | 2 => exact hv
  | 3 => exact hv
  | 4 => exact hv
  | 5 => exact hv
  | 6 => cases hv
  | 7 => cases hv
  | 8 => cases hv
  | j + 9 => cases hv
theorem l_tailI {k : Int32} {b : Int32} {g : Int} (hk : M.1 15 = k) (hb : k = 0 → fl 0 = b.toInt64) (hd1 : 1 ≤ d) (D0 : decode cL_law pc = .ok (.aload_n 2, 1)) (D1 : decode cL_law (pc + 1) = .ok (.invokevirtual 176, 3)) (D4 : decode cL_law (pc + 4) = .ok (.iload 6, 2)) (D6 : decode cL_law (pc + 6) = .ok (.if_icmp .eq 5, 3)) (D11 : decode cL_law (pc + 11) = .ok (.iload 6, 2)) (D13 : decode cL_law (pc + 13) = .ok (.ifCond .ne 15, 3)) (D16 : decode cL_law (pc + 16) = .ok (.aload_n 3, 1)) (D17 : decode cL_law (pc + 17) = .ok (.iconst 0, 1)) (D18 : decode cL_law (pc + 18) = .ok (.laload, 1)) (D19 : decode cL_law (pc + 19) = .ok (.iload 7, 2)) (D21 : decode cL_law (pc + 21) = .ok (.i2l, 1)) (D22 : decode cL_law (pc + 22) = .ok (.lcmp, 1)) (D23 : decode cL_law (pc + 23) = .ok (.ifCond .eq 5, 3)) (D28 : decode cL_law (pc + 28) = .ok (.goto g, 3)) (hg : ((pc + 28 : Nat) : Int) + g = 3639)
    (K : Z (n, f) yL_law cL_law 9 (some .boolean) d mc ms 3639 (some (.ref 1000202) :: some (.ref 0) :: some (.ref 117) :: some (.ref 115) :: some (.ref 116) :: some (.int (nI (i))) :: [some (.int k), some (.int b), a8]) [] (LH S X R T P TU q G TN fl fd n f M) r h') : Z (n, f) yL_law cL_law 9 (some .boolean) d mc ms pc (some (.ref 1000202) :: some (.ref 0) :: some (.ref 117) :: some (.ref 115) :: some (.ref 116) :: some (.int (nI (i))) :: [some (.int k), some (.int b), a8]) [] (LH S X R T P TU q G TN fl fd n f M) r h' := by
  refine z_aload_2 D0 ?_
  refine l_m7 (As := []) (st := []) (k_m_thrown M) D1 zy_X7_thrown zm_L_176 rfl rfl rfl rfl (by decide) (by omega) (by decide) ?_
  refine z_iload_6 D4 ?_
  refine z_icmp_eq_t (tgt := pc + 11) D6 (by omega) hk ?_
  refine z_iload_6 D11 ?_
  refine z_if_ne (tgt := pc + 28) D13 (by omega) (fun c => ?_) (fun c => ?_)
  · exact z_goto (tgt := 3639) D28 hg K
  · have c0 : k = 0 := c
    refine z_aload_3 D16 ?_
    refine z_iconst (v := 0) D17 rfl ?_
    refine z_lald D18 LH_out l_vp0 ?_
    refine z_topl (w := fl 0) rfl ?_
    refine z_iload_7 D19 ?_
    refine z_i2l D21 ?_
    refine z_lcmp D22 ?_
    refine z_ifQ_eq (tgt := pc + 28) D23 (by omega) (fun _ => ?_) (fun e => absurd (hb c0) e)
    exact z_goto (tgt := 3639) D28 hg K
theorem l_tailL {k : Int32} {b : Int64} {g : Int} (hk : M.1 15 = k) (hb : k = 0 → fl 0 = b) (hd1 : 1 ≤ d) (D0 : decode cL_law pc = .ok (.aload_n 2, 1)) (D1 : decode cL_law (pc + 1) = .ok (.invokevirtual 176, 3)) (D4 : decode cL_law (pc + 4) = .ok (.iload 6, 2)) (D6 : decode cL_law (pc + 6) = .ok (.if_icmp .eq 5, 3)) (D11 : decode cL_law (pc + 11) = .ok (.iload 6, 2)) (D13 : decode cL_law (pc + 13) = .ok (.ifCond .ne 14, 3)) (D16 : decode cL_law (pc + 16) = .ok (.aload_n 3, 1)) (D17 : decode cL_law (pc + 17) = .ok (.iconst 0, 1)) (D18 : decode cL_law (pc + 18) = .ok (.laload, 1)) (D19 : decode cL_law (pc + 19) = .ok (.lload 7, 2)) (D21 : decode cL_law (pc + 21) = .ok (.lcmp, 1)) (D22 : decode cL_law (pc + 22) = .ok (.ifCond .eq 5, 3)) (D27 : decode cL_law (pc + 27) = .ok (.goto g, 3)) (hg : ((pc + 27 : Nat) : Int) + g = 3639)
    (K : Z (n, f) yL_law cL_law 9 (some .boolean) d mc ms 3639 (some (.ref 1000202) :: some (.ref 0) :: some (.ref 117) :: some (.ref 115) :: some (.ref 116) :: some (.int (nI (i))) :: [some (.int k), some (.long b), none]) [] (LH S X R T P TU q G TN fl fd n f M) r h') : Z (n, f) yL_law cL_law 9 (some .boolean) d mc ms pc (some (.ref 1000202) :: some (.ref 0) :: some (.ref 117) :: some (.ref 115) :: some (.ref 116) :: some (.int (nI (i))) :: [some (.int k), some (.long b), none]) [] (LH S X R T P TU q G TN fl fd n f M) r h' := by
  refine z_aload_2 D0 ?_
  refine l_m7 (As := []) (st := []) (k_m_thrown M) D1 zy_X7_thrown zm_L_176 rfl rfl rfl rfl (by decide) (by omega) (by decide) ?_
  refine z_iload_6 D4 ?_
  refine z_icmp_eq_t (tgt := pc + 11) D6 (by omega) hk ?_
  refine z_iload_6 D11 ?_
  refine z_if_ne (tgt := pc + 27) D13 (by omega) (fun c => ?_) (fun c => ?_)
  · exact z_goto (tgt := 3639) D27 hg K
  · have c0 : k = 0 := c
    refine z_aload_3 D16 ?_
    refine z_iconst (v := 0) D17 rfl ?_
    refine z_lald D18 LH_out l_vp0 ?_
    refine z_topl (w := fl 0) rfl ?_
    refine z_lload_7 D19 ?_
    refine z_lcmp D21 ?_
    refine z_ifQ_eq (tgt := pc + 27) D22 (by omega) (fun _ => ?_) (fun e => absurd (hb c0) e)
    exact z_goto (tgt := 3639) D27 hg K
theorem l_tailB {k : Int32} {b : Bool} {g : Int} (hk : M.1 15 = k) (hb : k = 0 → fl 0 = if b = true then 1 else 0) (hd1 : 1 ≤ d) (D0 : decode cL_law pc = .ok (.aload_n 2, 1)) (D1 : decode cL_law (pc + 1) = .ok (.invokevirtual 176, 3)) (D4 : decode cL_law (pc + 4) = .ok (.iload 6, 2)) (D6 : decode cL_law (pc + 6) = .ok (.if_icmp .eq 5, 3)) (D11 : decode cL_law (pc + 11) = .ok (.iload 6, 2)) (D13 : decode cL_law (pc + 13) = .ok (.ifCond .ne 22, 3)) (D16 : decode cL_law (pc + 16) = .ok (.aload_n 3, 1)) (D17 : decode cL_law (pc + 17) = .ok (.iconst 0, 1)) (D18 : decode cL_law (pc + 18) = .ok (.laload, 1)) (D19 : decode cL_law (pc + 19) = .ok (.iload 7, 2)) (D21 : decode cL_law (pc + 21) = .ok (.ifCond .eq 7, 3)) (D24 : decode cL_law (pc + 24) = .ok (.lconst 1, 1)) (D25 : decode cL_law (pc + 25) = .ok (.goto 4, 3)) (D28 : decode cL_law (pc + 28) = .ok (.lconst 0, 1)) (D29 : decode cL_law (pc + 29) = .ok (.lcmp, 1)) (D30 : decode cL_law (pc + 30) = .ok (.ifCond .eq 5, 3)) (D35 : decode cL_law (pc + 35) = .ok (.goto g, 3)) (hg : ((pc + 35 : Nat) : Int) + g = 3639)
    (K : Z (n, f) yL_law cL_law 9 (some .boolean) d mc ms 3639 (some (.ref 1000202) :: some (.ref 0) :: some (.ref 117) :: some (.ref 115) :: some (.ref 116) :: some (.int (nI (i))) :: [some (.int k), some (.int (zb b)), a8]) [] (LH S X R T P TU q G TN fl fd n f M) r h') : Z (n, f) yL_law cL_law 9 (some .boolean) d mc ms pc (some (.ref 1000202) :: some (.ref 0) :: some (.ref 117) :: some (.ref 115) :: some (.ref 116) :: some (.int (nI (i))) :: [some (.int k), some (.int (zb b)), a8]) [] (LH S X R T P TU q G TN fl fd n f M) r h' := by
  refine z_aload_2 D0 ?_
  refine l_m7 (As := []) (st := []) (k_m_thrown M) D1 zy_X7_thrown zm_L_176 rfl rfl rfl rfl (by decide) (by omega) (by decide) ?_
  refine z_iload_6 D4 ?_
  refine z_icmp_eq_t (tgt := pc + 11) D6 (by omega) hk ?_
  refine z_iload_6 D11 ?_
  refine z_if_ne (tgt := pc + 35) D13 (by omega) (fun c => ?_) (fun c => ?_)
  · exact z_goto (tgt := 3639) D35 hg K
  · have c0 : k = 0 := c
    refine z_aload_3 D16 ?_
    refine z_iconst (v := 0) D17 rfl ?_
    refine z_lald D18 LH_out l_vp0 ?_
    refine z_topl (w := fl 0) rfl ?_
    refine z_iload_7 D19 ?_
    refine z_ifB_eq (tgt := pc + 28) D21 (by omega) (fun c9 => ?_) (fun c9 => ?_)
    · refine z_lconst (v := 0) D28 rfl ?_
      refine z_lcmp D29 ?_
      refine z_ifQ_eq (tgt := pc + 35) D30 (by omega) (fun _ => ?_) (fun e => absurd ((hb c0).trans (if_neg c9)) e)
      exact z_goto (tgt := 3639) D35 hg K
    · refine z_lconst (v := 1) D24 rfl ?_
      refine z_goto (tgt := pc + 29) D25 (by omega) ?_
      refine z_lcmp D29 ?_
      refine z_ifQ_eq (tgt := pc + 35) D30 (by omega) (fun _ => ?_) (fun e => absurd ((hb c0).trans (if_pos c9)) e)
      exact z_goto (tgt := 3639) D35 hg K
theorem l_tailD {k : Int32} {b : UInt64} {g : Int} (hk : M.1 15 = k) (hb : k = 0 → Op.cmpValue (FP.dcmp (fd 0) b) .l = 0) (hd1 : 1 ≤ d) (D0 : decode cL_law pc = .ok (.aload_n 2, 1)) (D1 : decode cL_law (pc + 1) = .ok (.invokevirtual 176, 3)) (D4 : decode cL_law (pc + 4) = .ok (.iload 6, 2)) (D6 : decode cL_law (pc + 6) = .ok (.if_icmp .eq 5, 3)) (D11 : decode cL_law (pc + 11) = .ok (.iload 6, 2)) (D13 : decode cL_law (pc + 13) = .ok (.ifCond .ne 35, 3)) (D16 : decode cL_law (pc + 16) = .ok (.aload 4, 2)) (D18 : decode cL_law (pc + 18) = .ok (.iconst 0, 1)) (D19 : decode cL_law (pc + 19) = .ok (.daload, 1)) (D20 : decode cL_law (pc + 20) = .ok (.dload 7, 2)) (D22 : decode cL_law (pc + 22) = .ok (.dcmp .l, 1)) (D23 : decode cL_law (pc + 23) = .ok (.ifCond .eq 25, 3)) (D48 : decode cL_law (pc + 48) = .ok (.goto g, 3)) (hg : ((pc + 48 : Nat) : Int) + g = 3639)
    (K : Z (n, f) yL_law cL_law 9 (some .boolean) d mc ms 3639 (some (.ref 1000202) :: some (.ref 0) :: some (.ref 117) :: some (.ref 115) :: some (.ref 116) :: some (.int (nI (i))) :: [some (.int k), some (.double b), none]) [] (LH S X R T P TU q G TN fl fd n f M) r h') : Z (n, f) yL_law cL_law 9 (some .boolean) d mc ms pc (some (.ref 1000202) :: some (.ref 0) :: some (.ref 117) :: some (.ref 115) :: some (.ref 116) :: some (.int (nI (i))) :: [some (.int k), some (.double b), none]) [] (LH S X R T P TU q G TN fl fd n f M) r h' := by
  refine z_aload_2 D0 ?_
  refine l_m7 (As := []) (st := []) (k_m_thrown M) D1 zy_X7_thrown zm_L_176 rfl rfl rfl rfl (by decide) (by omega) (by decide) ?_
  refine z_iload_6 D4 ?_
  refine z_icmp_eq_t (tgt := pc + 11) D6 (by omega) hk ?_
  refine z_iload_6 D11 ?_
  refine z_if_ne (tgt := pc + 48) D13 (by omega) (fun c => ?_) (fun c => ?_)
  · exact z_goto (tgt := 3639) D48 hg K
  · have c0 : k = 0 := c
    refine z_aload_4 D16 ?_
    refine z_iconst (v := 0) D18 rfl ?_
    refine z_dald D19 LH_dbl l_vp0 ?_
    refine z_dload_7 D20 ?_
    refine z_dcmp D22 ?_
    refine z_if_eq_t (tgt := pc + 48) D23 (by omega) (hb c0) ?_
    exact z_goto (tgt := 3639) D48 hg K
theorem l_tailF {k : Int32} {b : UInt32} {g : Int} (hk : M.1 15 = k) (hb : k = 0 → vf_n64 (FP.f2d b) ∧ Op.cmpValue (FP.dcmp (fd 0) (FP.f2d b)) .l = 0) (hd1 : 1 ≤ d) (D0 : decode cL_law pc = .ok (.aload_n 2, 1)) (D1 : decode cL_law (pc + 1) = .ok (.invokevirtual 176, 3)) (D4 : decode cL_law (pc + 4) = .ok (.iload 6, 2)) (D6 : decode cL_law (pc + 6) = .ok (.if_icmp .eq 5, 3)) (D11 : decode cL_law (pc + 11) = .ok (.iload 6, 2)) (D13 : decode cL_law (pc + 13) = .ok (.ifCond .ne 36, 3)) (D16 : decode cL_law (pc + 16) = .ok (.aload 4, 2)) (D18 : decode cL_law (pc + 18) = .ok (.iconst 0, 1)) (D19 : decode cL_law (pc + 19) = .ok (.daload, 1)) (D20 : decode cL_law (pc + 20) = .ok (.fload 7, 2)) (D22 : decode cL_law (pc + 22) = .ok (.f2d, 1)) (D23 : decode cL_law (pc + 23) = .ok (.dcmp .l, 1)) (D24 : decode cL_law (pc + 24) = .ok (.ifCond .eq 25, 3)) (D49 : decode cL_law (pc + 49) = .ok (.goto g, 3)) (hg : ((pc + 49 : Nat) : Int) + g = 3639)
    (K : Z (n, f) yL_law cL_law 9 (some .boolean) d mc ms 3639 (some (.ref 1000202) :: some (.ref 0) :: some (.ref 117) :: some (.ref 115) :: some (.ref 116) :: some (.int (nI (i))) :: [some (.int k), some (.float b), a8]) [] (LH S X R T P TU q G TN fl fd n f M) r h') : Z (n, f) yL_law cL_law 9 (some .boolean) d mc ms pc (some (.ref 1000202) :: some (.ref 0) :: some (.ref 117) :: some (.ref 115) :: some (.ref 116) :: some (.int (nI (i))) :: [some (.int k), some (.float b), a8]) [] (LH S X R T P TU q G TN fl fd n f M) r h' := by
  refine z_aload_2 D0 ?_
  refine l_m7 (As := []) (st := []) (k_m_thrown M) D1 zy_X7_thrown zm_L_176 rfl rfl rfl rfl (by decide) (by omega) (by decide) ?_
  refine z_iload_6 D4 ?_
  refine z_icmp_eq_t (tgt := pc + 11) D6 (by omega) hk ?_
  refine z_iload_6 D11 ?_
  refine z_if_ne (tgt := pc + 49) D13 (by omega) (fun c => ?_) (fun c => ?_)
  · exact z_goto (tgt := 3639) D49 hg K
  · have c0 : k = 0 := c
    refine z_aload_4 D16 ?_
    refine z_iconst (v := 0) D18 rfl ?_
    refine z_dald D19 LH_dbl l_vp0 ?_
    refine z_fload_7 D20 ?_
    refine z_f2d (hb c0).1 D22 ?_
    refine z_dcmp D23 ?_
    refine z_if_eq_t (tgt := pc + 49) D24 (by omega) (hb c0).2 ?_
    exact z_goto (tgt := 3639) D49 hg K
end LAWP
