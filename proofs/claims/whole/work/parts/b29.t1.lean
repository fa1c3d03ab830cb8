variable {sc : SC}
/-! ===== the loop of the law ===== -/
theorem and63 (x : Int32) : ∃ k, k < 64 ∧ x &&& 63 = nI k := by
  refine ⟨x.toBitVec.toNat % 64, Nat.mod_lt _ (by decide), ?_⟩
  apply Int32.toBitVec_inj.mp
  apply BitVec.eq_of_toNat_eq
  have h1 : (x &&& 63).toBitVec.toNat = x.toBitVec.toNat % 64 := by
    rw [Int32.toBitVec_and, BitVec.toNat_and]
    exact Nat.and_two_pow_sub_one_eq_mod x.toBitVec.toNat 6
  rw [h1]
  have h2 : (nI (x.toBitVec.toNat % 64)).toBitVec.toNat = x.toBitVec.toNat % 64 := by
    have hm : x.toBitVec.toNat % 64 < 64 := Nat.mod_lt _ (by decide)
    show (BitVec.ofNat 32 (x.toBitVec.toNat % 64)).toNat = _
    rw [BitVec.toNat_ofNat]
    omega
  exact h2.symm
section LOOP
variable {d i : Nat} {S X R : ZS} {T : TS} {P : ZS} {TU : TS} {q : Nat} {G : Nat → TS} {TN : TS} {fl : Nat → Int64} {fd : Nat → UInt64} {n : Nat} {f : Nat → Int32} {M : ZS} {n0 : Nat}
/-- what the two steps below still want -/
def hNo (n : Nat) (f : Nat → Int32) (S X R : ZS) (T : TS) (P : ZS) (TU : TS) (q : Nat) (G : Nat → TS) (TN : TS) (fl : Nat → Int64) : Prop := S.1 0 = 0 → zMW (n, f) yL_restoreSnapshot cL_restoreSnapshot 3 (some .int) 10 1 6 [.ref 0, .ref 115] (WL S X R T P TU q G TN fl) (some (.int 1)) (WL S X R T P TU q G TN fl)
def hSc (d : Nat) (n : Nat) (f : Nat → Int32) : Prop := ∀ (i : Nat) (S X R : ZS) (T : TS) (P : ZS) (TU : TS) (q : Nat) (G : Nat → TS) (TN : TS) (fl : Nat → Int64) (fd : Nat → UInt64) (M : ZS) (n0 : Nat), Inv n0 S X R T P TU q G TN M → i + 6 ≤ n → n ≤ 3072 → 30 ≤ d → f i &&& 63 = 2 → lStp d i n f S X R T P TU q G TN fl fd M
theorem l_step (hN : hNo n f S X R T P TU q G TN fl) (hS : hSc d n f) (hI : Inv n0 S X R T P TU q G TN M) (hi : i + 6 ≤ n) (hn : n ≤ 3072) (hd : 30 ≤ d) : lStp d i n f S X R T P TU q G TN fl fd M := by
  obtain ⟨k, hk, e⟩ := and63 (f i)
  match k, hk, e with
  | 0, _, e => exact l_step0 hI hi hn hd e
  | 1, _, e => exact l_step1 hI hi hn hd e
  | 2, _, e => exact hS i S X R T P TU q G TN fl fd M n0 hI hi hn hd e
  | 3, _, e => exact l_step3 hI hi hn hd e
  | 4, _, e => exact l_step4 hI hi hn hd e
  | 5, _, e => exact l_step5 hI hi hn hd e
  | 6, _, e => exact l_step6 hI hi hn hd e
  | 7, _, e => exact l_step7 hI hi hn hd e
  | 8, _, e => exact l_step8 hI hi hn hd e
  | 9, _, e => exact l_step9 hI hi hn hd e
  | 10, _, e => exact l_step10 hI hi hn hd e
  | 11, _, e => exact l_step11 hI hi hn hd e
  | 12, _, e => exact l_step12 hI hi hn hd e
  | 13, _, e => exact l_step13 hN hI hi hn hd e
  | 14, _, e => exact l_step14 hI hi hn hd e
  | 15, _, e => exact l_step15 hI hi hn hd e
  | 16, _, e => exact l_step16 hI hi hn hd e
  | 17, _, e => exact l_step17 hI hi hn hd e
  | 18, _, e => exact l_step18 hI hi hn hd e
  | 19, _, e => exact l_step19 hI hi hn hd e
  | 20, _, e => exact l_step20 hI hi hn hd e
  | 21, _, e => exact l_step21 hI hi hn hd e
  | 22, _, e => exact l_step22 hI hi hn hd e
  | 23, _, e => exact l_step23 hI hi hn hd e
  | 24, _, e => exact l_step24 hI hi hn hd e
  | 25, _, e => exact l_step25 hI hi hn hd e
  | 26, _, e => exact l_step26 hI hi hn hd e
  | 27, _, e => exact l_step27 hI hi hn hd e
  | 28, _, e => exact l_step28 hI hi hn hd e
  | 29, _, e => exact l_step29 hI hi hn hd e
  | 30, _, e => exact l_step30 hI hi hn hd e
  | 31, _, e => exact l_step31 hI hi hn hd e
  | 32, _, e => exact l_step32 hI hi hn hd e
  | 33, _, e => exact l_step33 hI hi hn hd e
  | 34, _, e => exact l_step34 hI hi hn hd e
  | 35, _, e => exact l_step35 hI hi hn hd e
  | 36, _, e => exact l_step36 hI hi hn hd e
  | 37, _, e => exact l_step37 hI hi hn hd e
  | 38, _, e => exact l_step38 hI hi hn hd e
  | 39, _, e => exact l_step39 hI hi hn hd e
  | 40, _, e => exact l_step40 hI hi hn hd e
  | 41, _, e => exact l_step41 hI hi hn hd e
  | 42, _, e => exact l_step42 hI hi hn hd e
  | 43, _, e => exact l_step43 hI hi hn hd e
  | 44, _, e => exact l_step44 hI hi hn hd e
  | 45, _, e => exact l_step45 hI hi hn hd e
  | 46, _, e => exact l_step46 hI hi hn hd e
  | 47, _, e => exact l_step47 hI hi hn hd e
  | 48, _, e => exact l_step48 hI hi hn hd e
  | 49, _, e => exact l_step49 hI hi hn hd e
  | 50, _, e => exact l_step50 hI hi hn hd e
  | 51, _, e => exact l_step51 hI hi hn hd e
  | 52, _, e => exact l_step52 hI hi hn hd e
  | 53, _, e => exact l_step53 hI hi hn hd e
  | 54, _, e => exact l_step54 hI hi hn hd e
  | 55, _, e => exact l_step55 hI hi hn hd e
  | 56, _, e => exact l_step56 hI hi hn hd e
  | 57, _, e => exact l_step57 hI hi hn hd e
  | 58, _, e => exact l_step58 hI hi hn hd e
  | 59, _, e => exact l_step59 hI hi hn hd e
  | 60, _, e => exact l_step60 hI hi hn hd e
  | 61, _, e => exact l_step61 hI hi hn hd e
  | 62, _, e => exact l_step62 hI hi hn hd e
  | 63, _, e => exact l_step63 hI hi hn hd e
  | k + 64, h, _ => exact absurd h (by omega)
theorem l_loop (hN : ∀ (S X R : ZS) (T : TS) (P : ZS) (TU : TS) (q : Nat) (G : Nat → TS) (TN : TS) (fl : Nat → Int64), hNo n f S X R T P TU q G TN fl) (hS : hSc d n f) (hn : n ≤ 3072) (hd : 30 ≤ d) : ∀ (m i : Nat) (S X R : ZS) (T : TS) (P : ZS) (TU : TS) (q : Nat) (G : Nat → TS) (TN : TS) (fl : Nat → Int64) (fd : Nat → UInt64) (M : ZS) (n0 : Nat), Inv n0 S X R T P TU q G TN M → i ≤ n → n < i + 6 * m + 6 →
    ∃ (S' X' R' : ZS) (T' : TS) (P' : ZS) (TU' : TS) (q' : Nat) (G' : Nat → TS) (TN' : TS) (fl' : Nat → Int64) (fd' : Nat → UInt64) (M' : ZS), Z (n, f) yL_law cL_law 9 (some .boolean) d m (6 * m) 28 (some (.ref 1000202) :: some (.ref 0) :: some (.ref 117) :: some (.ref 115) :: some (.ref 116) :: some (.int (nI i)) :: [none, none, none]) [] (LH S X R T P TU q G TN fl fd n f M) (.inl (some (.int 1))) (LH S' X' R' T' P' TU' q' G' TN' fl' fd' n f M') := by
  intro m
  induction m with
  | zero =>
    intro i S X R T P TU q G TN fl fd M n0 hI hin hm
    exact ⟨S, X, R, T, P, TU, q, G, TN, fl, fd, M, l_end (by omega) hin hn rfl rfl⟩
  | succ m ih =>
    intro i S X R T P TU q G TN fl fd M n0 hI hin hm
    by_cases c : i + 6 ≤ n
    · obtain ⟨S', X', R', T', P', TU', q', G', TN', fl', fd', M', ⟨n', hI'⟩, k⟩ := l_step (fl := fl) (fd := fd) (hN S X R T P TU q G TN fl) hS hI c hn hd
      obtain ⟨S2, X2, R2, T2, P2, TU2, q2, G2, TN2, fl2, fd2, M2, z⟩ := ih (i + 6) S' X' R' T' P' TU' q' G' TN' fl' fd' M' n' hI' (by omega) (by omega)
      refine ⟨S2, X2, R2, T2, P2, TU2, q2, G2, TN2, fl2, fd2, M2, ?_⟩
      exact k m (6 * m) _ _ z
    · exact ⟨S, X, R, T, P, TU, q, G, TN, fl, fd, M, l_end (by omega) hin hn rfl rfl⟩
end LOOP
