variable {sc : SC}
/-! ===== the law from its entry ===== -/
theorem l_run {n : Nat} {f : Nat → Int32} {d : Nat} (hN : ∀ (S X R : ZS) (T : TS) (P : ZS) (TU : TS) (q : Nat) (G : Nat → TS) (TN : TS) (fl : Nat → Int64), hNo n f S X R T P TU q G TN fl) (hS : hSc d n f) (hI : Inv 10 iZ iZ iZ iT4 iZ tZ 0 (fun _ => tZ) tZ mS2) (hn : n ≤ 3072) (hd : 30 ≤ d) :
    ∃ h', Z (n, f) yL_law cL_law 9 (some .boolean) d (512 + 1 + 1 + 13 + 1 + 114 + 1) (6 * 512 + 1 + 1 + 5539 + 29 + 13269 + 7) 0 [some (.ref 1000202), none, none, none, none, none, none, none, none] [] [] (.inl (some (.int 1))) h' := by
  obtain ⟨S', X', R', T', P', TU', q', G', TN', fl', fd', M', k⟩ := l_loop (n := n) (f := f) (d := d) hN hS hn hd 512 0 iZ iZ iZ iT4 iZ tZ 0 (fun _ => tZ) tZ (fun _ => 0) (fun _ => 0) mS2 10 hI (Nat.zero_le _) (by omega)
  exact ⟨_, l_begin n f (by omega) (lback_len _) (l_turn n f (LH_len S' X' R' T' P' TU' q' G' TN' fl' fd' n f M') k)⟩
