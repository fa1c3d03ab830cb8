variable {sc : SC}
noncomputable def g_m_grows_L2 (n : Nat) : Nat → Nat → ZS → ZS
  | 0, _, S => S
  | fu + 1, k, S => (if nI ((gp n k).1) = nI (gp n k).2 - 1 then g_m_grows_L2 n fu (k + 1) (sA 10 ((gp n k).1) (nI (k)) S) else (if nI (gp n k).2 - 1 ≤ nI ((gp n k).1) then g_m_grows_L2 n fu (k + 1) S else g_m_grows_L2 n fu (k + 1) (sA 9 (2 * k + 1) (nI (gp n k).2 - 1) (sA 8 (2 * k + 1) (nI ((((gp n k).1 + ((gp n k).2 - 1)) / 2) + 1)) (sA 9 (2 * k) (nI (((gp n k).1 + ((gp n k).2 - 1)) / 2)) (sA 8 (2 * k) (nI ((gp n k).1)) S))))))
noncomputable def g_m_grows_L1 (n : Nat) : Nat → Nat → ZS → ZS
  | 0, _, S => g_m_grows_L2 n 127 1 (sA 9 (1) (nI (n - 1)) S)
  | fu + 1, k, S => g_m_grows_L1 n fu (k + 1) (sA 9 (k) ((-1)) (sA 8 (k) (0) S))
noncomputable def g_m_grows (n : Nat) (S : ZS) : ZS := (if S.1 19 = nI (n) then S else g_m_grows_L1 n 128 0 (sI 19 (nI (n)) S))
