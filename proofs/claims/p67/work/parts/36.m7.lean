variable {sc : SC}
noncomputable def g_m_updates (n : Nat) (f : Nat) (t : Nat) (F : Int32) (O : Int32) (S : ZS) : Int32 × ZS := (((g_m_goes 7 n 1 f t (F) (O) (sI 22 (0) (sI 21 (0) (g_m_grows n S))))).1 21, (sA 0 (3) ((((g_m_goes 7 n 1 f t (F) (O) (sI 22 (0) (sI 21 (0) (g_m_grows n S))))).2 0 (3)) + (((g_m_goes 7 n 1 f t (F) (O) (sI 22 (0) (sI 21 (0) (g_m_grows n S))))).1 21)) (sA 0 (1) ((((g_m_goes 7 n 1 f t (F) (O) (sI 22 (0) (sI 21 (0) (g_m_grows n S))))).2 0 (1)) + 1) (g_m_goes 7 n 1 f t (F) (O) (sI 22 (0) (sI 21 (0) (g_m_grows n S)))))))
noncomputable def g_m_allPushes_L (n : Nat) : Nat → Nat → Nat → ZS → Nat × ZS
  | 0, c, _, S => (c, S)
  | fu + 1, c, k, S => (if nI (gp n k).2 - 1 ≤ nI ((gp n k).1) then g_m_allPushes_L n fu (c + 0) (k + 1) S else (if ((g_m_pushes n k S).1) = true then g_m_allPushes_L n fu (c + 1) (k + 1) ((g_m_pushes n k S).2) else g_m_allPushes_L n fu (c + 0) (k + 1) ((g_m_pushes n k S).2)))
noncomputable def g_m_allPushes (n : Nat) (S : ZS) : Nat × ZS := g_m_allPushes_L n 127 0 1 (g_m_grows n S)
