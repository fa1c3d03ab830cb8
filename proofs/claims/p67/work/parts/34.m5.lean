variable {sc : SC}
noncomputable def g_m_applies (n : Nat) (k : Nat) (f : Int32) (o : Int32) (S : ZS) : ZS := (if ((g_m_ends n k S)) = true then (sA 0 (4 + ((gp n k).1)) ((f * (S.2 0 (4 + ((gp n k).1)))) + o) S) else (sA 0 (172 + k) ((f * (S.2 0 (172 + k))) + o) (sA 0 (44 + k) (f * (S.2 0 (44 + k))) S)))
noncomputable def s_m_pushes_1 (n : Nat) (k : Nat) (S : ZS) : ZS := (g_m_applies n (2 * k + 1) (S.2 0 (44 + k)) (S.2 0 (172 + k)) (g_m_applies n (2 * k) (S.2 0 (44 + k)) (S.2 0 (172 + k)) S))
noncomputable def g_m_pushes (n : Nat) (k : Nat) (S : ZS) : Bool × ZS := (if ((g_m_isMarked k S)) = true then (true, (sA 0 (2) ((((s_m_pushes_1 n k S)).2 0 (2)) + 1) (sA 0 (172 + k) (0) (sA 0 (44 + k) (1) (s_m_pushes_1 n k S))))) else (false, S))
