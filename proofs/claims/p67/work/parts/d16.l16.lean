variable {sc : SC}
theorem sR.rfl' (t c : Nat) (S : ZS) (T : TS) : sR t c 0 S T S T := fun _ _ _ => rfl
theorem sR.trans {t c k k' : Nat} {S S1 S2 : ZS} {T T1 T2 : TS} (h : sR t c k S T S1 T1) (g : sR t c k' S1 T1 S2 T2) : sR t c (k + k') S T S2 T2 := fun fu j X => by
  have e1 := h (fu + k') j X
  have e2 := g fu (j + k) X
  rw [show fu + (k + k') = fu + k' + k by omega, show j + (k + k') = j + k + k' by omega]
  exact e1.trans e2

