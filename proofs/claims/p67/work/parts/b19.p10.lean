variable {sc : SC}
theorem tF9.trans {M R Q : ZS} (h : tF9 M R) (g : tF9 R Q) : tF9 M Q := ⟨fun k a => (g.1 k a).trans (h.1 k a), fun j a => (g.2 j a).trans (h.2 j a)⟩
