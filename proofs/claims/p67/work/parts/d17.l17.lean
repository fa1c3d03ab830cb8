variable {sc : SC}
theorem stk.rfl' (s : Nat) (S : ZS) : stk s S S := fun _ _ => ⟨rfl, rfl, rfl⟩
theorem stk.trans {s : Nat} {S R Q : ZS} (h : stk s S R) (g : stk s R Q) : stk s S Q := fun k hk => ⟨(g k hk).1.trans (h k hk).1, (g k hk).2.1.trans (h k hk).2.1, (g k hk).2.2.trans (h k hk).2.2⟩
theorem stk.le {s s' : Nat} {S R : ZS} (h : stk s S R) (hs : s' ≤ s) : stk s' S R := fun k hk => h k (by omega)

