variable {sc : SC}
theorem zup_keep {σ α : Type} (f : σ → α) {g : Nat → σ → σ} (h : ∀ k s, f (g k s) = f s) : ∀ n k s, f (zup g n k s) = f s := by
  intro n
  induction n with
  | zero => intro k s; rfl
  | succ n ih => intro k s; rw [zup, ih, h]
theorem zdn_keep {σ α : Type} (f : σ → α) {g : Nat → σ → σ} (h : ∀ k s, f (g k s) = f s) : ∀ n s, f (zdn g n s) = f s := by
  intro n
  induction n with
  | zero => intro s; rfl
  | succ n ih => intro s; rw [zdn, ih, h]
theorem tn_plant (T : TS) (k : Nat) : tn (tPlant T k) = tn T := by
  rw [tPlant]
  split <;> rfl
theorem tn_fills (T : TS) : tn (tFills T) = tn T := rfl
theorem tn_lay0 (T : TS) : tn (tLay0 T) = tn T := rfl
theorem tn_lay (T : TS) : tn (tLayOut T) = tn T := by
  rw [tLayOut, zup_keep tn (fun k T => by rw [tLay1]; split <;> rfl), tn_lay0]
theorem tn_build (T : TS) : tn (tBuild T) = tn T := by
  rw [tBuild, zdn_keep tn (fun k T => by
    rw [tBld]
    split
    · rfl
    · exact tn_plant _ _), tn_fills, tn_lay]
def kf (S R : ZS) : Prop := R.1 4 = S.1 4 ∧ R.1 6 = S.1 6 ∧ R.1 9 = S.1 9 ∧ R.2 = S.2
