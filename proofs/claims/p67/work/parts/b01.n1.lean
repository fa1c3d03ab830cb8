variable {sc : SC}
def zfo {σ : Type} (g : Nat → σ → σ) : List Nat → σ → σ
  | [], s => s
  | k :: t, s => zfo g t (g k s)
theorem zfo_app {σ : Type} (g : Nat → σ → σ) : ∀ (a b : List Nat) (s : σ), zfo g (a ++ b) s = zfo g b (zfo g a s) := by
  intro a
  induction a with
  | nil => intro b s; rfl
  | cons x t ih => intro b s; exact ih b (g x s)
def zmove (ind : Nat → Nat → Bool) (x : Nat) : List Nat → Option (List Nat)
  | [] => none
  | y :: t => if y = x then some t else if ind y x = true then (zmove ind x t).map (fun u => y :: u) else none
theorem zmove_fo {σ : Type} {g : Nat → σ → σ} {ind : Nat → Nat → Bool} (hc : ∀ (i j : Nat) (s : σ), ind i j = true → g i (g j s) = g j (g i s)) {x : Nat} : ∀ (l l' : List Nat) (s : σ), zmove ind x l = some l' → zfo g l s = zfo g l' (g x s) := by
  intro l
  induction l with
  | nil => intro l' s h; cases h
  | cons y t ih =>
    intro l' s h
    rw [zmove] at h
    by_cases e : y = x
    · rw [if_pos e] at h
      cases h
      subst e
      rfl
    · rw [if_neg e] at h
      by_cases e2 : ind y x = true
      · rw [if_pos e2] at h
        cases ht : zmove ind x t with
        | none => rw [ht] at h; cases h
        | some t' =>
          rw [ht] at h
          cases h
          show zfo g t (g y s) = zfo g t' (g y (g x s))
          rw [ih t' (g y s) ht, hc y x s e2]
      · rw [if_neg e2] at h
        cases h
def zsame (ind : Nat → Nat → Bool) : List Nat → List Nat → Bool
  | [], l => l.isEmpty
  | x :: p, l => match zmove ind x l with
    | some l' => zsame ind p l'
    | none => false
theorem zsame_fo {σ : Type} {g : Nat → σ → σ} {ind : Nat → Nat → Bool} (hc : ∀ (i j : Nat) (s : σ), ind i j = true → g i (g j s) = g j (g i s)) : ∀ (p l : List Nat) (s : σ), zsame ind p l = true → zfo g l s = zfo g p s := by
  intro p
  induction p with
  | nil =>
    intro l s h
    cases l with
    | nil => rfl
    | cons x t => cases h
  | cons x p ih =>
    intro l s h
    rw [zsame] at h
    cases ht : zmove ind x l with
    | none => rw [ht] at h; cases h
    | some l' =>
      rw [ht] at h
      rw [zmove_fo hc l l' s ht]
      exact ih l' (g x s) h
def zdnl : Nat → List Nat
  | 0 => []
  | n + 1 => (n + 1) :: zdnl n
def zupl : Nat → Nat → List Nat
  | 0, _ => []
  | n + 1, k => k :: zupl n (k + 1)
theorem zup_fo {σ : Type} (g : Nat → σ → σ) : ∀ (n k : Nat) (s : σ), zup g n k s = zfo g (zupl n k) s := by
  intro n
  induction n with
  | zero => intro k s; rfl
  | succ n ih => intro k s; exact ih (k + 1) (g k s)
theorem zdn_fo {σ : Type} (g : Nat → σ → σ) : ∀ (n : Nat) (s : σ), zdn g n s = zfo g (zdnl n) s := by
  intro n
  induction n with
  | zero => intro s; rfl
  | succ n ih => intro s; exact ih (g (n + 1) s)
theorem zfo_map {σ : Type} (g : Nat → σ → σ) (m : Nat → Nat) : ∀ (l : List Nat) (s : σ), zfo g (l.map m) s = zfo (fun k => g (m k)) l s := by
  intro l
  induction l with
  | nil => intro s; rfl
  | cons x t ih => intro s; exact ih (g (m x) s)
theorem zfo_cong {σ : Type} {g h : Nat → σ → σ} : ∀ (l : List Nat) (s : σ), (∀ k, k ∈ l → ∀ s, g k s = h k s) → zfo g l s = zfo h l s := by
  intro l
  induction l with
  | nil => intro s _; rfl
  | cons x t ih =>
    intro s e
    show zfo g t (g x s) = zfo h t (h x s)
    rw [e x List.mem_cons_self s]
    exact ih (h x s) (fun k hk => e k (List.mem_cons_of_mem _ hk))
def zfar (i j : Nat) : Prop := 1 ≤ i ∧ 1 ≤ j ∧ ¬ i = j ∧ ¬ i = 2 * j ∧ ¬ i = 2 * j + 1 ∧ ¬ j = 2 * i ∧ ¬ j = 2 * i + 1
def zfarB (i j : Nat) : Bool := decide (1 ≤ i) && decide (1 ≤ j) && !(i == j) && !(i == 2 * j) && !(i == 2 * j + 1) && !(j == 2 * i) && !(j == 2 * i + 1)
theorem zfarB_of {i j : Nat} (h : zfarB i j = true) : zfar i j := by
  simp only [zfarB, Bool.and_eq_true, decide_eq_true_eq, Bool.not_eq_true', beq_eq_false_iff_ne, ne_eq] at h
  exact ⟨h.1.1.1.1.1.1, h.1.1.1.1.1.2, h.1.1.1.1.2, h.1.1.1.2, h.1.1.2, h.1.2, h.2⟩
def zop (i : Nat) : Nat := if i < 128 then i else i - 128
def zpre : Nat → Nat → List Nat
  | 0, _ => []
  | d + 1, k => k :: (zpre d (2 * k) ++ (zpre d (2 * k + 1) ++ [128 + k]))
def zdfs {σ : Type} (a b : Nat → σ → σ) : Nat → Nat → σ → σ
  | 0, _, s => s
  | d + 1, k, s => b k (zdfs a b d (2 * k + 1) (zdfs a b d (2 * k) (a k s)))
def zab {σ : Type} (a b : Nat → σ → σ) (i : Nat) : σ → σ := if i < 128 then a i else b (i - 128)
theorem zpre_fo {σ : Type} (a b : Nat → σ → σ) : ∀ (d k : Nat) (s : σ), (k + 1) * 2 ^ d ≤ 256 → zfo (zab a b) (zpre d k) s = zdfs a b d k s := by
  intro d
  induction d with
  | zero => intro k s _; rfl
  | succ d ih =>
    intro k s h2
    have h3 : 1 ≤ 2 ^ d := Nat.one_le_two_pow
    have h4 : (k + 1) * 2 ^ (d + 1) = (2 * k + 1 + 1) * 2 ^ d := by
      rw [Nat.pow_succ, Nat.mul_comm (2 ^ d) 2, ← Nat.mul_assoc]
      congr 1
      omega
    have h5 : (2 * k + 1) * 2 ^ d ≤ (2 * k + 1 + 1) * 2 ^ d := Nat.mul_le_mul_right _ (by omega)
    have h6 : (2 * k + 1 + 1) * 1 ≤ (2 * k + 1 + 1) * 2 ^ d := Nat.mul_le_mul_left _ h3
    have e1 : ∀ s, zab a b k s = a k s := fun s => by rw [zab, if_pos (by omega)]
    have e2 : ∀ s, zab a b (128 + k) s = b k s := fun s => by rw [zab, if_neg (by omega), Nat.add_sub_cancel_left]
    show zfo (zab a b) (zpre d (2 * k) ++ (zpre d (2 * k + 1) ++ [128 + k])) (zab a b k s) = _
    rw [zfo_app, zfo_app, e1, ih (2 * k) _ (by omega), ih (2 * k + 1) _ (by omega)]
    exact e2 _
theorem zorder : zsame (fun i j => zfarB (zop i) (zop j)) (zpre 7 1) (zupl 127 1 ++ (zdnl 127).map (fun k => 128 + k)) = true := by decide +kernel
theorem z_order {σ : Type} (a b : Nat → σ → σ) (haa : ∀ (i j : Nat) (s : σ), zfar i j → a i (a j s) = a j (a i s)) (hab : ∀ (i j : Nat) (s : σ), zfar i j → a i (b j s) = b j (a i s)) (hbb : ∀ (i j : Nat) (s : σ), zfar i j → b i (b j s) = b j (b i s)) (s : σ) : zdn b 127 (zup a 127 1 s) = zdfs a b 7 1 s := by
  have hc : ∀ (i j : Nat) (s : σ), zfarB (zop i) (zop j) = true → zab a b i (zab a b j s) = zab a b j (zab a b i s) := fun i j s h => by
    have h1 := zfarB_of h
    unfold zop at h1
    unfold zab
    by_cases hi : i < 128
    · by_cases hj : j < 128
      · rw [if_pos hi, if_pos hj] at h1 ⊢
        exact haa i j s h1
      · rw [if_pos hi, if_neg hj] at h1 ⊢
        exact hab i (j - 128) s h1
    · by_cases hj : j < 128
      · rw [if_neg hi, if_pos hj] at h1 ⊢
        obtain ⟨g1, g2, g3, g4, g5, g6, g7⟩ := h1
        exact (hab j (i - 128) s ⟨g2, g1, fun z => g3 z.symm, g6, g7, g4, g5⟩).symm
      · rw [if_neg hi, if_neg hj] at h1 ⊢
        exact hbb (i - 128) (j - 128) s h1
  have e1 : zfo (zab a b) (zupl 127 1) s = zup a 127 1 s := by
    rw [zup_fo]
    refine zfo_cong _ _ (fun k hk s => ?_)
    have : ∀ n k x, x ∈ zupl n k → x < k + n := by
      intro n
      induction n with
      | zero => intro k x h; cases h
      | succ n ih =>
        intro k x h
        rcases List.mem_cons.mp h with h | h
        · omega
        · have := ih (k + 1) x h
          omega
    have h2 := this 127 1 k hk
    rw [zab, if_pos (by omega)]
  have e2 : ∀ s, zfo (zab a b) ((zdnl 127).map (fun k => 128 + k)) s = zdn b 127 s := fun s => by
    rw [zdn_fo, zfo_map]
    refine zfo_cong _ _ (fun k hk s => ?_)
    rw [zab, if_neg (by omega), Nat.add_sub_cancel_left]
  have h := zsame_fo hc (zpre 7 1) (zupl 127 1 ++ (zdnl 127).map (fun k => 128 + k)) s zorder
  rw [zfo_app, e1, e2] at h
  rw [h]
  exact zpre_fo a b 7 1 s (by decide)
