variable {sc : SC}
theorem zren_seg {f g k : Nat → Nat} {m : Nat} {x : zO} (h : zbo m x) (e : ∀ i, i < m → f (g i) = k i) : zren f (zren g x) = zren k x := by
  rcases x with ⟨t, q, x | x | x | x | x⟩ | ⟨ci, fs⟩
  · rfl
  · rfl
  · rfl
  · rfl
  · show (Sum.inl (t, (q, .inr (.inr (.inr (.inr (fun j => ((x j).map g).map f)))))) : zO) = Sum.inl (t, (q, .inr (.inr (.inr (.inr (fun j => (x j).map k))))))
    have e2 : (fun j => ((x j).map g).map f) = fun j => (x j).map k := by
      funext j
      have h2 := h j
      cases e3 : x j with
      | none => rfl
      | some a => exact congrArg some (e a (h2 a e3))
    rw [e2]
  · show (Sum.inr (ci, (fs.map (zv g)).map (zv f)) : zO) = Sum.inr (ci, fs.map (zv k))
    rw [List.map_map]
    have e2 : fs.map (zv f ∘ zv g) = fs.map (zv k) := List.map_congr_left (fun v hv => by
      have h3 := h v hv
      cases v with
      | ref a => exact congrArg Value.ref (e a (h3 a rfl))
      | int x => rfl
      | long x => rfl
      | float x => rfl
      | double x => rfl
      | null => rfl
      | retAddr x => rfl)
    rw [e2]
theorem zseg {σ : Nat → Nat} {h h2 A1 B1 A2 B2 C1 C2 : List zO} {a b m : Nat} (e1 : h = A1 ++ (C1 ++ B1)) (e2 : h2 = A2 ++ (C2 ++ B2)) (hA1 : A1.length = a) (hA2 : A2.length = b) (hm : C1.length = m) (hC : C1.map (zren σ) = C2) (hσ : ∀ j, j < m → σ (a + j) = b + j) (i : Nat) (h1 : a ≤ i) (h9 : i < a + m) : h2[σ i]? = (h[i]?).map (zren σ) := by
  obtain ⟨j, rfl⟩ := Nat.exists_eq_add_of_le h1
  have hj : j < m := by omega
  have hC2 : C2.length = m := by rw [← hC, List.length_map]; exact hm
  have g1 : h[a + j]? = C1[j]? := by rw [e1, List.getElem?_append_right (by omega), hA1, Nat.add_sub_cancel_left, List.getElem?_append_left (by omega)]
  have g2 : h2[b + j]? = C2[j]? := by rw [e2, List.getElem?_append_right (by omega), hA2, Nat.add_sub_cancel_left, List.getElem?_append_left (by omega)]
  rw [hσ j hj, g1, g2, ← hC, List.getElem?_map]
