variable {sc : SC}
/-! ===== the first script's tokens ===== -/
def zT19 : List Int32 := [115, 101, 113, 117, 101, 110, 99, 101, 32, 53, 32, 45, 50, 32, 55, 32, 55, 32, 48, 32, 51, 32, 45, 49, 32, 52, 32, 57, 32, 45, 54, 59, 32, 97, 100, 100, 32, 49, 32, 54, 32, 50, 59, 32, 97, 115, 115, 105, 103, 110, 32, 51, 32, 52, 32, 56, 59, 32, 110, 101, 103, 97, 116, 101, 32, 48, 32, 52, 59, 32, 97, 100, 100, 32, 48, 32, 57, 32, 49, 59]
def zX19 (i : Nat) : Int32 := zT19.getD i 0
theorem zby19_eq : zby 19 = zT19 := by rfl
theorem len19 : (zby 19).length = 80 := by rw [zby19_eq]; rfl
theorem t19_0 : lxO zX19 80 0 = 0 ∧ lxE zX19 80 0 = 8 ∧ lxK zX19 0 8 = 2 ∧ lxV zX19 0 8 = 0 := by decide +kernel
theorem t19_1 : lxO zX19 80 8 = 9 ∧ lxE zX19 80 9 = 10 ∧ lxK zX19 9 10 = 3 ∧ lxV zX19 9 10 = 5 := by decide +kernel
theorem t19_2 : lxO zX19 80 10 = 11 ∧ lxE zX19 80 11 = 12 ∧ lxK zX19 11 12 = 4 ∧ lxV zX19 11 12 = 0 := by decide +kernel
theorem t19_3 : lxO zX19 80 12 = 12 ∧ lxE zX19 80 12 = 13 ∧ lxK zX19 12 13 = 3 ∧ lxV zX19 12 13 = 2 := by decide +kernel
theorem t19_4 : lxO zX19 80 13 = 14 ∧ lxE zX19 80 14 = 15 ∧ lxK zX19 14 15 = 3 ∧ lxV zX19 14 15 = 7 := by decide +kernel
theorem t19_5 : lxO zX19 80 15 = 16 ∧ lxE zX19 80 16 = 17 ∧ lxK zX19 16 17 = 3 ∧ lxV zX19 16 17 = 7 := by decide +kernel
theorem t19_6 : lxO zX19 80 17 = 18 ∧ lxE zX19 80 18 = 19 ∧ lxK zX19 18 19 = 3 ∧ lxV zX19 18 19 = 0 := by decide +kernel
theorem t19_7 : lxO zX19 80 19 = 20 ∧ lxE zX19 80 20 = 21 ∧ lxK zX19 20 21 = 3 ∧ lxV zX19 20 21 = 3 := by decide +kernel
theorem t19_8 : lxO zX19 80 21 = 22 ∧ lxE zX19 80 22 = 23 ∧ lxK zX19 22 23 = 4 ∧ lxV zX19 22 23 = 0 := by decide +kernel
theorem t19_9 : lxO zX19 80 23 = 23 ∧ lxE zX19 80 23 = 24 ∧ lxK zX19 23 24 = 3 ∧ lxV zX19 23 24 = 1 := by decide +kernel
theorem t19_10 : lxO zX19 80 24 = 25 ∧ lxE zX19 80 25 = 26 ∧ lxK zX19 25 26 = 3 ∧ lxV zX19 25 26 = 4 := by decide +kernel
theorem t19_11 : lxO zX19 80 26 = 27 ∧ lxE zX19 80 27 = 28 ∧ lxK zX19 27 28 = 3 ∧ lxV zX19 27 28 = 9 := by decide +kernel
theorem t19_12 : lxO zX19 80 28 = 29 ∧ lxE zX19 80 29 = 30 ∧ lxK zX19 29 30 = 4 ∧ lxV zX19 29 30 = 0 := by decide +kernel
theorem t19_13 : lxO zX19 80 30 = 30 ∧ lxE zX19 80 30 = 31 ∧ lxK zX19 30 31 = 3 ∧ lxV zX19 30 31 = 6 := by decide +kernel
theorem t19_14 : lxO zX19 80 31 = 31 ∧ lxE zX19 80 31 = 32 ∧ lxK zX19 31 32 = 1 ∧ lxV zX19 31 32 = 0 := by decide +kernel
theorem t19_15 : lxO zX19 80 32 = 33 ∧ lxE zX19 80 33 = 36 ∧ lxK zX19 33 36 = 2 ∧ lxV zX19 33 36 = 0 := by decide +kernel
theorem t19_16 : lxO zX19 80 36 = 37 ∧ lxE zX19 80 37 = 38 ∧ lxK zX19 37 38 = 3 ∧ lxV zX19 37 38 = 1 := by decide +kernel
theorem t19_17 : lxO zX19 80 38 = 39 ∧ lxE zX19 80 39 = 40 ∧ lxK zX19 39 40 = 3 ∧ lxV zX19 39 40 = 6 := by decide +kernel
theorem t19_18 : lxO zX19 80 40 = 41 ∧ lxE zX19 80 41 = 42 ∧ lxK zX19 41 42 = 3 ∧ lxV zX19 41 42 = 2 := by decide +kernel
theorem t19_19 : lxO zX19 80 42 = 42 ∧ lxE zX19 80 42 = 43 ∧ lxK zX19 42 43 = 1 ∧ lxV zX19 42 43 = 0 := by decide +kernel
theorem t19_20 : lxO zX19 80 43 = 44 ∧ lxE zX19 80 44 = 50 ∧ lxK zX19 44 50 = 2 ∧ lxV zX19 44 50 = 0 := by decide +kernel
theorem t19_21 : lxO zX19 80 50 = 51 ∧ lxE zX19 80 51 = 52 ∧ lxK zX19 51 52 = 3 ∧ lxV zX19 51 52 = 3 := by decide +kernel
theorem t19_22 : lxO zX19 80 52 = 53 ∧ lxE zX19 80 53 = 54 ∧ lxK zX19 53 54 = 3 ∧ lxV zX19 53 54 = 4 := by decide +kernel
theorem t19_23 : lxO zX19 80 54 = 55 ∧ lxE zX19 80 55 = 56 ∧ lxK zX19 55 56 = 3 ∧ lxV zX19 55 56 = 8 := by decide +kernel
theorem t19_24 : lxO zX19 80 56 = 56 ∧ lxE zX19 80 56 = 57 ∧ lxK zX19 56 57 = 1 ∧ lxV zX19 56 57 = 0 := by decide +kernel
theorem t19_25 : lxO zX19 80 57 = 58 ∧ lxE zX19 80 58 = 64 ∧ lxK zX19 58 64 = 2 ∧ lxV zX19 58 64 = 0 := by decide +kernel
theorem t19_26 : lxO zX19 80 64 = 65 ∧ lxE zX19 80 65 = 66 ∧ lxK zX19 65 66 = 3 ∧ lxV zX19 65 66 = 0 := by decide +kernel
theorem t19_27 : lxO zX19 80 66 = 67 ∧ lxE zX19 80 67 = 68 ∧ lxK zX19 67 68 = 3 ∧ lxV zX19 67 68 = 4 := by decide +kernel
theorem t19_28 : lxO zX19 80 68 = 68 ∧ lxE zX19 80 68 = 69 ∧ lxK zX19 68 69 = 1 ∧ lxV zX19 68 69 = 0 := by decide +kernel
theorem t19_29 : lxO zX19 80 69 = 70 ∧ lxE zX19 80 70 = 73 ∧ lxK zX19 70 73 = 2 ∧ lxV zX19 70 73 = 0 := by decide +kernel
theorem t19_30 : lxO zX19 80 73 = 74 ∧ lxE zX19 80 74 = 75 ∧ lxK zX19 74 75 = 3 ∧ lxV zX19 74 75 = 0 := by decide +kernel
theorem t19_31 : lxO zX19 80 75 = 76 ∧ lxE zX19 80 76 = 77 ∧ lxK zX19 76 77 = 3 ∧ lxV zX19 76 77 = 9 := by decide +kernel
theorem t19_32 : lxO zX19 80 77 = 78 ∧ lxE zX19 80 78 = 79 ∧ lxK zX19 78 79 = 3 ∧ lxV zX19 78 79 = 1 := by decide +kernel
theorem t19_33 : lxO zX19 80 79 = 79 ∧ lxE zX19 80 79 = 80 ∧ lxK zX19 79 80 = 1 ∧ lxV zX19 79 80 = 0 := by decide +kernel
theorem t19_34 : lxO zX19 80 80 = 80 := by decide +kernel
theorem tk19_0 : tkP zX19 80 0 = 0 := rfl
theorem to19_0 : tkO zX19 80 0 = 0 := by show lxO zX19 80 (tkP zX19 80 0) = _; rw [tk19_0]; exact t19_0.1
theorem tk19_1 : tkP zX19 80 1 = 8 := by show lxE zX19 80 (lxO zX19 80 (tkP zX19 80 0)) = _; rw [tk19_0, t19_0.1]; exact t19_0.2.1
theorem ta19_0 : tkO zX19 80 0 < 80 ∧ tkK zX19 80 0 = 2 ∧ tkV zX19 80 0 = 0 := by show tkO zX19 80 0 < 80 ∧ lxK zX19 (tkO zX19 80 0) (tkP zX19 80 1) = _ ∧ lxV zX19 (tkO zX19 80 0) (tkP zX19 80 1) = _; rw [to19_0, tk19_1]; exact ⟨by decide, t19_0.2.2.1, t19_0.2.2.2⟩
theorem to19_1 : tkO zX19 80 1 = 9 := by show lxO zX19 80 (tkP zX19 80 1) = _; rw [tk19_1]; exact t19_1.1
theorem tk19_2 : tkP zX19 80 2 = 10 := by show lxE zX19 80 (lxO zX19 80 (tkP zX19 80 1)) = _; rw [tk19_1, t19_1.1]; exact t19_1.2.1
theorem ta19_1 : tkO zX19 80 1 < 80 ∧ tkK zX19 80 1 = 3 ∧ tkV zX19 80 1 = 5 := by show tkO zX19 80 1 < 80 ∧ lxK zX19 (tkO zX19 80 1) (tkP zX19 80 2) = _ ∧ lxV zX19 (tkO zX19 80 1) (tkP zX19 80 2) = _; rw [to19_1, tk19_2]; exact ⟨by decide, t19_1.2.2.1, t19_1.2.2.2⟩
theorem to19_2 : tkO zX19 80 2 = 11 := by show lxO zX19 80 (tkP zX19 80 2) = _; rw [tk19_2]; exact t19_2.1
theorem tk19_3 : tkP zX19 80 3 = 12 := by show lxE zX19 80 (lxO zX19 80 (tkP zX19 80 2)) = _; rw [tk19_2, t19_2.1]; exact t19_2.2.1
theorem ta19_2 : tkO zX19 80 2 < 80 ∧ tkK zX19 80 2 = 4 ∧ tkV zX19 80 2 = 0 := by show tkO zX19 80 2 < 80 ∧ lxK zX19 (tkO zX19 80 2) (tkP zX19 80 3) = _ ∧ lxV zX19 (tkO zX19 80 2) (tkP zX19 80 3) = _; rw [to19_2, tk19_3]; exact ⟨by decide, t19_2.2.2.1, t19_2.2.2.2⟩
theorem to19_3 : tkO zX19 80 3 = 12 := by show lxO zX19 80 (tkP zX19 80 3) = _; rw [tk19_3]; exact t19_3.1
theorem tk19_4 : tkP zX19 80 4 = 13 := by show lxE zX19 80 (lxO zX19 80 (tkP zX19 80 3)) = _; rw [tk19_3, t19_3.1]; exact t19_3.2.1
theorem ta19_3 : tkO zX19 80 3 < 80 ∧ tkK zX19 80 3 = 3 ∧ tkV zX19 80 3 = 2 := by show tkO zX19 80 3 < 80 ∧ lxK zX19 (tkO zX19 80 3) (tkP zX19 80 4) = _ ∧ lxV zX19 (tkO zX19 80 3) (tkP zX19 80 4) = _; rw [to19_3, tk19_4]; exact ⟨by decide, t19_3.2.2.1, t19_3.2.2.2⟩
theorem to19_4 : tkO zX19 80 4 = 14 := by show lxO zX19 80 (tkP zX19 80 4) = _; rw [tk19_4]; exact t19_4.1
theorem tk19_5 : tkP zX19 80 5 = 15 := by show lxE zX19 80 (lxO zX19 80 (tkP zX19 80 4)) = _; rw [tk19_4, t19_4.1]; exact t19_4.2.1
theorem ta19_4 : tkO zX19 80 4 < 80 ∧ tkK zX19 80 4 = 3 ∧ tkV zX19 80 4 = 7 := by show tkO zX19 80 4 < 80 ∧ lxK zX19 (tkO zX19 80 4) (tkP zX19 80 5) = _ ∧ lxV zX19 (tkO zX19 80 4) (tkP zX19 80 5) = _; rw [to19_4, tk19_5]; exact ⟨by decide, t19_4.2.2.1, t19_4.2.2.2⟩
theorem to19_5 : tkO zX19 80 5 = 16 := by show lxO zX19 80 (tkP zX19 80 5) = _; rw [tk19_5]; exact t19_5.1
theorem tk19_6 : tkP zX19 80 6 = 17 := by show lxE zX19 80 (lxO zX19 80 (tkP zX19 80 5)) = _; rw [tk19_5, t19_5.1]; exact t19_5.2.1
theorem ta19_5 : tkO zX19 80 5 < 80 ∧ tkK zX19 80 5 = 3 ∧ tkV zX19 80 5 = 7 := by show tkO zX19 80 5 < 80 ∧ lxK zX19 (tkO zX19 80 5) (tkP zX19 80 6) = _ ∧ lxV zX19 (tkO zX19 80 5) (tkP zX19 80 6) = _; rw [to19_5, tk19_6]; exact ⟨by decide, t19_5.2.2.1, t19_5.2.2.2⟩
theorem to19_6 : tkO zX19 80 6 = 18 := by show lxO zX19 80 (tkP zX19 80 6) = _; rw [tk19_6]; exact t19_6.1
theorem tk19_7 : tkP zX19 80 7 = 19 := by show lxE zX19 80 (lxO zX19 80 (tkP zX19 80 6)) = _; rw [tk19_6, t19_6.1]; exact t19_6.2.1
theorem ta19_6 : tkO zX19 80 6 < 80 ∧ tkK zX19 80 6 = 3 ∧ tkV zX19 80 6 = 0 := by show tkO zX19 80 6 < 80 ∧ lxK zX19 (tkO zX19 80 6) (tkP zX19 80 7) = _ ∧ lxV zX19 (tkO zX19 80 6) (tkP zX19 80 7) = _; rw [to19_6, tk19_7]; exact ⟨by decide, t19_6.2.2.1, t19_6.2.2.2⟩
theorem to19_7 : tkO zX19 80 7 = 20 := by show lxO zX19 80 (tkP zX19 80 7) = _; rw [tk19_7]; exact t19_7.1
theorem tk19_8 : tkP zX19 80 8 = 21 := by show lxE zX19 80 (lxO zX19 80 (tkP zX19 80 7)) = _; rw [tk19_7, t19_7.1]; exact t19_7.2.1
theorem ta19_7 : tkO zX19 80 7 < 80 ∧ tkK zX19 80 7 = 3 ∧ tkV zX19 80 7 = 3 := by show tkO zX19 80 7 < 80 ∧ lxK zX19 (tkO zX19 80 7) (tkP zX19 80 8) = _ ∧ lxV zX19 (tkO zX19 80 7) (tkP zX19 80 8) = _; rw [to19_7, tk19_8]; exact ⟨by decide, t19_7.2.2.1, t19_7.2.2.2⟩
theorem to19_8 : tkO zX19 80 8 = 22 := by show lxO zX19 80 (tkP zX19 80 8) = _; rw [tk19_8]; exact t19_8.1
theorem tk19_9 : tkP zX19 80 9 = 23 := by show lxE zX19 80 (lxO zX19 80 (tkP zX19 80 8)) = _; rw [tk19_8, t19_8.1]; exact t19_8.2.1
theorem ta19_8 : tkO zX19 80 8 < 80 ∧ tkK zX19 80 8 = 4 ∧ tkV zX19 80 8 = 0 := by show tkO zX19 80 8 < 80 ∧ lxK zX19 (tkO zX19 80 8) (tkP zX19 80 9) = _ ∧ lxV zX19 (tkO zX19 80 8) (tkP zX19 80 9) = _; rw [to19_8, tk19_9]; exact ⟨by decide, t19_8.2.2.1, t19_8.2.2.2⟩
theorem to19_9 : tkO zX19 80 9 = 23 := by show lxO zX19 80 (tkP zX19 80 9) = _; rw [tk19_9]; exact t19_9.1
theorem tk19_10 : tkP zX19 80 10 = 24 := by show lxE zX19 80 (lxO zX19 80 (tkP zX19 80 9)) = _; rw [tk19_9, t19_9.1]; exact t19_9.2.1
theorem ta19_9 : tkO zX19 80 9 < 80 ∧ tkK zX19 80 9 = 3 ∧ tkV zX19 80 9 = 1 := by show tkO zX19 80 9 < 80 ∧ lxK zX19 (tkO zX19 80 9) (tkP zX19 80 10) = _ ∧ lxV zX19 (tkO zX19 80 9) (tkP zX19 80 10) = _; rw [to19_9, tk19_10]; exact ⟨by decide, t19_9.2.2.1, t19_9.2.2.2⟩
theorem to19_10 : tkO zX19 80 10 = 25 := by show lxO zX19 80 (tkP zX19 80 10) = _; rw [tk19_10]; exact t19_10.1
theorem tk19_11 : tkP zX19 80 11 = 26 := by show lxE zX19 80 (lxO zX19 80 (tkP zX19 80 10)) = _; rw [tk19_10, t19_10.1]; exact t19_10.2.1
theorem ta19_10 : tkO zX19 80 10 < 80 ∧ tkK zX19 80 10 = 3 ∧ tkV zX19 80 10 = 4 := by show tkO zX19 80 10 < 80 ∧ lxK zX19 (tkO zX19 80 10) (tkP zX19 80 11) = _ ∧ lxV zX19 (tkO zX19 80 10) (tkP zX19 80 11) = _; rw [to19_10, tk19_11]; exact ⟨by decide, t19_10.2.2.1, t19_10.2.2.2⟩
theorem to19_11 : tkO zX19 80 11 = 27 := by show lxO zX19 80 (tkP zX19 80 11) = _; rw [tk19_11]; exact t19_11.1
theorem tk19_12 : tkP zX19 80 12 = 28 := by show lxE zX19 80 (lxO zX19 80 (tkP zX19 80 11)) = _; rw [tk19_11, t19_11.1]; exact t19_11.2.1
theorem ta19_11 : tkO zX19 80 11 < 80 ∧ tkK zX19 80 11 = 3 ∧ tkV zX19 80 11 = 9 := by show tkO zX19 80 11 < 80 ∧ lxK zX19 (tkO zX19 80 11) (tkP zX19 80 12) = _ ∧ lxV zX19 (tkO zX19 80 11) (tkP zX19 80 12) = _; rw [to19_11, tk19_12]; exact ⟨by decide, t19_11.2.2.1, t19_11.2.2.2⟩
theorem to19_12 : tkO zX19 80 12 = 29 := by show lxO zX19 80 (tkP zX19 80 12) = _; rw [tk19_12]; exact t19_12.1
theorem tk19_13 : tkP zX19 80 13 = 30 := by show lxE zX19 80 (lxO zX19 80 (tkP zX19 80 12)) = _; rw [tk19_12, t19_12.1]; exact t19_12.2.1
theorem ta19_12 : tkO zX19 80 12 < 80 ∧ tkK zX19 80 12 = 4 ∧ tkV zX19 80 12 = 0 := by show tkO zX19 80 12 < 80 ∧ lxK zX19 (tkO zX19 80 12) (tkP zX19 80 13) = _ ∧ lxV zX19 (tkO zX19 80 12) (tkP zX19 80 13) = _; rw [to19_12, tk19_13]; exact ⟨by decide, t19_12.2.2.1, t19_12.2.2.2⟩
theorem to19_13 : tkO zX19 80 13 = 30 := by show lxO zX19 80 (tkP zX19 80 13) = _; rw [tk19_13]; exact t19_13.1
theorem tk19_14 : tkP zX19 80 14 = 31 := by show lxE zX19 80 (lxO zX19 80 (tkP zX19 80 13)) = _; rw [tk19_13, t19_13.1]; exact t19_13.2.1
theorem ta19_13 : tkO zX19 80 13 < 80 ∧ tkK zX19 80 13 = 3 ∧ tkV zX19 80 13 = 6 := by show tkO zX19 80 13 < 80 ∧ lxK zX19 (tkO zX19 80 13) (tkP zX19 80 14) = _ ∧ lxV zX19 (tkO zX19 80 13) (tkP zX19 80 14) = _; rw [to19_13, tk19_14]; exact ⟨by decide, t19_13.2.2.1, t19_13.2.2.2⟩
theorem to19_14 : tkO zX19 80 14 = 31 := by show lxO zX19 80 (tkP zX19 80 14) = _; rw [tk19_14]; exact t19_14.1
theorem tk19_15 : tkP zX19 80 15 = 32 := by show lxE zX19 80 (lxO zX19 80 (tkP zX19 80 14)) = _; rw [tk19_14, t19_14.1]; exact t19_14.2.1
theorem ta19_14 : tkO zX19 80 14 < 80 ∧ tkK zX19 80 14 = 1 ∧ tkV zX19 80 14 = 0 := by show tkO zX19 80 14 < 80 ∧ lxK zX19 (tkO zX19 80 14) (tkP zX19 80 15) = _ ∧ lxV zX19 (tkO zX19 80 14) (tkP zX19 80 15) = _; rw [to19_14, tk19_15]; exact ⟨by decide, t19_14.2.2.1, t19_14.2.2.2⟩
theorem to19_15 : tkO zX19 80 15 = 33 := by show lxO zX19 80 (tkP zX19 80 15) = _; rw [tk19_15]; exact t19_15.1
theorem tk19_16 : tkP zX19 80 16 = 36 := by show lxE zX19 80 (lxO zX19 80 (tkP zX19 80 15)) = _; rw [tk19_15, t19_15.1]; exact t19_15.2.1
theorem ta19_15 : tkO zX19 80 15 < 80 ∧ tkK zX19 80 15 = 2 ∧ tkV zX19 80 15 = 0 := by show tkO zX19 80 15 < 80 ∧ lxK zX19 (tkO zX19 80 15) (tkP zX19 80 16) = _ ∧ lxV zX19 (tkO zX19 80 15) (tkP zX19 80 16) = _; rw [to19_15, tk19_16]; exact ⟨by decide, t19_15.2.2.1, t19_15.2.2.2⟩
theorem to19_16 : tkO zX19 80 16 = 37 := by show lxO zX19 80 (tkP zX19 80 16) = _; rw [tk19_16]; exact t19_16.1
theorem tk19_17 : tkP zX19 80 17 = 38 := by show lxE zX19 80 (lxO zX19 80 (tkP zX19 80 16)) = _; rw [tk19_16, t19_16.1]; exact t19_16.2.1
theorem ta19_16 : tkO zX19 80 16 < 80 ∧ tkK zX19 80 16 = 3 ∧ tkV zX19 80 16 = 1 := by show tkO zX19 80 16 < 80 ∧ lxK zX19 (tkO zX19 80 16) (tkP zX19 80 17) = _ ∧ lxV zX19 (tkO zX19 80 16) (tkP zX19 80 17) = _; rw [to19_16, tk19_17]; exact ⟨by decide, t19_16.2.2.1, t19_16.2.2.2⟩
theorem to19_17 : tkO zX19 80 17 = 39 := by show lxO zX19 80 (tkP zX19 80 17) = _; rw [tk19_17]; exact t19_17.1
theorem tk19_18 : tkP zX19 80 18 = 40 := by show lxE zX19 80 (lxO zX19 80 (tkP zX19 80 17)) = _; rw [tk19_17, t19_17.1]; exact t19_17.2.1
theorem ta19_17 : tkO zX19 80 17 < 80 ∧ tkK zX19 80 17 = 3 ∧ tkV zX19 80 17 = 6 := by show tkO zX19 80 17 < 80 ∧ lxK zX19 (tkO zX19 80 17) (tkP zX19 80 18) = _ ∧ lxV zX19 (tkO zX19 80 17) (tkP zX19 80 18) = _; rw [to19_17, tk19_18]; exact ⟨by decide, t19_17.2.2.1, t19_17.2.2.2⟩
theorem to19_18 : tkO zX19 80 18 = 41 := by show lxO zX19 80 (tkP zX19 80 18) = _; rw [tk19_18]; exact t19_18.1
theorem tk19_19 : tkP zX19 80 19 = 42 := by show lxE zX19 80 (lxO zX19 80 (tkP zX19 80 18)) = _; rw [tk19_18, t19_18.1]; exact t19_18.2.1
theorem ta19_18 : tkO zX19 80 18 < 80 ∧ tkK zX19 80 18 = 3 ∧ tkV zX19 80 18 = 2 := by show tkO zX19 80 18 < 80 ∧ lxK zX19 (tkO zX19 80 18) (tkP zX19 80 19) = _ ∧ lxV zX19 (tkO zX19 80 18) (tkP zX19 80 19) = _; rw [to19_18, tk19_19]; exact ⟨by decide, t19_18.2.2.1, t19_18.2.2.2⟩
theorem to19_19 : tkO zX19 80 19 = 42 := by show lxO zX19 80 (tkP zX19 80 19) = _; rw [tk19_19]; exact t19_19.1
theorem tk19_20 : tkP zX19 80 20 = 43 := by show lxE zX19 80 (lxO zX19 80 (tkP zX19 80 19)) = _; rw [tk19_19, t19_19.1]; exact t19_19.2.1
theorem ta19_19 : tkO zX19 80 19 < 80 ∧ tkK zX19 80 19 = 1 ∧ tkV zX19 80 19 = 0 := by show tkO zX19 80 19 < 80 ∧ lxK zX19 (tkO zX19 80 19) (tkP zX19 80 20) = _ ∧ lxV zX19 (tkO zX19 80 19) (tkP zX19 80 20) = _; rw [to19_19, tk19_20]; exact ⟨by decide, t19_19.2.2.1, t19_19.2.2.2⟩
theorem to19_20 : tkO zX19 80 20 = 44 := by show lxO zX19 80 (tkP zX19 80 20) = _; rw [tk19_20]; exact t19_20.1
theorem tk19_21 : tkP zX19 80 21 = 50 := by show lxE zX19 80 (lxO zX19 80 (tkP zX19 80 20)) = _; rw [tk19_20, t19_20.1]; exact t19_20.2.1
theorem ta19_20 : tkO zX19 80 20 < 80 ∧ tkK zX19 80 20 = 2 ∧ tkV zX19 80 20 = 0 := by show tkO zX19 80 20 < 80 ∧ lxK zX19 (tkO zX19 80 20) (tkP zX19 80 21) = _ ∧ lxV zX19 (tkO zX19 80 20) (tkP zX19 80 21) = _; rw [to19_20, tk19_21]; exact ⟨by decide, t19_20.2.2.1, t19_20.2.2.2⟩
theorem to19_21 : tkO zX19 80 21 = 51 := by show lxO zX19 80 (tkP zX19 80 21) = _; rw [tk19_21]; exact t19_21.1
theorem tk19_22 : tkP zX19 80 22 = 52 := by show lxE zX19 80 (lxO zX19 80 (tkP zX19 80 21)) = _; rw [tk19_21, t19_21.1]; exact t19_21.2.1
theorem ta19_21 : tkO zX19 80 21 < 80 ∧ tkK zX19 80 21 = 3 ∧ tkV zX19 80 21 = 3 := by show tkO zX19 80 21 < 80 ∧ lxK zX19 (tkO zX19 80 21) (tkP zX19 80 22) = _ ∧ lxV zX19 (tkO zX19 80 21) (tkP zX19 80 22) = _; rw [to19_21, tk19_22]; exact ⟨by decide, t19_21.2.2.1, t19_21.2.2.2⟩
theorem to19_22 : tkO zX19 80 22 = 53 := by show lxO zX19 80 (tkP zX19 80 22) = _; rw [tk19_22]; exact t19_22.1
theorem tk19_23 : tkP zX19 80 23 = 54 := by show lxE zX19 80 (lxO zX19 80 (tkP zX19 80 22)) = _; rw [tk19_22, t19_22.1]; exact t19_22.2.1
theorem ta19_22 : tkO zX19 80 22 < 80 ∧ tkK zX19 80 22 = 3 ∧ tkV zX19 80 22 = 4 := by show tkO zX19 80 22 < 80 ∧ lxK zX19 (tkO zX19 80 22) (tkP zX19 80 23) = _ ∧ lxV zX19 (tkO zX19 80 22) (tkP zX19 80 23) = _; rw [to19_22, tk19_23]; exact ⟨by decide, t19_22.2.2.1, t19_22.2.2.2⟩
theorem to19_23 : tkO zX19 80 23 = 55 := by show lxO zX19 80 (tkP zX19 80 23) = _; rw [tk19_23]; exact t19_23.1
theorem tk19_24 : tkP zX19 80 24 = 56 := by show lxE zX19 80 (lxO zX19 80 (tkP zX19 80 23)) = _; rw [tk19_23, t19_23.1]; exact t19_23.2.1
theorem ta19_23 : tkO zX19 80 23 < 80 ∧ tkK zX19 80 23 = 3 ∧ tkV zX19 80 23 = 8 := by show tkO zX19 80 23 < 80 ∧ lxK zX19 (tkO zX19 80 23) (tkP zX19 80 24) = _ ∧ lxV zX19 (tkO zX19 80 23) (tkP zX19 80 24) = _; rw [to19_23, tk19_24]; exact ⟨by decide, t19_23.2.2.1, t19_23.2.2.2⟩
theorem to19_24 : tkO zX19 80 24 = 56 := by show lxO zX19 80 (tkP zX19 80 24) = _; rw [tk19_24]; exact t19_24.1
theorem tk19_25 : tkP zX19 80 25 = 57 := by show lxE zX19 80 (lxO zX19 80 (tkP zX19 80 24)) = _; rw [tk19_24, t19_24.1]; exact t19_24.2.1
theorem ta19_24 : tkO zX19 80 24 < 80 ∧ tkK zX19 80 24 = 1 ∧ tkV zX19 80 24 = 0 := by show tkO zX19 80 24 < 80 ∧ lxK zX19 (tkO zX19 80 24) (tkP zX19 80 25) = _ ∧ lxV zX19 (tkO zX19 80 24) (tkP zX19 80 25) = _; rw [to19_24, tk19_25]; exact ⟨by decide, t19_24.2.2.1, t19_24.2.2.2⟩
theorem to19_25 : tkO zX19 80 25 = 58 := by show lxO zX19 80 (tkP zX19 80 25) = _; rw [tk19_25]; exact t19_25.1
theorem tk19_26 : tkP zX19 80 26 = 64 := by show lxE zX19 80 (lxO zX19 80 (tkP zX19 80 25)) = _; rw [tk19_25, t19_25.1]; exact t19_25.2.1
theorem ta19_25 : tkO zX19 80 25 < 80 ∧ tkK zX19 80 25 = 2 ∧ tkV zX19 80 25 = 0 := by show tkO zX19 80 25 < 80 ∧ lxK zX19 (tkO zX19 80 25) (tkP zX19 80 26) = _ ∧ lxV zX19 (tkO zX19 80 25) (tkP zX19 80 26) = _; rw [to19_25, tk19_26]; exact ⟨by decide, t19_25.2.2.1, t19_25.2.2.2⟩
theorem to19_26 : tkO zX19 80 26 = 65 := by show lxO zX19 80 (tkP zX19 80 26) = _; rw [tk19_26]; exact t19_26.1
theorem tk19_27 : tkP zX19 80 27 = 66 := by show lxE zX19 80 (lxO zX19 80 (tkP zX19 80 26)) = _; rw [tk19_26, t19_26.1]; exact t19_26.2.1
theorem ta19_26 : tkO zX19 80 26 < 80 ∧ tkK zX19 80 26 = 3 ∧ tkV zX19 80 26 = 0 := by show tkO zX19 80 26 < 80 ∧ lxK zX19 (tkO zX19 80 26) (tkP zX19 80 27) = _ ∧ lxV zX19 (tkO zX19 80 26) (tkP zX19 80 27) = _; rw [to19_26, tk19_27]; exact ⟨by decide, t19_26.2.2.1, t19_26.2.2.2⟩
theorem to19_27 : tkO zX19 80 27 = 67 := by show lxO zX19 80 (tkP zX19 80 27) = _; rw [tk19_27]; exact t19_27.1
theorem tk19_28 : tkP zX19 80 28 = 68 := by show lxE zX19 80 (lxO zX19 80 (tkP zX19 80 27)) = _; rw [tk19_27, t19_27.1]; exact t19_27.2.1
theorem ta19_27 : tkO zX19 80 27 < 80 ∧ tkK zX19 80 27 = 3 ∧ tkV zX19 80 27 = 4 := by show tkO zX19 80 27 < 80 ∧ lxK zX19 (tkO zX19 80 27) (tkP zX19 80 28) = _ ∧ lxV zX19 (tkO zX19 80 27) (tkP zX19 80 28) = _; rw [to19_27, tk19_28]; exact ⟨by decide, t19_27.2.2.1, t19_27.2.2.2⟩
theorem to19_28 : tkO zX19 80 28 = 68 := by show lxO zX19 80 (tkP zX19 80 28) = _; rw [tk19_28]; exact t19_28.1
theorem tk19_29 : tkP zX19 80 29 = 69 := by show lxE zX19 80 (lxO zX19 80 (tkP zX19 80 28)) = _; rw [tk19_28, t19_28.1]; exact t19_28.2.1
theorem ta19_28 : tkO zX19 80 28 < 80 ∧ tkK zX19 80 28 = 1 ∧ tkV zX19 80 28 = 0 := by show tkO zX19 80 28 < 80 ∧ lxK zX19 (tkO zX19 80 28) (tkP zX19 80 29) = _ ∧ lxV zX19 (tkO zX19 80 28) (tkP zX19 80 29) = _; rw [to19_28, tk19_29]; exact ⟨by decide, t19_28.2.2.1, t19_28.2.2.2⟩
theorem to19_29 : tkO zX19 80 29 = 70 := by show lxO zX19 80 (tkP zX19 80 29) = _; rw [tk19_29]; exact t19_29.1
theorem tk19_30 : tkP zX19 80 30 = 73 := by show lxE zX19 80 (lxO zX19 80 (tkP zX19 80 29)) = _; rw [tk19_29, t19_29.1]; exact t19_29.2.1
theorem ta19_29 : tkO zX19 80 29 < 80 ∧ tkK zX19 80 29 = 2 ∧ tkV zX19 80 29 = 0 := by show tkO zX19 80 29 < 80 ∧ lxK zX19 (tkO zX19 80 29) (tkP zX19 80 30) = _ ∧ lxV zX19 (tkO zX19 80 29) (tkP zX19 80 30) = _; rw [to19_29, tk19_30]; exact ⟨by decide, t19_29.2.2.1, t19_29.2.2.2⟩
theorem to19_30 : tkO zX19 80 30 = 74 := by show lxO zX19 80 (tkP zX19 80 30) = _; rw [tk19_30]; exact t19_30.1
theorem tk19_31 : tkP zX19 80 31 = 75 := by show lxE zX19 80 (lxO zX19 80 (tkP zX19 80 30)) = _; rw [tk19_30, t19_30.1]; exact t19_30.2.1
theorem ta19_30 : tkO zX19 80 30 < 80 ∧ tkK zX19 80 30 = 3 ∧ tkV zX19 80 30 = 0 := by show tkO zX19 80 30 < 80 ∧ lxK zX19 (tkO zX19 80 30) (tkP zX19 80 31) = _ ∧ lxV zX19 (tkO zX19 80 30) (tkP zX19 80 31) = _; rw [to19_30, tk19_31]; exact ⟨by decide, t19_30.2.2.1, t19_30.2.2.2⟩
theorem to19_31 : tkO zX19 80 31 = 76 := by show lxO zX19 80 (tkP zX19 80 31) = _; rw [tk19_31]; exact t19_31.1
theorem tk19_32 : tkP zX19 80 32 = 77 := by show lxE zX19 80 (lxO zX19 80 (tkP zX19 80 31)) = _; rw [tk19_31, t19_31.1]; exact t19_31.2.1
theorem ta19_31 : tkO zX19 80 31 < 80 ∧ tkK zX19 80 31 = 3 ∧ tkV zX19 80 31 = 9 := by show tkO zX19 80 31 < 80 ∧ lxK zX19 (tkO zX19 80 31) (tkP zX19 80 32) = _ ∧ lxV zX19 (tkO zX19 80 31) (tkP zX19 80 32) = _; rw [to19_31, tk19_32]; exact ⟨by decide, t19_31.2.2.1, t19_31.2.2.2⟩
theorem to19_32 : tkO zX19 80 32 = 78 := by show lxO zX19 80 (tkP zX19 80 32) = _; rw [tk19_32]; exact t19_32.1
theorem tk19_33 : tkP zX19 80 33 = 79 := by show lxE zX19 80 (lxO zX19 80 (tkP zX19 80 32)) = _; rw [tk19_32, t19_32.1]; exact t19_32.2.1
theorem ta19_32 : tkO zX19 80 32 < 80 ∧ tkK zX19 80 32 = 3 ∧ tkV zX19 80 32 = 1 := by show tkO zX19 80 32 < 80 ∧ lxK zX19 (tkO zX19 80 32) (tkP zX19 80 33) = _ ∧ lxV zX19 (tkO zX19 80 32) (tkP zX19 80 33) = _; rw [to19_32, tk19_33]; exact ⟨by decide, t19_32.2.2.1, t19_32.2.2.2⟩
theorem to19_33 : tkO zX19 80 33 = 79 := by show lxO zX19 80 (tkP zX19 80 33) = _; rw [tk19_33]; exact t19_33.1
theorem tk19_34 : tkP zX19 80 34 = 80 := by show lxE zX19 80 (lxO zX19 80 (tkP zX19 80 33)) = _; rw [tk19_33, t19_33.1]; exact t19_33.2.1
theorem ta19_33 : tkO zX19 80 33 < 80 ∧ tkK zX19 80 33 = 1 ∧ tkV zX19 80 33 = 0 := by show tkO zX19 80 33 < 80 ∧ lxK zX19 (tkO zX19 80 33) (tkP zX19 80 34) = _ ∧ lxV zX19 (tkO zX19 80 33) (tkP zX19 80 34) = _; rw [to19_33, tk19_34]; exact ⟨by decide, t19_33.2.2.1, t19_33.2.2.2⟩
theorem to19_34 : tkO zX19 80 34 = 80 := by show lxO zX19 80 (tkP zX19 80 34) = _; rw [tk19_34]; exact t19_34
theorem tw19_0 : wdC zX19 (tkO zX19 80 0) (tkP zX19 80 1) = 7 := by rw [to19_0, tk19_1]; decide +kernel
theorem tw19_15 : wdC zX19 (tkO zX19 80 15) (tkP zX19 80 16) = 10 := by rw [to19_15, tk19_16]; decide +kernel
theorem tw19_20 : wdC zX19 (tkO zX19 80 20) (tkP zX19 80 21) = 9 := by rw [to19_20, tk19_21]; decide +kernel
theorem tw19_25 : wdC zX19 (tkO zX19 80 25) (tkP zX19 80 26) = 11 := by rw [to19_25, tk19_26]; decide +kernel
theorem tw19_29 : wdC zX19 (tkO zX19 80 29) (tkP zX19 80 30) = 10 := by rw [to19_29, tk19_30]; decide +kernel
