/-! The model: numbers of survivors -/
theorem zm_m3_le (n : Nat) : zm_m3 n ≤ 3 := by
  unfold zm_m3
  by_cases h : 3 < n
  · rw [if_pos h]
    exact Nat.le_refl _
  · rw [if_neg h]
    omega
theorem zm_nz {n : Nat} (h0 : 0 < n) (h3 : n ≤ 3) : ¬ Int32.toInt64 (nI n) = 0 := by
  rcases (show n = 1 ∨ n = 2 ∨ n = 3 by omega) with h | h | h <;> subst h <;> decide
