/-! The farthest exists where no spread is below -1 -/
theorem ze_ff_no {f : Nat → Int32} {of : Nat → Int64} (hs : ∀ i, i < 5 → ¬ f i = 0 → ¬ zm_spr f of i 5 < -1) : ∀ n, n ≤ 5 → (zm_ff f of n).1 = none → (zm_ff f of n).2 = -1 ∧ ∀ i, i < n → f i = 0 := by
  intro n
  induction n with
  | zero => intro _ _; exact ⟨rfl, fun i hi => by omega⟩
  | succ n ih =>
    intro hn h
    simp only [zm_ff] at h ⊢
    by_cases q : f n = 0
    · rw [if_pos q] at h ⊢
      obtain ⟨h1, h2⟩ := ih (by omega) h
      refine ⟨?_, fun i hi => ?_⟩
      · show (if (zm_ff f of n).2 < -1 then -1 else (zm_ff f of n).2) = -1
        rw [h1]
        split <;> rfl
      · by_cases e : i = n
        · rw [e]; exact q
        · exact h2 i (by omega)
    · rw [if_neg q] at h
      have h9 : (if zm_spr f of n 5 < (zm_ff f of n).2 then (zm_ff f of n).1 else some n) = none := h
      by_cases w : zm_spr f of n 5 < (zm_ff f of n).2
      · rw [if_pos w] at h9
        obtain ⟨h1, h2⟩ := ih (by omega) h9
        rw [h1] at w
        exact absurd w (hs n (by omega) q)
      · rw [if_neg w] at h9
        cases h9
theorem ze_cn0 {f : Nat → Int32} : ∀ n, (∀ i, i < n → f i = 0) → zm_cn f n = 0 := by
  intro n
  induction n with
  | zero => intro _; rfl
  | succ n ih =>
    intro h
    simp only [zm_cn]
    rw [if_pos (h n (by omega))]
    exact ih (fun i hi => h i (by omega))
theorem ze_ff_ex {f : Nat → Int32} {of : Nat → Int64} (hs : ∀ i, i < 5 → ¬ f i = 0 → ¬ zm_spr f of i 5 < -1) (h : 0 < zm_cn f 5) : ∃ b, (zm_ff f of 5).1 = some b := by
  cases hc : (zm_ff f of 5).1 with
  | some b => exact ⟨b, rfl⟩
  | none =>
    have h1 := ze_cn0 5 (ze_ff_no hs 5 (Nat.le_refl _) hc).2
    omega
