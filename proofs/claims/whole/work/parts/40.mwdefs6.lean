/-! The model: a sample taken -/
def zm_dly (x : Int64) : Int64 := if x < 4096 then 4096 else x
def zm_odd (r : Int32) : Int32 := if r - r / 2 * 2 = 0 then r + 1 else r
def zm_sft (f : Nat → Int64) (b i : Nat) : Nat → Int64 := fun j => if b + i < j ∧ j ≤ b + 7 then f (j - 1) else f j
theorem zm_sft_7 (f : Nat → Int64) (b : Nat) : zm_sft f b 7 = f := by
  funext j
  unfold zm_sft
  rw [if_neg]
  omega
theorem zm_sft_s (f : Nat → Int64) (b : Nat) {i : Nat} (h : i + 1 ≤ 7) : zm_sft f b i = vp_updL (zm_sft f b (i + 1)) (b + (i + 1)) ((zm_sft f b (i + 1)) (b + i)) := by
  funext j
  unfold vp_updL zm_sft
  by_cases hj : j = b + (i + 1)
  · subst hj
    rw [if_pos rfl, if_pos (by omega), if_neg (by omega)]
    rfl
  · rw [if_neg hj]
    by_cases h2 : b + i < j ∧ j ≤ b + 7
    · rw [if_pos h2, if_pos (by omega)]
    · rw [if_neg h2, if_neg (by omega)]
def zm_push (f : Nat → Int64) (k : Nat) (x : Int64) : Nat → Int64 := vp_updL (zm_sft f (8 * k) 0) (8 * k) x
