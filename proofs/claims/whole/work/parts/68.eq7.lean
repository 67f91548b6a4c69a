/-! Both sides are equal: what most hold in common -/
section ZL
variable {cf : Nat → Int32} {of df : Nat → Int64}
/-- offsets and distances of candidates, small enough -/
def ze_bd (cf : Nat → Int32) (of df : Nat → Int64) : Prop := ∀ i, i < 5 → ¬ cf i = 0 → -1152921504606846976 ≤ (of i).toInt ∧ (of i).toInt ≤ 1152921504606846976 ∧ 0 ≤ (df i).toInt ∧ (df i).toInt ≤ 6442450944
def ze_cb (cf : Nat → Int32) : Nat → Bool := fun i => !decide (cf i = 0)
def ze_F (of df : Nat → Int64) : Nat → Int := fun i => (of i).toInt - (df i).toInt
def ze_T (of df : Nat → Int64) : Nat → Int := fun i => (of i).toInt + (df i).toInt
theorem ze_sub {x y : Int64} (h : -9223372036854775808 ≤ x.toInt - y.toInt ∧ x.toInt - y.toInt < 9223372036854775808) : (x - y).toInt = x.toInt - y.toInt := by
  rw [Int64.toInt_sub]
  rw [Int.bmod_eq_of_le] <;> omega
theorem ze_add {x y : Int64} (h : -9223372036854775808 ≤ x.toInt + y.toInt ∧ x.toInt + y.toInt < 9223372036854775808) : (x + y).toInt = x.toInt + y.toInt := by
  rw [Int64.toInt_add]
  rw [Int.bmod_eq_of_le] <;> omega
theorem ze_abs {x : Int64} (h : -9223372036854775808 < x.toInt) : (zn_abs x).toInt = if x.toInt < 0 then -x.toInt else x.toInt := by
  have h0 : (0 : Int64).toInt = 0 := rfl
  have b := x.toInt_lt
  unfold zn_abs
  by_cases q : x < 0
  · rw [if_pos q, Int64.toInt_neg]
    rw [Int64.lt_iff_toInt_lt, h0] at q
    rw [if_pos q]
    rw [Int.bmod_eq_of_le] <;> omega
  · rw [if_neg q]
    rw [Int64.lt_iff_toInt_lt, h0] at q
    rw [if_neg q]
theorem ze_tho (hb : ze_bd cf of df) {x : Int64} (hx : -2305843009213693952 ≤ x.toInt ∧ x.toInt ≤ 2305843009213693952) : ∀ n, n ≤ 5 → zm_tho cf of df x n = zv_cnt (zv_in (ze_cb cf) (ze_F of df) (ze_T of df) x.toInt) n := by
  intro n
  induction n with
  | zero => intro _; rfl
  | succ n ih =>
    intro hn
    simp only [zm_tho, zv_cnt]
    rw [ih (by omega)]
    by_cases q : cf n = 0
    · have h1 : ¬ zv_in (ze_cb cf) (ze_F of df) (ze_T of df) x.toInt n = true := by
        rw [zv_in_iff]
        intro z
        have := z.1
        simp [ze_cb, q] at this
      rw [if_neg (fun z => z.1 q), if_neg h1]
      rfl
    · obtain ⟨b1, b2, b3, b4⟩ := hb n (by omega) q
      have e1 : (x - of n).toInt = x.toInt - (of n).toInt := ze_sub (by omega)
      have e2 := ze_abs (x := x - of n) (by omega)
      rw [e1] at e2
      have hiff : (¬ df n < zn_abs (x - of n)) ↔ zv_in (ze_cb cf) (ze_F of df) (ze_T of df) x.toInt n = true := by
        rw [zv_in_iff, Int64.lt_iff_toInt_lt, e2]
        simp only [ze_cb, ze_F, ze_T, q, decide_false, Bool.not_false, true_and]
        split <;> omega
      by_cases w : df n < zn_abs (x - of n)
      · rw [if_neg (fun z => z.2 w), if_neg (fun z => hiff.mpr z w)]
        rfl
      · rw [if_pos ⟨q, w⟩, if_pos (hiff.mp w)]
theorem ze_cn : ∀ n, zm_all cf n = zv_cnt (ze_cb cf) n := by
  intro n
  induction n with
  | zero => rfl
  | succ n ih =>
    simp only [zm_all, zv_cnt]
    rw [ih]
    by_cases q : cf n = 0
    · simp [ze_cb, q]
    · simp [ze_cb, q]
theorem ze_cnt5 (P : Nat → Bool) : ∀ n, zv_cnt P n ≤ n := by
  intro n
  induction n with
  | zero => exact Nat.le_refl _
  | succ n ih =>
    simp only [zv_cnt]
    split <;> omega
theorem ze_2n : ∀ a, a < 6 → ∀ b, b < 6 → (nI a < 2 * nI b ↔ a < 2 * b) := by decide +kernel
theorem ze_com (hb : ze_bd cf of df) {x : Int64} (hx : -2305843009213693952 ≤ x.toInt ∧ x.toInt ≤ 2305843009213693952) : (¬ zm_com cf of df x = 0) ↔ zv_most (ze_cb cf) (ze_F of df) (ze_T of df) x.toInt := by
  unfold zm_com
  rw [ze_if, ze_tho hb hx 5 (Nat.le_refl _), ze_cn]
  have h1 := ze_cnt5 (ze_cb cf) 5
  have h2 := ze_cnt5 (zv_in (ze_cb cf) (ze_F of df) (ze_T of df) x.toInt) 5
  exact ze_2n _ (by omega) _ (by omega)
theorem ze_Fi (hb : ze_bd cf of df) {i : Nat} (hi : i < 5) (hc : ¬ cf i = 0) : (of i - df i).toInt = ze_F of df i ∧ (of i + df i).toInt = ze_T of df i ∧ (-2305843009213693952 ≤ ze_F of df i ∧ ze_F of df i ≤ 2305843009213693952) ∧ (-2305843009213693952 ≤ ze_T of df i ∧ ze_T of df i ≤ 2305843009213693952) := by
  obtain ⟨b1, b2, b3, b4⟩ := hb i hi hc
  unfold ze_F ze_T
  exact ⟨ze_sub (by omega), ze_add (by omega), ⟨by omega, by omega⟩, ⟨by omega, by omega⟩⟩
end ZL
