/-! Both sides are equal: sets of servers as bits -/
def ze_mk (cf : Nat → Int32) : Nat → Nat
  | 0 => 0
  | i + 1 => if cf i = 0 then ze_mk cf i else ze_mk cf i + 2 ^ i
theorem ze_mk_lt (cf : Nat → Int32) : ∀ i, ze_mk cf i < 2 ^ i := by
  intro i
  induction i with
  | zero => exact Nat.lt_of_lt_of_le (Nat.lt_succ_self 0) (Nat.le_refl 1)
  | succ i ih =>
    simp only [ze_mk]
    rw [Nat.pow_succ]
    split <;> omega
theorem ze_or : ∀ i, i < 5 → ∀ a, a < 2 ^ i → (nI a ||| (1 <<< ((nI i) &&& 31)) = nI (a + 2 ^ i) ∧ nI a + (1 <<< ((nI i) &&& 31)) = nI (a + 2 ^ i)) := by decide +kernel
theorem ze_cs (cf : Nat → Int32) : ∀ i, i ≤ 5 → zm_cs cf i = nI (ze_mk cf i) := by
  intro i
  induction i with
  | zero => intro _; rfl
  | succ i ih =>
    intro hi
    simp only [zm_cs, ze_mk]
    rw [ih (by omega)]
    by_cases h : cf i = 0
    · rw [if_pos h, if_pos h]
    · rw [if_neg h, if_neg h]
      exact (ze_or i (by omega) _ (ze_mk_lt cf i)).2
def ze_m5 (b0 b1 b2 b3 b4 : Bool) : Nat := (if b0 then 0 else 1) + (if b1 then 0 else 2) + (if b2 then 0 else 4) + (if b3 then 0 else 8) + (if b4 then 0 else 16)
def ze_c5 (b0 b1 b2 b3 b4 : Bool) : Nat := (if b0 then 0 else 1) + (if b1 then 0 else 1) + (if b2 then 0 else 1) + (if b3 then 0 else 1) + (if b4 then 0 else 1)
def ze_g5 (b0 b1 b2 b3 b4 : Bool) (i : Nat) : Bool := match i with
  | 0 => b0
  | 1 => b1
  | 2 => b2
  | 3 => b3
  | _ => b4
theorem ze_mk5 (cf : Nat → Int32) : ze_mk cf 5 = ze_m5 (decide (cf 0 = 0)) (decide (cf 1 = 0)) (decide (cf 2 = 0)) (decide (cf 3 = 0)) (decide (cf 4 = 0)) ∧ zm_cn cf 5 = ze_c5 (decide (cf 0 = 0)) (decide (cf 1 = 0)) (decide (cf 2 = 0)) (decide (cf 3 = 0)) (decide (cf 4 = 0)) := by
  by_cases h0 : cf 0 = 0 <;> by_cases h1 : cf 1 = 0 <;> by_cases h2 : cf 2 = 0 <;> by_cases h3 : cf 3 = 0 <;> by_cases h4 : cf 4 = 0 <;> simp [ze_mk, zm_cn, ze_m5, ze_c5, h0, h1, h2, h3, h4]
theorem ze_bits5 : ∀ b0 b1 b2 b3 b4 : Bool, zn_bc (nI (ze_m5 b0 b1 b2 b3 b4)) = nI (ze_c5 b0 b1 b2 b3 b4) ∧ ∀ i, i < 5 → (zv_has (nI (ze_m5 b0 b1 b2 b3 b4)) (nI i) = 0 ↔ ze_g5 b0 b1 b2 b3 b4 i = true) := by decide +kernel
theorem ze_has (cf : Nat → Int32) {i : Nat} (hi : i < 5) : zv_has (nI (ze_mk cf 5)) (nI i) = 0 ↔ cf i = 0 := by
  rw [(ze_mk5 cf).1, (ze_bits5 _ _ _ _ _).2 i hi]
  rcases (show i = 0 ∨ i = 1 ∨ i = 2 ∨ i = 3 ∨ i = 4 by omega) with e | e | e | e | e <;> subst e <;> exact decide_eq_true_iff
theorem ze_bc (cf : Nat → Int32) : zn_bc (nI (ze_mk cf 5)) = nI (zm_cn cf 5) := by
  rw [(ze_mk5 cf).1, (ze_mk5 cf).2]
  exact (ze_bits5 _ _ _ _ _).1
theorem ze_all (cf : Nat → Int32) : ∀ i, zm_all cf i = zm_cn cf i := by
  intro i
  induction i with
  | zero => rfl
  | succ i ih =>
    simp only [zm_all, zm_cn]
    rw [ih]
section ZF
variable {offm delm cam : Nat → Int64} {off del arr : Nat → Nat → Int64} {loc : Int64} {nn : Nat → Nat} {rdl rds : Nat → Int64} {den rch : Nat → Int32}
theorem ze_c (h : ∀ k, k < 5 → ze_R offm delm cam off del arr loc nn k) {k : Nat} (hk : k < 5) : (¬ zm_c den rch rdl rds offm delm cam loc nn k = 0) ↔ (zv_ok den rch nn k ∧ zv_ro rdl rds off del arr loc nn k < 6442450944) := by
  unfold zm_c
  rw [ze_if]
  unfold zv_ok zv_ro
  by_cases h0 : 0 < nn k
  · rw [ze_d (h k hk) h0]
    constructor
    · intro q
      exact ⟨⟨q.1.1, q.1.2, by omega⟩, q.2.2⟩
    · intro q
      exact ⟨⟨q.1.1, q.1.2.1⟩, h0, q.2⟩
  · constructor
    · intro q
      exact absurd q.2.1 h0
    · intro q
      exact absurd q.1.2.2 (by omega)
theorem ze_cd (h : ∀ k, k < 5 → ze_R offm delm cam off del arr loc nn k) : ∀ i, i ≤ 5 → zv_cd den rch nn rdl rds off del arr loc i = nI (ze_mk (zm_c den rch rdl rds offm delm cam loc nn) i) := by
  intro i
  induction i with
  | zero => intro _; rfl
  | succ i ih =>
    intro hi
    have hc := ze_c (den := den) (rch := rch) (rdl := rdl) (rds := rds) h (show i < 5 by omega)
    simp only [zv_cd, ze_mk]
    rw [ih (by omega)]
    by_cases q : zm_c den rch rdl rds offm delm cam loc nn i = 0
    · rw [if_pos q, if_neg (fun z => hc.mpr z q)]
    · rw [if_neg q, if_pos (hc.mp q)]
      exact (ze_or i (by omega) _ (ze_mk_lt _ i)).1
theorem ze_cand (h : ∀ k, k < 5 → ze_R offm delm cam off del arr loc nn k) : zv_cd den rch nn rdl rds off del arr loc 5 = zm_cs (zm_c den rch rdl rds offm delm cam loc nn) 5 := by
  rw [ze_cd h 5 (Nat.le_refl _), ze_cs _ 5 (Nat.le_refl _)]
/-- the vote's offsets and distances of a candidate -/
theorem ze_vo (vo : Nat → Int64) : ∀ n i, i < n → zv_ok den rch nn i → zv_vo den rch nn off del arr loc vo n i = zv_of off del arr loc nn i := by
  intro n
  induction n with
  | zero => intro i hi; omega
  | succ n ih =>
    intro i hi hok
    simp only [zv_vo]
    by_cases e : i = n
    · subst e
      rw [if_pos hok]
      simp only [ze_updL, va_up, if_true]
    · by_cases q : zv_ok den rch nn n
      · rw [if_pos q]
        simp only [ze_updL, va_up]
        rw [if_neg e]
        exact ih i (by omega) hok
      · rw [if_neg q]
        exact ih i (by omega) hok
theorem ze_vd (vd : Nat → Int64) : ∀ n i, i < n → zv_ok den rch nn i → zv_vd den rch nn rdl rds off del arr loc vd n i = zv_ro rdl rds off del arr loc nn i := by
  intro n
  induction n with
  | zero => intro i hi; omega
  | succ n ih =>
    intro i hi hok
    simp only [zv_vd]
    by_cases e : i = n
    · subst e
      rw [if_pos hok]
      simp only [ze_updL, va_up, if_true]
    · by_cases q : zv_ok den rch nn n
      · rw [if_pos q]
        simp only [ze_updL, va_up]
        rw [if_neg e]
        exact ih i (by omega) hok
      · rw [if_neg q]
        exact ih i (by omega) hok
end ZF
