/-! The model: survivors -/
def zm_iv (sm : Int32) (cf : Nat → Int32) (of : Nat → Int64) (lo hi : Int64) (i : Nat) : Int32 := if ¬ (sm = 0) ∧ ¬ (cf i = 0) ∧ ¬ (of i < lo) ∧ ¬ (hi < of i) then 1 else 0
def zm_i0 (sm : Int32) (cf : Nat → Int32) (of : Nat → Int64) (lo hi : Int64) (ins : Nat → Int32) : Nat → (Nat → Int32)
  | 0 => ins
  | i + 1 => upd (zm_i0 sm cf of lo hi ins i) i (zm_iv sm cf of lo hi i)
def zm_ni (sm : Int32) (cf : Nat → Int32) (of : Nat → Int64) (lo hi : Int64) : Nat → Nat
  | 0 => 0
  | i + 1 => if zm_iv sm cf of lo hi i = 0 then zm_ni sm cf of lo hi i else zm_ni sm cf of lo hi i + 1
def zm_cn (f : Nat → Int32) : Nat → Nat
  | 0 => 0
  | i + 1 => if f i = 0 then zm_cn f i else zm_cn f i + 1
theorem zm_cn_le (f : Nat → Int32) : ∀ n, zm_cn f n ≤ n := by
  intro n
  induction n with
  | zero => exact Nat.le_refl _
  | succ n ih =>
    simp only [zm_cn]
    split <;> omega
theorem zm_cn_congr {f g : Nat → Int32} : ∀ n, (∀ i, i < n → f i = g i) → zm_cn f n = zm_cn g n := by
  intro n
  induction n with
  | zero => intro _; rfl
  | succ n ih =>
    intro h
    simp only [zm_cn]
    rw [h n (by omega), ih (fun i hi => h i (by omega))]
theorem zm_i0_at (sm : Int32) (cf : Nat → Int32) (of : Nat → Int64) (lo hi : Int64) (ins : Nat → Int32) : ∀ n i, i < n → zm_i0 sm cf of lo hi ins n i = zm_iv sm cf of lo hi i := by
  intro n
  induction n with
  | zero => intro i h; omega
  | succ n ih =>
    intro i h
    simp only [zm_i0]
    unfold upd
    by_cases e : i = n
    · rw [if_pos e, e]
    · rw [if_neg e]
      exact ih i (by omega)
theorem zm_ni_iv (sm : Int32) (cf : Nat → Int32) (of : Nat → Int64) (lo hi : Int64) : ∀ n, zm_ni sm cf of lo hi n = zm_cn (zm_iv sm cf of lo hi) n := by
  intro n
  induction n with
  | zero => rfl
  | succ n ih =>
    simp only [zm_ni, zm_cn]
    rw [ih]
theorem zm_ni_cn {sm : Int32} {cf : Nat → Int32} {of : Nat → Int64} {lo hi : Int64} {ins : Nat → Int32} : zm_cn (zm_i0 sm cf of lo hi ins 5) 5 = zm_ni sm cf of lo hi 5 := by
  rw [zm_ni_iv]
  exact zm_cn_congr 5 (fun i h => zm_i0_at sm cf of lo hi ins 5 i h)
theorem zm_ni_le {sm : Int32} {cf : Nat → Int32} {of : Nat → Int64} {lo hi : Int64} : zm_ni sm cf of lo hi 5 ≤ 5 := by
  rw [zm_ni_iv]
  exact zm_cn_le _ 5
/-- who lies farthest: none yet, and -1; or who, and his spread -/
def zm_ff (f : Nat → Int32) (of : Nat → Int64) : Nat → Option Nat × Int64
  | 0 => (none, -1)
  | i + 1 => if f i = 0 then ((zm_ff f of i).1, if (zm_ff f of i).2 < -1 then -1 else (zm_ff f of i).2) else (if zm_spr f of i 5 < (zm_ff f of i).2 then (zm_ff f of i).1 else some i, if (zm_ff f of i).2 < zm_spr f of i 5 then zm_spr f of i 5 else (zm_ff f of i).2)
theorem zm_ff_in {f : Nat → Int32} {of : Nat → Int64} : ∀ {n b : Nat}, (zm_ff f of n).1 = some b → b < n ∧ ¬ f b = 0 := by
  intro n
  induction n with
  | zero => intro b h; cases h
  | succ n ih =>
    intro b h
    simp only [zm_ff] at h
    by_cases hf : f n = 0
    · rw [if_pos hf] at h
      have := ih h
      exact ⟨by omega, this.2⟩
    · rw [if_neg hf] at h
      by_cases hs : zm_spr f of n 5 < (zm_ff f of n).2
      · simp only [hs, if_true] at h
        have := ih h
        exact ⟨by omega, this.2⟩
      · simp only [hs, if_false] at h
        cases h
        exact ⟨by omega, hf⟩
theorem zm_ff_lt {f : Nat → Int32} {of : Nat → Int64} {b : Nat} (h : (zm_ff f of 5).1 = some b) : b < 5 := (zm_ff_in h).1
def zm_s1 (of : Nat → Int64) (f : Nat → Int32) : Nat → Int32 := match (zm_ff f of 5).1 with
  | none => f
  | some b => upd f b 0
theorem zm_s1_eq {of : Nat → Int64} {f : Nat → Int32} {b : Nat} (h : (zm_ff f of 5).1 = some b) : zm_s1 of f = upd f b 0 := by
  unfold zm_s1
  rw [h]
theorem zm_s1_sub {of : Nat → Int64} {f : Nat → Int32} {i : Nat} (h : ¬ zm_s1 of f i = 0) : ¬ f i = 0 := by
  intro q
  apply h
  unfold zm_s1
  cases hc : (zm_ff f of 5).1 with
  | none => exact q
  | some b =>
    show upd f b 0 i = 0
    unfold upd
    by_cases e : i = b
    · rw [if_pos e]
    · rw [if_neg e]
      exact q
theorem zm_cn_upd {f : Nat → Int32} {b : Nat} (hb : ¬ f b = 0) : ∀ n, b < n → zm_cn (upd f b 0) n + 1 = zm_cn f n := by
  intro n
  induction n with
  | zero => intro h; omega
  | succ n ih =>
    intro h
    simp only [zm_cn]
    by_cases e : b = n
    · subst e
      rw [show upd f b 0 b = 0 from pk_us, if_pos rfl, if_neg hb, zm_cn_congr b (g := f) (fun i hi => pk_un (by omega))]
    · rw [show upd f b 0 n = f n from pk_un (fun q => e q.symm)]
      have := ih (by omega)
      split <;> omega
theorem zm_s1_cn {of : Nat → Int64} {f : Nat → Int32} {b : Nat} (h : (zm_ff f of 5).1 = some b) (h1 : 1 ≤ zm_cn f 5) : zm_cn (zm_s1 of f) 5 = zm_cn f 5 - 1 := by
  rw [zm_s1_eq h]
  have := zm_cn_upd (zm_ff_in h).2 5 (zm_ff_lt h)
  omega
def zm_rmv (of : Nat → Int64) : Nat → (Nat → Int32) → (Nat → Int32)
  | 0, f => f
  | t + 1, f => zm_rmv of t (zm_s1 of f)
def zm_m3 (n : Nat) : Nat := if 3 < n then 3 else n
theorem zm_m3_of {n m : Nat} (h : ¬ 3 < n) (hn : zm_m3 n = zm_m3 m) : zm_m3 m = n := by
  rw [← hn]
  exact if_neg h
theorem zm_m3_pred {n : Nat} (h : 3 < n) : zm_m3 (n - 1) = zm_m3 n := by
  unfold zm_m3
  rw [if_pos h]
  by_cases h2 : 3 < n - 1
  · rw [if_pos h2]
  · rw [if_neg h2]
    omega
