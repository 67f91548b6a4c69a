/-! What the vote's readings are -/
def zv_has (x y : Int32) : Int32 := if (x >>> (y &&& 31)) &&& 1 = 0 then 0 else 1
def zv_maj (low high : Int64) : Int32 := if high < low then 0 else 1
def zv_agr (low high : Int64) (surv : Int32) : Int32 := if ¬ (zv_maj low high = 0) ∧ ¬ (surv = 0) then 1 else 0
def zv_spr (surv : Int32) (vo : Nat → Int64) (k : Nat) : Nat → Int64
  | 0 => 0
  | i + 1 => if zv_has surv (nI i) = 0 then zv_spr surv vo k i else zv_spr surv vo k i + zn_abs (vo k - vo i)
def zv_hld (cand : Int32) (vo vd : Nat → Int64) (tm : Int64) : Nat → Nat
  | 0 => 0
  | i + 1 => if ¬ (zv_has cand (nI i) = 0) ∧ ¬ (vd i < zn_abs (tm - vo i)) then zv_hld cand vo vd tm i + 1 else zv_hld cand vo vd tm i
def zv_inm (cand : Int32) (vo vd : Nat → Int64) (tm : Int64) : Int32 := if zn_bc cand < 2 * nI (zv_hld cand vo vd tm 5) then 1 else 0
def zv_sum (surv : Int32) (vo : Nat → Int64) : Nat → Int64
  | 0 => 0
  | i + 1 => if zv_has surv (nI i) = 0 then zv_sum surv vo i else zv_sum surv vo i + vo i
def zv_cmb (surv : Int32) (vo : Nat → Int64) : Int64 := zn_fd (zv_sum surv vo 5) (Int32.toInt64 (zn_maxi 1 (zn_bc surv)))
theorem zv_nz (x : Int32) : ¬ (Int32.toInt64 (zn_maxi 1 x) = 0) := by
  intro h
  have h1 : (zn_maxi 1 x).toInt64.toInt = 0 := by rw [h]; rfl
  rw [Int32.toInt_toInt64] at h1
  have h2 : (1 : Int32).toInt = 1 := rfl
  unfold zn_maxi at h1
  by_cases hlt : 1 < x
  · rw [if_pos hlt] at h1
    rw [Int32.lt_iff_toInt_lt] at hlt
    omega
  · rw [if_neg hlt] at h1
    omega
def zv_ff (surv : Int32) (vo : Nat → Int64) : Nat → Nat × Int64
  | 0 => (0, -1)
  | i + 1 => if ¬ (zv_has surv (nI i) = 0) ∧ ¬ (zv_spr surv vo i 5 < (zv_ff surv vo i).2) then (i, zv_spr surv vo i 5) else zv_ff surv vo i
abbrev zv_W (v a b : Nat) (cJ : ClassId) (cand : Int32) (low high : Int64) (surv : Int32) (vo vd : Nat → Int64) : va_W :=
  [(v, .inr (2, [.int cand, .long low, .long high, .int surv, .ref a, .ref b])), (a, .inl (cJ, 5, .inr (.inl vo))), (b, .inl (cJ, 5, .inr (.inl vd)))]
