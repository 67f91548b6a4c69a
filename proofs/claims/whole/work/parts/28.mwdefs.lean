/-! What the model's writing methods leave -/
theorem zm_isv_k {k : Nat} (hk : k < 5) : zm_isv (nI k) = 1 := by
  rcases (show k = 0 ∨ k = 1 ∨ k = 2 ∨ k = 3 ∨ k = 4 by omega) with h | h | h | h | h <;> subst h <;> decide
def zm_by (x : Int64) (n i : Nat) : Int32 := Int64.toInt32 (((Int64.toUInt64 x >>> ((Int32.toInt64 (8 * (((nI n) - 1) - (nI i)))).toUInt64 &&& Int64.toUInt64 63)).toInt64) &&& 255)
def zm_wr (pk : Nat → Int32) (u : Nat) (x : Int64) (n : Nat) : Nat → (Nat → Int32)
  | 0 => pk
  | i + 1 => upd (zm_wr pk u x n i) (u + i) (zm_by x n i)
def zm_ech (pk : Nat → Int32) (a b c : Int64) : Nat → Int32 := zm_wr (zm_wr (zm_wr (upd pk 0 36) 24 a 8 8) 32 b 8 8) 40 c 8 8
def zm_prt (most slw : Int64) : Int64 := if most < slw then most else if slw < -most then -most else slw
def zm_rt (x : Int64) : Int32 := if x < 0 ∨ 1099511627776 < x then 1 else 0
def zm_rl (x loc slw : Int64) : Int64 := if x < 0 ∨ 1099511627776 < x then loc else (loc + x) + zm_prt (x / 2048) slw
def zm_rs (x slw : Int64) : Int64 := if x < 0 ∨ 1099511627776 < x then slw else slw - zm_prt (x / 2048) slw
def zm_pt (x z : Int32) : Int32 := if z < 1 ∨ 8 < z then 1 else if x < 0 ∨ 48 - z < x then 2 else 0
def zm_rea (den rch : Nat → Int32) (k : Nat) : Int32 := if den k = 0 then rch k else (rch k) + 256
