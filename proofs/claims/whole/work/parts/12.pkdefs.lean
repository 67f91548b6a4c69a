/-! What the packet's readings are -/
def zp_rd (row : Nat → Int32) (u : Nat) : Nat → Int64
  | 0 => 0
  | k + 1 => ((zp_rd row u k) <<< (Int32.toInt64 8 &&& 63)) ||| (Int32.toInt64 ((row (u + k)) &&& 255))
def zp_ans (row : Nat → Int32) : Int32 := if ((((row 0) &&& 255) >>> (3 &&& 31)) &&& 7 = 4 ∧ ((row 0) &&& 255) &&& 7 = 4) ∧ ¬ (zp_rd row 40 8 = 0) then 1 else 0
def zp_syn (row : Nat → Int32) : Int32 := if ¬ (((row 0) &&& 255) >>> (6 &&& 31) = 3) ∧ ¬ (15 < (row 1) &&& 255) then 1 else 0
abbrev zp_W (q r : Nat) (cB : ClassId) (row : Nat → Int32) : va_W := [(q, .inr (0, [.ref r])), (r, .inl (cB, 48, .inl row))]
