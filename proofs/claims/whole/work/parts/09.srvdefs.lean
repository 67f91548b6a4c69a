/-! What a server's readings are -/
def zs_dist (del arr : Nat → Int64) (now : Int64) (i : Nat) : Int64 := del i / 2 + 65536 + zn_fd (now - arr i) 65536
def zs_best (d : Nat → Int64) : Nat → Nat
  | 0 => 0
  | n + 1 => if d n < d (zs_best d n) then n else zs_best d n
theorem zs_best_1 (d : Nat → Int64) : zs_best d 1 = 0 := by
  simp [zs_best]
theorem zs_best_le (d : Nat → Int64) : ∀ n, zs_best d n ≤ n - 1 := by
  intro n
  induction n with
  | zero => exact Nat.le_refl _
  | succ n ih =>
    simp only [zs_best]
    split <;> omega
theorem zs_best_lt (d : Nat → Int64) {n : Nat} (h : n ≤ 8) : zs_best d n < 8 := by
  have := zs_best_le d n
  omega
def zs_far (off : Nat → Int64) (mid : Int64) : Nat → Int64
  | 0 => 0
  | n + 1 => zn_max (zs_far off mid n) (zn_abs (off n - mid))
def zs_at (del arr : Nat → Int64) (now : Int64) (n : Nat) : Nat := zs_best (zs_dist del arr now) n
def zs_jit (off del arr : Nat → Int64) (now : Int64) (n : Nat) : Int64 := zs_far off (off (zs_at del arr now n)) n
def zs_root (rdl rds : Int64) (off del arr : Nat → Int64) (now : Int64) (n : Nat) : Int64 := rdl / 2 + zs_dist del arr now (zs_at del arr now n) + rds + zs_jit off del arr now n
/-- a server's cells: itself, its offsets, delays, arrivals -/
abbrev zs_W (o a b d : Nat) (cJ : ClassId) (den rch pol exg : Int32) (xp : Int64) (cnt str : Int32) (rdl rds : Int64) (off del arr : Nat → Int64) : va_W :=
  [(o, .inr (1, [.int den, .int rch, .int pol, .int exg, .long xp, .int cnt, .int str, .long rdl, .long rds, .ref a, .ref b, .ref d])), (a, .inl (cJ, 8, .inr (.inl off))), (b, .inl (cJ, 8, .inr (.inl del))), (d, .inl (cJ, 8, .inr (.inl arr)))]
