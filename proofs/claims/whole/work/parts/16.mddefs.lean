/-! What the model's readings are -/
def zm_half (x y : Int64) : Int64 := ((x >>> (Int32.toInt64 1 &&& 63)) + (y >>> (Int32.toInt64 1 &&& 63))) + ((x &&& y) &&& 1)
def zc_half (x y : Int64) : Int64 := (x &&& y) + ((x ^^^ y) >>> (Int32.toInt64 1 &&& 63))
def zm_rd (pk : Nat → Int32) (u : Nat) : Nat → Int64
  | 0 => 0
  | k + 1 => ((zm_rd pk u k) <<< (Int32.toInt64 8 &&& 63)) ||| (Int32.toInt64 (pk (u + k)))
def zm_isv (x : Int32) : Int32 := if ¬ (x < 0) ∧ x < 5 then 1 else 0
def zm_dsp (cam : Nat → Int64) (loc : Int64) (k : Nat) : Int64 := 65536 + (loc - cam k) / 65536
def zm_key (del cam : Nat → Int64) (loc : Int64) (k : Nat) : Int64 := del k / 2 + zm_dsp cam loc k
def zm_best (key : Nat → Int64) (b : Nat) : Nat → Nat
  | 0 => b
  | i + 1 => if key (b + i) < key (zm_best key b i) then b + i else zm_best key b i
theorem zm_best_in (key : Nat → Int64) (b : Nat) : ∀ n, zm_best key b n ≤ b + (n - 1) := by
  intro n
  induction n with
  | zero => exact Nat.le_add_right _ _
  | succ n ih =>
    simp only [zm_best]
    split <;> omega
def zm_b (del cam : Nat → Int64) (loc : Int64) (nn : Nat → Nat) (k : Nat) : Nat := zm_best (zm_key del cam loc) (8 * k) (nn k)
theorem zm_b_lt {del cam : Nat → Int64} {loc : Int64} {nn : Nat → Nat} {k : Nat} (hk : k < 5) (hn : nn k ≤ 8) : zm_b del cam loc nn k < 40 := by
  have := zm_best_in (zm_key del cam loc) (8 * k) (nn k)
  unfold zm_b
  omega
def zm_far (off : Nat → Int64) (own : Int64) (b : Nat) : Nat → Int64
  | 0 => 0
  | i + 1 => if zm_far off own b i < zn_abs (off (b + i) - own) then zn_abs (off (b + i) - own) else zm_far off own b i
def zm_o (off del cam : Nat → Int64) (loc : Int64) (nn : Nat → Nat) (k : Nat) : Int64 := off (zm_b del cam loc nn k)
def zm_jit (off del cam : Nat → Int64) (loc : Int64) (nn : Nat → Nat) (k : Nat) : Int64 := zm_far off (zm_o off del cam loc nn k) (8 * k) (nn k)
def zm_d (rdl rds off del cam : Nat → Int64) (loc : Int64) (nn : Nat → Nat) (k : Nat) : Int64 := rdl k / 2 + del (zm_b del cam loc nn k) / 2 + rds k + zm_dsp cam loc (zm_b del cam loc nn k) + zm_jit off del cam loc nn k
def zm_c (den rch : Nat → Int32) (rdl rds off del cam : Nat → Int64) (loc : Int64) (nn : Nat → Nat) (k : Nat) : Int32 := if (den k = 0 ∧ ¬ (rch k = 0)) ∧ (0 < nn k ∧ zm_d rdl rds off del cam loc nn k < 6442450944) then 1 else 0
def zm_all (cf : Nat → Int32) : Nat → Nat
  | 0 => 0
  | i + 1 => if cf i = 0 then zm_all cf i else zm_all cf i + 1
def zm_tho (cf : Nat → Int32) (of df : Nat → Int64) (x : Int64) : Nat → Nat
  | 0 => 0
  | i + 1 => if ¬ (cf i = 0) ∧ ¬ (df i < zn_abs (x - of i)) then zm_tho cf of df x i + 1 else zm_tho cf of df x i
def zm_com (cf : Nat → Int32) (of df : Nat → Int64) (x : Int64) : Int32 := if nI (zm_all cf 5) < 2 * nI (zm_tho cf of df x 5) then 1 else 0
def zm_spr (ins : Nat → Int32) (of : Nat → Int64) (k : Nat) : Nat → Int64
  | 0 => 0
  | i + 1 => if ins i = 0 then zm_spr ins of k i + 0 else zm_spr ins of k i + zn_abs (of k - of i)
def zm_sum (ins : Nat → Int32) (of : Nat → Int64) : Nat → Int64
  | 0 => 0
  | i + 1 => if ins i = 0 then zm_sum ins of i + 0 else zm_sum ins of i + of i
def zm_cmb (ins : Nat → Int32) (of : Nat → Int64) (n : Int32) : Int64 := if zm_sum ins of 5 < zm_sum ins of 5 / Int32.toInt64 n * Int32.toInt64 n then zm_sum ins of 5 / Int32.toInt64 n - 1 else zm_sum ins of 5 / Int32.toInt64 n
abbrev zm_W (o : Nat) (ad : Nat → Nat) (cI cJ cZ : ClassId) (thr : Int32) (loc slw : Int64) (wst : Int32) (pk den rch pol ask : Nat → Int32) (xp : Nat → Int64) (str : Nat → Int32) (rdl rds : Nat → Int64) (nn : Nat → Nat) (off del cam : Nat → Int64) (ins : Nat → Int32) (low high : Int64) : va_W :=
  [(o, .inr (4, [.int thr, .long loc, .long slw, .int wst, .ref (ad 0), .ref (ad 1), .ref (ad 2), .ref (ad 3), .ref (ad 4), .ref (ad 5), .ref (ad 6), .ref (ad 7), .ref (ad 8), .ref (ad 9), .ref (ad 10), .ref (ad 11), .ref (ad 12), .ref (ad 13), .long low, .long high])),
   (ad 0, .inl (cI, 48, .inl pk)), (ad 1, .inl (cZ, 5, .inl den)), (ad 2, .inl (cI, 5, .inl rch)), (ad 3, .inl (cI, 5, .inl pol)), (ad 4, .inl (cZ, 5, .inl ask)), (ad 5, .inl (cJ, 5, .inr (.inl xp))), (ad 6, .inl (cI, 5, .inl str)), (ad 7, .inl (cJ, 5, .inr (.inl rdl))), (ad 8, .inl (cJ, 5, .inr (.inl rds))),
   (ad 9, .inl (cI, 5, .inl (fun k => nI (nn k)))), (ad 10, .inl (cJ, 40, .inr (.inl off))), (ad 11, .inl (cJ, 40, .inr (.inl del))), (ad 12, .inl (cJ, 40, .inr (.inl cam))), (ad 13, .inl (cZ, 5, .inl ins))]
theorem zz_ti {p : Program} {l : Launch} {e : Env} {R : Room} {s : State} {m : MethodId} {args : Array Value} {below : List Frame} {meth : Method} {c : Code} {H : Heap} {locs : List Loc} {cells slots : Nat} {Q : State → Prop} {pc : Nat} {ls : Array Slot} {rest : List Value} {x y : Int32} (h : x = y) (k : W p l e R s m args below meth c H locs cells slots Q (F0 m pc ls (.int y :: rest))) : W p l e R s m args below meth c H locs cells slots Q (F0 m pc ls (.int x :: rest)) := h ▸ k
theorem zz_tl {p : Program} {l : Launch} {e : Env} {R : Room} {s : State} {m : MethodId} {args : Array Value} {below : List Frame} {meth : Method} {c : Code} {H : Heap} {locs : List Loc} {cells slots : Nat} {Q : State → Prop} {pc : Nat} {ls : Array Slot} {rest : List Value} {x y : Int64} (h : x = y) (k : W p l e R s m args below meth c H locs cells slots Q (F0 m pc ls (.long y :: rest))) : W p l e R s m args below meth c H locs cells slots Q (F0 m pc ls (.long x :: rest)) := h ▸ k
