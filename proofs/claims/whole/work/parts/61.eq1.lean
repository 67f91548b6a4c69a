/-! Both sides are equal: halves, readings of the packet, one server's readings, run -/
theorem ze_shr1 (x : Int64) : (x >>> (Int32.toInt64 1 &&& 63)).toBitVec = x.toBitVec.sshiftRight 1 := by
  rw [show (Int32.toInt64 1 &&& 63) = (1 : Int64) from by decide, Int64.toBitVec_shiftRight]
  rfl
theorem ze_half (x y : Int64) : zc_half x y = zm_half x y := by
  apply Int64.toBitVec_inj.mp
  unfold zc_half zm_half
  rw [Int64.toBitVec_add, Int64.toBitVec_add, Int64.toBitVec_add, ze_shr1, ze_shr1, ze_shr1, Int64.toBitVec_and, Int64.toBitVec_and, Int64.toBitVec_and, Int64.toBitVec_xor]
  exact zn_half_bv _ _
theorem ze_rd {row pk : Nat → Int32} (h : ∀ j, j < 48 → row j &&& 255 = pk j) {u : Nat} : ∀ n, u + n ≤ 48 → zp_rd row u n = zm_rd pk u n := by
  intro n
  induction n with
  | zero => intro _; rfl
  | succ n ih =>
    intro hn
    simp only [zp_rd, zm_rd]
    rw [ih (by omega), h (u + n) (by omega)]
theorem ze_best {key d : Nat → Int64} {b n : Nat} (h : ∀ j, j < n → key (b + j) = d j) : ∀ i, i ≤ n → zm_best key b i = b + zs_best d i := by
  intro i
  induction i with
  | zero => intro _; rfl
  | succ i ih =>
    intro hi
    have h1 := ih (by omega)
    have h2 := zs_best_le d i
    simp only [zm_best, zs_best]
    rw [h1, h i (by omega), h (zs_best d i) (by omega)]
    by_cases hlt : d i < d (zs_best d i)
    · rw [if_pos hlt, if_pos hlt]
    · rw [if_neg hlt, if_neg hlt]
theorem ze_far {offm off : Nat → Int64} {b n : Nat} {own : Int64} (h : ∀ j, j < n → offm (b + j) = off j) : ∀ i, i ≤ n → zm_far offm own b i = zs_far off own i := by
  intro i
  induction i with
  | zero => intro _; rfl
  | succ i ih =>
    intro hi
    simp only [zm_far, zs_far, zn_max]
    rw [ih (by omega), h i (by omega)]
theorem ze_key {delm cam del arr : Nat → Int64} {loc : Int64} {b j : Nat} (hd : delm (b + j) = del j) (hc : cam (b + j) = arr j) (hp : ¬ loc - arr j < 0) : zm_key delm cam loc (b + j) = zs_dist del arr loc j := by
  unfold zm_key zm_dsp zs_dist
  rw [hd, hc, zn_fd_pos hp (by decide), Int64.add_assoc]
section ZE
variable {offm delm cam : Nat → Int64} {off del arr : Nat → Nat → Int64} {loc : Int64} {nn : Nat → Nat} {rdl rds : Nat → Int64} {k : Nat}
/-- the samples of server k, on both sides; none is of the time to come -/
def ze_R (offm delm cam : Nat → Int64) (off del arr : Nat → Nat → Int64) (loc : Int64) (nn : Nat → Nat) (k : Nat) : Prop := ∀ j, j < nn k → offm (8 * k + j) = off k j ∧ delm (8 * k + j) = del k j ∧ cam (8 * k + j) = arr k j ∧ ¬ loc - arr k j < 0
theorem ze_b (h : ze_R offm delm cam off del arr loc nn k) : zm_b delm cam loc nn k = 8 * k + zs_at (del k) (arr k) loc (nn k) := by
  unfold zm_b zs_at
  exact ze_best (n := nn k) (fun j hj => ze_key (h j hj).2.1 (h j hj).2.2.1 (h j hj).2.2.2) _ (Nat.le_refl _)
theorem ze_at (h0 : 0 < nn k) : zs_at (del k) (arr k) loc (nn k) < nn k := by
  have := zs_best_le (zs_dist (del k) (arr k) loc) (nn k)
  unfold zs_at
  omega
theorem ze_o (h : ze_R offm delm cam off del arr loc nn k) (h0 : 0 < nn k) : zm_o offm delm cam loc nn k = off k (zs_at (del k) (arr k) loc (nn k)) := by
  unfold zm_o
  rw [ze_b h]
  exact (h _ (ze_at h0)).1
theorem ze_dl (h : ze_R offm delm cam off del arr loc nn k) (h0 : 0 < nn k) : delm (zm_b delm cam loc nn k) = del k (zs_at (del k) (arr k) loc (nn k)) := by
  rw [ze_b h]
  exact (h _ (ze_at h0)).2.1
theorem ze_j (h : ze_R offm delm cam off del arr loc nn k) (h0 : 0 < nn k) : zm_jit offm delm cam loc nn k = zs_jit (off k) (del k) (arr k) loc (nn k) := by
  unfold zm_jit zs_jit
  rw [ze_o h h0]
  exact ze_far (n := nn k) (fun j hj => (h j hj).1) _ (Nat.le_refl _)
theorem ze_sum (a b r c j : Int64) : a + b + r + c + j = a + (b + c) + r + j := by
  rw [Int64.add_assoc a b r, Int64.add_comm b r, ← Int64.add_assoc a r b, Int64.add_assoc (a + r) b c, Int64.add_assoc a r (b + c), Int64.add_comm r (b + c), ← Int64.add_assoc a (b + c) r]
theorem ze_d (h : ze_R offm delm cam off del arr loc nn k) (h0 : 0 < nn k) : zm_d rdl rds offm delm cam loc nn k = zs_root (rdl k) (rds k) (off k) (del k) (arr k) loc (nn k) := by
  unfold zm_d zs_root
  rw [ze_j h h0, ze_sum]
  have h1 := h _ (ze_at (del := del) (arr := arr) (loc := loc) h0)
  have h2 := ze_key (delm := delm) (cam := cam) (del := del k) (arr := arr k) (loc := loc) (b := 8 * k) h1.2.1 h1.2.2.1 h1.2.2.2
  rw [← h2, ze_b h]
  rfl
end ZE
theorem ze_div0 {x : Int64} (h : ¬ x < 0) : ¬ (x / 2048) < 0 := by
  have h0 : (0 : Int64).toInt = 0 := rfl
  have hn : (2048 : Int64).toInt = 2048 := rfl
  rw [Int64.lt_iff_toInt_lt] at h ⊢
  rw [Int64.toInt_div_of_ne_right x 2048 (by decide), hn]
  have h1 : 0 ≤ x.toInt := by omega
  rw [Int.tdiv_eq_ediv_of_nonneg h1]
  have := Int.ediv_nonneg h1 (show (0 : Int) ≤ 2048 by decide)
  omega
theorem ze_prt {x slw : Int64} (h : ¬ x < 0) : zn_max (-(x / 2048)) (zn_min (x / 2048) slw) = zm_prt (x / 2048) slw := zn_part (ze_div0 h)
theorem ze_run {x loc slw : Int64} (h0 : ¬ x < 0) (h1 : ¬ 1099511627776 < x) : zm_rt x = 0 ∧ loc + (x + zn_max (-(x / 2048)) (zn_min (x / 2048) slw)) = zm_rl x loc slw ∧ slw - zn_max (-(x / 2048)) (zn_min (x / 2048) slw) = zm_rs x slw := by
  have hn : ¬ (x < 0 ∨ 1099511627776 < x) := fun q => q.elim h0 h1
  unfold zm_rt zm_rl zm_rs
  rw [if_neg hn, if_neg hn, if_neg hn, ze_prt h0]
  exact ⟨rfl, (Int64.add_assoc _ _ _).symm, rfl⟩
theorem ze_run1 {x loc slw : Int64} (h : x < 0 ∨ 1099511627776 < x) : zm_rt x = 1 ∧ zm_rl x loc slw = loc ∧ zm_rs x slw = slw := ⟨if_pos h, if_pos h, if_pos h⟩
theorem ze_upd (f : Nat → Int32) (k : Nat) (x : Int32) : upd f k x = va_up f k x := rfl
theorem ze_updL (f : Nat → Int64) (k : Nat) (x : Int64) : vp_updL f k x = va_up f k x := rfl
