/-! Both sides are equal: the packet's bytes -/
theorem ze_b255 : ∀ j, j < 32 → ((255#32).getLsbD j = decide (j < 8) ∧ (255#64).getLsbD j = decide (j < 8)) := by decide
theorem ze_bits (X : BitVec 64) {s : Nat} (hs : s ≤ 56) : ((((X.sshiftRight s).signExtend 32).signExtend 8).signExtend 32) &&& 255#32 = ((X >>> s) &&& 255#64).signExtend 32 := by
  apply BitVec.eq_of_getLsbD_eq
  intro j hj
  obtain ⟨k1, k2⟩ := ze_b255 j hj
  have h64 : j < 64 := by omega
  rw [BitVec.getLsbD_and, k1]
  by_cases h : j < 8
  · have h8 := ze_low8 X hs h
    simp only [BitVec.getLsbD_signExtend, BitVec.getLsbD_and, k2, h, hj, h64, h8, if_true, decide_true, Bool.true_and, Bool.and_true]
  · simp only [BitVec.getLsbD_signExtend, BitVec.getLsbD_and, k2, h, hj, h64, if_true, decide_true, decide_false, Bool.true_and, Bool.and_false]
theorem ze_w1 : ∀ m, m < 8 → (((Int32.toInt64 (nI (8 * m))) &&& 63).toBitVec.smod 64).toNat = 8 * m := by decide +kernel
theorem ze_w2 : ∀ m, m < 8 → ((((Int32.toInt64 (nI (8 * m))).toUInt64 &&& Int64.toUInt64 63).toBitVec) % 64#64).toNat = 8 * m := by decide +kernel
theorem ze_by0 (x : Int64) {m : Nat} (hm : m < 8) : (Int32.toInt8 (Int64.toInt32 (x >>> (Int32.toInt64 (nI (8 * m)) &&& 63)))).toInt32 &&& 255 = Int64.toInt32 (((Int64.toUInt64 x >>> ((Int32.toInt64 (nI (8 * m))).toUInt64 &&& Int64.toUInt64 63)).toInt64) &&& 255) := by
  apply Int32.toBitVec_inj.mp
  show ((((x.toBitVec.sshiftRight ((((Int32.toInt64 (nI (8 * m))) &&& 63).toBitVec.smod 64).toNat)).signExtend 32).signExtend 8).signExtend 32) &&& 255#32 = ((x.toBitVec >>> (((((Int32.toInt64 (nI (8 * m))).toUInt64 &&& Int64.toUInt64 63).toBitVec) % 64#64).toNat)) &&& 255#64).signExtend 32
  rw [ze_w1 m hm, ze_w2 m hm]
  exact ze_bits _ (by omega)
theorem ze_sh : ∀ n, n < 9 → ∀ i, i < n → 8 * (((nI n) - 1) - (nI i)) = nI (8 * (n - 1 - i)) := by decide +kernel
theorem ze_by (x : Int64) {n i : Nat} (hn : n ≤ 8) (hi : i < n) : zp_by x n i &&& 255 = zm_by x n i := by
  unfold zp_by zm_by
  rw [ze_sh n (by omega) i hi]
  exact ze_by0 x (by omega)
def ze_P (row pk : Nat → Int32) : Prop := ∀ j, j < 48 → row j &&& 255 = pk j
theorem ze_P.upd {row pk : Nat → Int32} (h : ze_P row pk) {k : Nat} {a b : Int32} (e : a &&& 255 = b) : ze_P (upd row k a) (upd pk k b) := by
  intro j hj
  simp only [ze_upd, va_up]
  by_cases q : j = k
  · rw [if_pos q, if_pos q]
    exact e
  · rw [if_neg q, if_neg q]
    exact h j hj
theorem ze_wr {row pk : Nat → Int32} (h : ze_P row pk) (u : Nat) (x : Int64) {n : Nat} (hn : n ≤ 8) : ∀ i, i ≤ n → ze_P (zp_wr row u x n i) (zm_wr pk u x n i) := by
  intro i
  induction i with
  | zero => intro _; exact h
  | succ i ih =>
    intro hi
    simp only [zp_wr, zm_wr]
    exact (ih (by omega)).upd (ze_by x hn (by omega))
theorem ze_ech {row pk : Nat → Int32} (h : ze_P row pk) (a b c : Int64) : ze_P (zc_ech row a b c) (zm_ech pk a b c) := by
  unfold zc_ech zm_ech
  refine ze_wr (ze_wr (ze_wr ?_ 24 a (Nat.le_refl _) 8 (Nat.le_refl _)) 32 b (Nat.le_refl _) 8 (Nat.le_refl _)) 40 c (Nat.le_refl _) 8 (Nat.le_refl _)
  exact h.upd (k := 0 + 0) (by decide +kernel)
theorem ze_row {row pk : Nat → Int32} (h : ze_P row pk) : ∀ j, j < 48 → ∃ m, m < 256 ∧ pk j = nI m := by
  intro j hj
  obtain ⟨m, h1, h2⟩ := ze_255 (row j)
  exact ⟨m, h1, by rw [← h j hj]; exact h2⟩
