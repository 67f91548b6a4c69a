/-! Numbers of Java, as both sides use them -/
def zn_max (x y : Int64) : Int64 := if x < y then y else x
def zn_maxi (x y : Int32) : Int32 := if x < y then y else x
def zn_mini (x y : Int32) : Int32 := if y < x then y else x
def zn_min (x y : Int64) : Int64 := if y < x then y else x
def zn_abs (x : Int64) : Int64 := if x < 0 then -x else x
def zn_fd (x y : Int64) : Int64 := if (x ^^^ y) < 0 ∧ ¬ (x / y * y = x) then x / y - 1 else x / y
def zn_bc (x : Int32) : Int32 :=
  let a := x - ((Int32.toUInt32 x >>> (Int32.toUInt32 1 &&& Int32.toUInt32 31)).toInt32 &&& 1431655765)
  let b := (a &&& 858993459) + ((Int32.toUInt32 a >>> (Int32.toUInt32 2 &&& Int32.toUInt32 31)).toInt32 &&& 858993459)
  let c := (b + (Int32.toUInt32 b >>> (Int32.toUInt32 4 &&& Int32.toUInt32 31)).toInt32) &&& 252645135
  let d := c + (Int32.toUInt32 c >>> (Int32.toUInt32 8 &&& Int32.toUInt32 31)).toInt32
  let e := d + (Int32.toUInt32 d >>> (Int32.toUInt32 16 &&& Int32.toUInt32 31)).toInt32
  e &&& 63
theorem zn_part {most slew : Int64} (h : ¬ most < 0) : zn_max (-most) (zn_min most slew) = if most < slew then most else if slew < -most then -most else slew := by
  unfold zn_max zn_min
  have h0 : (0 : Int64).toInt = 0 := rfl
  have hn : (-most).toInt = - most.toInt := by
    rw [Int64.toInt_neg]
    rw [Int64.lt_iff_toInt_lt] at h
    have h1 := most.toInt_lt
    rw [Int.bmod_eq_of_le] <;> omega
  rw [Int64.lt_iff_toInt_lt] at h
  by_cases h1 : slew < most
  · rw [if_pos h1]
    have h2 : ¬ most < slew := by
      rw [Int64.lt_iff_toInt_lt] at h1 ⊢
      omega
    rw [if_neg h2]
    by_cases h3 : slew < -most
    · rw [if_pos h3, if_neg]
      rw [Int64.lt_iff_toInt_lt] at h3 ⊢
      omega
    · rw [if_neg h3]
      by_cases h4 : -most < slew
      · rw [if_pos h4]
      · rw [if_neg h4]
        apply Int64.toInt_inj.mp
        rw [Int64.lt_iff_toInt_lt] at h3 h4
        omega
  · rw [if_neg h1]
    by_cases h5 : -most < most
    · rw [if_pos h5]
      by_cases h2 : most < slew
      · rw [if_pos h2]
      · rw [if_neg h2]
        have he : slew = most := by
          apply Int64.toInt_inj.mp
          rw [Int64.lt_iff_toInt_lt] at h1 h2
          omega
        subst he
        rw [if_neg]
        rw [Int64.lt_iff_toInt_lt] at h5 ⊢
        omega
    · rw [if_neg h5]
      have hz : most = 0 := by
        apply Int64.toInt_inj.mp
        rw [Int64.lt_iff_toInt_lt] at h5
        omega
      subst hz
      by_cases h2 : (0 : Int64) < slew
      · rw [if_pos h2]
        rfl
      · rw [if_neg h2]
        have he : slew = 0 := by
          apply Int64.toInt_inj.mp
          rw [Int64.lt_iff_toInt_lt] at h1 h2
          omega
        subst he
        rfl
theorem zn_xorneg {x y : Int64} (hx : ¬ x < 0) (hy : ¬ y < 0) : ¬ (x ^^^ y) < 0 := by
  have key : ∀ z : Int64, z < 0 ↔ z.toBitVec.msb = true := by
    intro z
    rw [Int64.lt_iff_toInt_lt]
    show z.toBitVec.toInt < 0 ↔ _
    rw [BitVec.msb_eq_toInt]
    simp
  rw [key] at hx hy ⊢
  rw [Int64.toBitVec_xor, BitVec.msb_xor]
  simp at hx hy
  simp [hx, hy]
theorem zn_fd_pos {x y : Int64} (hx : ¬ x < 0) (hy : ¬ y < 0) : zn_fd x y = x / y := by
  unfold zn_fd
  rw [if_neg]
  intro h
  exact zn_xorneg hx hy h.1
theorem zn_nat_cs : ∀ (x y : Nat), x + y = (x ^^^ y) + 2 * (x &&& y) := by
  intro x
  induction x using Nat.strongRecOn with
  | ind x ih =>
    intro y
    by_cases h : x = 0
    · subst h
      simp
    · have h1 := ih (x / 2) (by omega) (y / 2)
      have e1 : (x ^^^ y) / 2 = x / 2 ^^^ y / 2 := Nat.xor_div_two
      have e2 : (x &&& y) / 2 = x / 2 &&& y / 2 := Nat.and_div_two
      have m1 := Nat.xor_mod_two_eq_one (a := x) (b := y)
      have m2 := Nat.and_mod_two_eq_one (a := x) (b := y)
      rw [← e1, ← e2] at h1
      omega
theorem zn_bv_cs (x y : BitVec 64) : x + y = (x ^^^ y) + 2#64 * (x &&& y) := by
  apply BitVec.eq_of_toNat_eq
  rw [BitVec.toNat_add, BitVec.toNat_add, BitVec.toNat_mul, BitVec.toNat_xor, BitVec.toNat_and, zn_nat_cs x.toNat y.toNat]
  have h2 : (2#64).toNat = 2 := rfl
  rw [h2]
  omega
theorem zn_bv_split (c : BitVec 64) : c = 2#64 * c.sshiftRight 1 + (c &&& 1#64) := by
  apply BitVec.eq_of_toInt_eq
  have h1 : (c &&& 1#64).toInt = c.toInt % 2 := by
    have h : (c &&& 1#64).toNat = c.toNat % 2 := by
      rw [BitVec.toNat_and]
      exact Nat.and_two_pow_sub_one_eq_mod c.toNat 1
    rw [BitVec.toInt_eq_toNat_cond, BitVec.toInt_eq_toNat_cond, h]
    split <;> split <;> omega
  rw [BitVec.toInt_add, BitVec.toInt_mul, BitVec.toInt_sshiftRight, h1]
  have h2 : (2#64).toInt = 2 := rfl
  have h3 := c.toInt_lt
  have h4 := c.le_toInt
  rw [h2, Int.shiftRight_eq_div_pow, Int.bmod_add_bmod]
  rw [Int.bmod_eq_of_le] <;> omega
theorem zn_half_bv (a b : BitVec 64) : (a &&& b) + (a ^^^ b).sshiftRight 1 = a.sshiftRight 1 + b.sshiftRight 1 + (a &&& b &&& 1#64) := by
  have h1 := zn_bv_split (a &&& b)
  rw [BitVec.sshiftRight_and_distrib] at h1
  rw [BitVec.sshiftRight_xor_distrib, zn_bv_cs (a.sshiftRight 1) (b.sshiftRight 1)]
  calc (a &&& b) + (a.sshiftRight 1 ^^^ b.sshiftRight 1) = (2#64 * (a.sshiftRight 1 &&& b.sshiftRight 1) + (a &&& b &&& 1#64)) + (a.sshiftRight 1 ^^^ b.sshiftRight 1) := by rw [← h1]
    _ = _ := by rw [BitVec.add_comm, ← BitVec.add_assoc]
theorem zn_tdiv_in (X N : Int) (hN : 0 < N) : (0 ≤ X → 0 ≤ X.tdiv N * N ∧ X.tdiv N * N ≤ X) ∧ (X ≤ 0 → X ≤ X.tdiv N * N ∧ X.tdiv N * N ≤ 0) := by
  have key : ∀ Y : Int, 0 ≤ Y → 0 ≤ Y.tdiv N * N ∧ Y.tdiv N * N ≤ Y := by
    intro Y hY
    rw [Int.tdiv_eq_ediv_of_nonneg hY]
    exact ⟨Int.mul_nonneg (Int.ediv_nonneg hY (Int.le_of_lt hN)) (Int.le_of_lt hN), Int.ediv_mul_le Y (Int.ne_of_gt hN)⟩
  refine ⟨key X, fun h => ?_⟩
  have h1 := key (-X) (by omega)
  rw [Int.neg_tdiv, Int.neg_mul] at h1
  omega
theorem zn_msb (z : Int64) : z < 0 ↔ z.toBitVec.msb = true := by
  rw [Int64.lt_iff_toInt_lt]
  show z.toBitVec.toInt < 0 ↔ _
  rw [BitVec.msb_eq_toInt]
  simp
theorem zn_fd_model {x n : Int64} (hn : 0 < n) : zn_fd x n = if x < x / n * n then x / n - 1 else x / n := by
  have h0 : (0 : Int64).toInt = 0 := rfl
  have hN : 0 < n.toInt := by
    rw [Int64.lt_iff_toInt_lt] at hn
    omega
  have hne : n ≠ -1 := by
    intro h
    subst h
    revert hn
    decide
  have hq : (x / n).toInt = x.toInt.tdiv n.toInt := Int64.toInt_div_of_ne_right x n hne
  obtain ⟨k1, k2⟩ := zn_tdiv_in x.toInt n.toInt hN
  have b1 := x.toInt_lt
  have b2 := x.le_toInt
  have hm : (x / n * n).toInt = x.toInt.tdiv n.toInt * n.toInt := by
    rw [Int64.toInt_mul, hq]
    rcases Int.le_total 0 x.toInt with h | h
    · have := k1 h
      rw [Int.bmod_eq_of_le] <;> omega
    · have := k2 h
      rw [Int.bmod_eq_of_le] <;> omega
  unfold zn_fd
  by_cases hx : x < 0
  · have hxn : (x ^^^ n) < 0 := by
      have hn9 : ¬ n < 0 := by
        rw [Int64.lt_iff_toInt_lt]
        omega
      rw [zn_msb] at hx hn9 ⊢
      rw [Int64.toBitVec_xor, BitVec.msb_xor]
      simp at hn9
      simp [hx, hn9]
    have hx9 : x.toInt ≤ 0 := by
      rw [Int64.lt_iff_toInt_lt] at hx
      omega
    have hiff : ((x ^^^ n) < 0 ∧ ¬ (x / n * n = x)) ↔ x < x / n * n := by
      rw [Int64.lt_iff_toInt_lt (x := x), hm, ← Int64.toInt_inj, hm]
      have := k2 hx9
      constructor
      · intro h
        omega
      · intro h
        exact ⟨hxn, by omega⟩
    by_cases hc : x < x / n * n
    · rw [if_pos hc, if_pos (hiff.mpr hc)]
    · rw [if_neg hc, if_neg (fun h => hc (hiff.mp h))]
  · have h1 : ¬ ((x ^^^ n) < 0 ∧ ¬ (x / n * n = x)) := by
      intro h
      refine zn_xorneg hx ?_ h.1
      rw [Int64.lt_iff_toInt_lt]
      omega
    have h2 : ¬ x < x / n * n := by
      rw [Int64.lt_iff_toInt_lt] at hx ⊢
      rw [hm]
      have := k1 (by omega)
      omega
    rw [if_neg h1, if_neg h2]
