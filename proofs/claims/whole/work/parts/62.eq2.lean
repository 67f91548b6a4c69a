/-! Both sides are equal: what receive asks and keeps -/
theorem ze_255 (y : Int32) : ∃ m, m < 256 ∧ y &&& 255 = nI m := by
  refine ⟨(y.toBitVec &&& 255#32).toNat, ?_, ?_⟩
  · rw [BitVec.toNat_and]
    exact Nat.and_lt_two_pow (n := 8) _ (by decide)
  · apply Int32.toBitVec_inj.mp
    show y.toBitVec &&& 255#32 = BitVec.ofNat 32 _
    rw [BitVec.ofNat_toNat, BitVec.setWidth_eq]
theorem ze_mode : ∀ m, m < 256 → ((((nI m) >>> (3 &&& 31)) &&& 7 = 4 ↔ (nI m) / 8 - (nI m) / 8 / 8 * 8 = 4) ∧ ((nI m) &&& 7 = 4 ↔ (nI m) - (nI m) / 8 * 8 = 4) ∧ ((nI m) >>> (6 &&& 31) = 3 ↔ (nI m) / 64 = 3)) := by decide +kernel
theorem ze_odd : ∀ m, m < 256 → (nI m ||| 1 = zm_odd (nI m) ∧ nI m ||| 1 = nI (m ||| 1) ∧ zs_r2 (nI m) = nI (2 * m % 256)) := by decide +kernel
theorem ze_if {P : Prop} [Decidable P] : (¬ (if P then (1 : Int32) else 0) = 0) ↔ P := by
  by_cases h : P
  · rw [if_pos h]
    exact ⟨fun _ => h, fun _ => by decide⟩
  · rw [if_neg h]
    exact ⟨fun z => absurd rfl z, fun z => absurd z h⟩
theorem ze_ans {row pk : Nat → Int32} (h : ∀ j, j < 48 → row j &&& 255 = pk j) : (¬ zp_ans row = 0) ↔ ((((pk 0) / 8) - ((pk 0) / 8) / 8 * 8 = 4 ∧ (pk 0) - (pk 0) / 8 * 8 = 4) ∧ ¬ zm_rd pk 40 8 = 0) := by
  obtain ⟨m, hm, e⟩ := ze_255 (row 0)
  have h0 := h 0 (by decide)
  rw [e] at h0
  obtain ⟨k1, k2, -⟩ := ze_mode m hm
  unfold zp_ans
  rw [ze_if, e, ← h0, k1, k2, ze_rd h 8 (by decide)]
theorem ze_syn {row pk : Nat → Int32} (h : ∀ j, j < 48 → row j &&& 255 = pk j) : (¬ zp_syn row = 0) ↔ ¬ ((pk 0) / 64 = 3 ∨ 15 < pk 1) := by
  obtain ⟨m, hm, e⟩ := ze_255 (row 0)
  have h0 := h 0 (by decide)
  rw [e] at h0
  obtain ⟨-, -, k3⟩ := ze_mode m hm
  unfold zp_syn
  rw [ze_if, e, ← h0, k3, h 1 (by decide)]
  exact ⟨fun q z => z.elim q.1 q.2, fun z => ⟨fun y => z (Or.inl y), fun y => z (Or.inr y)⟩⟩
theorem ze_push {fm f : Nat → Int64} {k n : Nat} {x : Int64} (hn : n ≤ 8) (h : ∀ j, j < n → fm (8 * k + j) = f j) : ∀ j, j < zs_c8 n → zm_push fm k x (8 * k + j) = zs_push f n x j := by
  intro j hj
  have hc := zs_c8_le n
  have hc2 : zs_c8 n ≤ n + 1 := by
    unfold zs_c8
    split <;> omega
  unfold zm_push zs_push
  simp only [ze_updL, va_up]
  by_cases e : j = 0
  · subst e
    rw [if_pos rfl, if_pos (Nat.add_zero _)]
  · rw [if_neg e, if_neg (by omega)]
    unfold zm_sft zs_sft
    rw [if_pos (by omega), if_pos (by omega), show 8 * k + j - 1 = 8 * k + (j - 1) by omega]
    exact h (j - 1) (by omega)
theorem ze_push_o {fm : Nat → Int64} {k i : Nat} {x : Int64} (hi : ¬ i = k) : ∀ j, j < 8 → zm_push fm k x (8 * i + j) = fm (8 * i + j) := by
  intro j hj
  unfold zm_push
  simp only [ze_updL, va_up]
  rw [if_neg (by omega)]
  unfold zm_sft
  rw [if_neg (by omega)]
theorem ze_kd (den : Nat → Int32) (c : Int64) (k : Nat) : zm_kd den c k = va_up den k (zs_od (den k) c) := by
  unfold zm_kd zs_od
  by_cases h : c = 1145392729 ∨ c = 1381192786
  · rw [if_pos h, if_pos h]
    rfl
  · rw [if_neg h, if_neg h, va_up_id]
theorem ze_pol : ∀ m, m ≤ 10 → zn_mini 10 (nI m + 1) = (if nI m < 10 then nI m + 1 else nI m) := by decide +kernel
theorem ze_kp (pol : Nat → Int32) (c : Int64) (k : Nat) (hp : ∃ m, m ≤ 10 ∧ pol k = nI m) : zm_kp pol c k = va_up pol k (zs_op (pol k) c) := by
  obtain ⟨m, hm, e⟩ := hp
  have h1 := ze_pol m hm
  rw [← e] at h1
  by_cases h : c = 1380013125
  · have hn : ¬ (c = 1145392729 ∨ c = 1381192786) := by
      subst h
      decide
    have a1 : zs_op (pol k) c = zn_mini 10 (pol k + 1) := if_pos ⟨hn, h⟩
    rw [a1, h1]
    by_cases h2 : pol k < 10
    · have a2 : zm_kp pol c k = upd pol k (pol k + 1) := if_pos ⟨h, h2⟩
      rw [a2, if_pos h2]
      rfl
    · have a2 : zm_kp pol c k = pol := if_neg (fun q => h2 q.2)
      rw [a2, if_neg h2, va_up_id]
  · have a1 : zs_op (pol k) c = pol k := if_neg (fun q => h q.2)
    have a2 : zm_kp pol c k = pol := if_neg (fun q => h q.1)
    rw [a1, a2, va_up_id]
theorem ze_dly (x : Int64) : zn_max 4096 x = zm_dly x := by
  unfold zn_max zm_dly
  have h0 : (4096 : Int64).toInt = 4096 := rfl
  by_cases h : x < 4096
  · rw [if_pos h, if_neg]
    rw [Int64.lt_iff_toInt_lt] at h ⊢
    omega
  · rw [if_neg h]
    by_cases h2 : 4096 < x
    · rw [if_pos h2]
    · rw [if_neg h2]
      apply Int64.toInt_inj.mp
      rw [Int64.lt_iff_toInt_lt] at h h2
      omega
theorem ze_low8 (b : BitVec 64) {s : Nat} (hs : s ≤ 56) {j : Nat} (hj : j < 8) : (b.sshiftRight s).getLsbD j = (b >>> s).getLsbD j := by
  rw [BitVec.getLsbD_sshiftRight, BitVec.getLsbD_ushiftRight]
  rw [if_pos (show s + j < 64 by omega)]
  simp
  omega
