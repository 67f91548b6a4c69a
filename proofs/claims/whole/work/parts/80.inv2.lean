/-! What holds between the calls: a sample taken, a kiss, polls, a step -/
section ZJ2
variable {i : Nat} {loc : Int64} {nn : Nat → Nat} {off del arr : Nat → Nat → Int64} {offm delm cam : Nat → Int64} {rch den pol : Nat → Int32} {rdl rds : Nat → Int64} {wst : Int32} {k : Nat}
theorem zj_pv {f : Nat → Int64} {n : Nat} {x : Int64} {j : Nat} (hj : j < zs_c8 n) : (j = 0 ∧ zs_push f n x j = x) ∨ (0 < j ∧ j - 1 < n ∧ zs_push f n x j = f (j - 1)) := by
  have hc2 : zs_c8 n ≤ n + 1 := by
    unfold zs_c8
    split <;> omega
  unfold zs_push
  simp only [ze_updL, va_up]
  by_cases e : j = 0
  · exact Or.inl ⟨e, by rw [if_pos e]⟩
  · refine Or.inr ⟨by omega, by omega, ?_⟩
    rw [if_neg e]
    unfold zs_sft
    rw [if_pos (by omega)]
theorem zj_S.push (hn : ∀ k, nn k ≤ 8) {O D : Int64} (S : zj_S i loc nn off del arr offm delm cam) (hO : -1152921504606846976 ≤ O.toInt ∧ O.toInt ≤ 1152921504606846976) (hD : 4096 ≤ D.toInt ∧ D.toInt ≤ 1152921504606846976) :
    zj_S (i + 1) loc (va_up nn k (zs_c8 (nn k))) (va_up off k (zs_push (off k) (nn k) O)) (va_up del k (zs_push (del k) (nn k) D)) (va_up arr k (zs_push (arr k) (nn k) loc)) (zm_push offm k O) (zm_push delm k D) (zm_push cam k loc) := by
  intro g j hg hj
  by_cases e : g = k
  · subst e
    rw [va_up_self] at hj
    rw [va_up_self, va_up_self, va_up_self]
    refine ⟨⟨ze_push (hn g) (fun t ht => (S g t hg ht).1.1) j hj, ze_push (hn g) (fun t ht => (S g t hg ht).1.2.1) j hj, ze_push (hn g) (fun t ht => (S g t hg ht).1.2.2) j hj⟩, ?_⟩
    rcases zj_pv (f := off g) (x := O) hj with ⟨h1, h2⟩ | ⟨h1, h2, h3⟩
    · subst h1
      have h4 := zj_pv (f := del g) (x := D) hj
      have h5 := zj_pv (f := arr g) (x := loc) hj
      rcases h4 with ⟨-, h4⟩ | ⟨h4, -⟩
      · rcases h5 with ⟨-, h5⟩ | ⟨h5, -⟩
        · rw [h2, h4, h5]
          exact ⟨hO, hD, by omega, by omega⟩
        · omega
      · omega
    · have h4 := zj_pv (f := del g) (x := D) hj
      have h5 := zj_pv (f := arr g) (x := loc) hj
      rcases h4 with ⟨h4, -⟩ | ⟨-, -, h4⟩
      · omega
      · rcases h5 with ⟨h5, -⟩ | ⟨-, -, h5⟩
        · omega
        · rw [h3, h4, h5]
          obtain ⟨-, b, c, d1, d2⟩ := S g (j - 1) hg h2
          exact ⟨b, c, by omega, by omega⟩
  · rw [va_up_ne _ _ e] at hj
    rw [va_up_ne _ _ e, va_up_ne _ _ e, va_up_ne _ _ e]
    have h8 := hn g
    rw [ze_push_o e j (by omega), ze_push_o e j (by omega), ze_push_o e j (by omega)]
    obtain ⟨a, b, c, d1, d2⟩ := S g j hg hj
    exact ⟨a, b, c, by omega, by omega⟩
theorem zj_nn (hn : ∀ k, nn k ≤ 8) : ∀ g, va_up nn k (zs_c8 (nn k)) g ≤ 8 := by
  intro g
  by_cases e : g = k
  · rw [e, va_up_self]
    exact (zs_c8_le _).2
  · rw [va_up_ne _ _ e]
    exact hn g
theorem zj_C.up (h : zj_C rch) {x : Int32} {m : Nat} (hm : m < 256) (e : x = nI m) : zj_C (va_up rch k x) := by
  intro g hg
  by_cases z : g = k
  · rw [z, va_up_self]
    exact ⟨m, hm, e⟩
  · rw [va_up_ne _ _ z]
    exact h g hg
theorem zj_C.send (h : zj_C rch) (hk : k < 5) : zj_C (va_up rch k (zs_r2 (rch k))) := by
  obtain ⟨m, hm, e⟩ := h k hk
  refine h.up (m := 2 * m % 256) (by omega) ?_
  rw [e]
  exact (ze_odd m hm).2.2
theorem zj_or1 : ∀ m, m < 256 → m ||| 1 < 256 := by decide +kernel
theorem zj_C.odd (h : zj_C rch) (hk : k < 5) : zj_C (va_up rch k (rch k ||| 1)) ∧ rch k ||| 1 = zm_odd (rch k) := by
  obtain ⟨m, hm, e⟩ := h k hk
  refine ⟨h.up (m := m ||| 1) (zj_or1 m hm) ?_, ?_⟩
  · rw [e]
    exact (ze_odd m hm).2.1
  · rw [e]
    exact (ze_odd m hm).1
theorem zj_pb (h : ze_pb pol) {x : Int32} {m : Nat} (h1 : m ≤ 10) (h2 : 4 ≤ m) (e : x = nI m) : ze_pb (va_up pol k x) := by
  intro g hg
  by_cases z : g = k
  · rw [z, va_up_self]
    exact ⟨m, h1, h2, e⟩
  · rw [va_up_ne _ _ z]
    exact h g hg
theorem zj_p1 : ∀ m, m ≤ 10 → zn_mini 10 (nI m + 1) = nI (if m < 10 then m + 1 else 10) := by decide +kernel
theorem zj_p2 : ∀ m, m ≤ 10 → (if 4 < nI m then nI m - 1 else 4) = nI (if 4 < m then m - 1 else 4) := by decide +kernel
theorem zj_p3 : ∀ m, m < 10 → nI m + 1 = nI (m + 1) := by decide +kernel
theorem zj_kis (h : ze_pb pol) (hk : k < 5) (c : Int64) : ze_pb (va_up pol k (zs_op (pol k) c)) := by
  obtain ⟨m, h1, h2, e⟩ := h k hk
  unfold zs_op
  by_cases q : ¬ (c = 1145392729 ∨ c = 1381192786) ∧ c = 1380013125
  · rw [if_pos q]
    refine zj_pb h (m := if m < 10 then m + 1 else 10) ?_ ?_ ?_
    · split <;> omega
    · split <;> omega
    · rw [e]
      exact zj_p1 m h1
  · rw [if_neg q]
    exact zj_pb h h1 h2 e
theorem zj_pn (h : ze_pb pol) : ∀ n, n ≤ 5 → ze_pb (zm_pn pol n) := by
  intro n
  induction n with
  | zero => intro _; exact h
  | succ n ih =>
    intro hn
    have hi := ih (by omega)
    obtain ⟨m, h1, h2, e⟩ := hi n (by omega)
    simp only [zm_pn]
    refine zj_pb (k := n) hi (m := if 4 < m then m - 1 else 4) ?_ ?_ ?_
    · split <;> omega
    · split <;> omega
    · rw [e]
      exact zj_p2 m h1
theorem zj_pc {ins : Nat → Int32} (h : ze_pb pol) : ∀ n, n ≤ 5 → ze_pb (zm_pc ins pol n) := by
  intro n
  induction n with
  | zero => intro _; exact h
  | succ n ih =>
    intro hn
    have hi := ih (by omega)
    obtain ⟨m, h1, h2, e⟩ := hi n (by omega)
    simp only [zm_pc]
    by_cases q : ¬ (ins n = 0) ∧ zm_pc ins pol n n < 10
    · rw [if_pos q]
      have hm : m < 10 := (zz_ltN (a := m) (b := 10) e rfl (by omega) (by omega)).mp q.2
      refine zj_pb (k := n) hi (m := m + 1) (by omega) (by omega) ?_
      rw [e]
      exact zj_p3 m hm
    · rw [if_neg q]
      exact zj_pb (k := n) hi h1 h2 e
theorem zj_psl {ins : Nat → Int32} (h : ze_pb pol) (s j : Int64) : ze_pb (zm_psl ins pol s j) := by
  unfold zm_psl
  split
  · exact zj_pn h 5 (Nat.le_refl _)
  · exact zj_pc h 5 (Nat.le_refl _)
theorem zj_fz (f : Nat → Int32) : ∀ n g, g < n → zm_fz f n g = 0 := by
  intro n
  induction n with
  | zero => intro g h; omega
  | succ n ih =>
    intro g h
    simp only [zm_fz, ze_upd]
    by_cases e : g = n
    · rw [e, va_up_self]
    · rw [va_up_ne _ _ e]
      exact ih g (by omega)
theorem zj_fn (f : Nat → Nat) : ∀ n g, g < n → zm_fn f n g = 0 := by
  intro n
  induction n with
  | zero => intro g h; omega
  | succ n ih =>
    intro g h
    simp only [zm_fn]
    by_cases e : g = n
    · rw [e, va_up_self]
    · rw [va_up_ne _ _ e]
      exact ih g (by omega)
theorem zj_fn8 (hn : ∀ k, nn k ≤ 8) : ∀ n g, zm_fn nn n g ≤ 8 := by
  intro n
  induction n with
  | zero => intro g; exact hn g
  | succ n ih =>
    intro g
    simp only [zm_fn]
    by_cases e : g = n
    · rw [e, va_up_self]
      omega
    · rw [va_up_ne _ _ e]
      exact ih g
theorem zj_C.fz : zj_C (zm_fz rch 5) := fun g hg => ⟨0, by omega, zj_fz rch 5 g hg⟩
theorem zj_b8 : ((Int32.toInt64 8 &&& 63).toBitVec).smod 64 = 8#64 := by decide
theorem zj_m8 : ∀ m, m < 256 → (Int32.toInt64 (nI m)).toBitVec.toNat = m := by decide +kernel
theorem zj_rdn {row : Nat → Int32} {u : Nat} : ∀ n, n ≤ 4 → (zp_rd row u n).toBitVec.toNat < 2 ^ (8 * n) := by
  intro n
  induction n with
  | zero =>
    intro _
    show (0 : Int64).toBitVec.toNat < 2 ^ (8 * 0)
    decide
  | succ n ih =>
    intro hn
    have hi := ih (by omega)
    show ((zp_rd row u n).toBitVec <<< (((Int32.toInt64 8 &&& 63).toBitVec).smod 64) ||| (Int32.toInt64 ((row (u + n)) &&& 255)).toBitVec).toNat < _
    rw [BitVec.toNat_or, zj_b8]
    obtain ⟨m, hm, e⟩ := ze_255 (row (u + n))
    rw [e, zj_m8 m hm]
    have hp : 2 ^ (8 * (n + 1)) = 2 ^ (8 * n) * 256 := by
      rw [Nat.mul_add, Nat.pow_add]
    have h1 : 1 ≤ 2 ^ (8 * n) := Nat.one_le_two_pow
    refine Nat.or_lt_two_pow ?_ (by omega)
    rw [BitVec.shiftLeft_eq', BitVec.toNat_shiftLeft, Nat.shiftLeft_eq]
    refine Nat.lt_of_le_of_lt (Nat.mod_le _ _) ?_
    rw [show (8#64).toNat = 8 from rfl, hp]
    omega
theorem zj_rd4 {row : Nat → Int32} {u : Nat} : 0 ≤ (zp_rd row u 4 * 65536).toInt ∧ (zp_rd row u 4 * 65536).toInt ≤ 281474976710656 := by
  have h := zj_rdn (row := row) (u := u) 4 (Nat.le_refl _)
  have e : (zp_rd row u 4).toInt = ((zp_rd row u 4).toBitVec.toNat : Int) := BitVec.toInt_eq_toNat_of_lt (by omega)
  have t : (65536 : Int64).toInt = 65536 := rfl
  rw [Int64.toInt_mul, e, t]
  rw [Int.bmod_eq_of_le] <;> omega
theorem zj_D.up (h : zj_D rdl rds) {row : Nat → Int32} : zj_D (va_up rdl k (zp_rd row 4 4 * 65536)) (va_up rds k (zp_rd row 8 4 * 65536)) := by
  intro g hg
  by_cases z : g = k
  · rw [z, va_up_self, va_up_self]
    exact ⟨zj_rd4, zj_rd4⟩
  · rw [va_up_ne _ _ z, va_up_ne _ _ z]
    exact h g hg
theorem zj_sum {f : Nat → Int32} {of : Nat → Int64} (ho : ∀ g, g < 5 → ¬ f g = 0 → -1152921504606846976 ≤ (of g).toInt ∧ (of g).toInt ≤ 1152921504606846976) : ∀ n : Nat, n ≤ 5 → -((n : Int) * 1152921504606846976) ≤ (zm_sum f of n).toInt ∧ (zm_sum f of n).toInt ≤ (n : Int) * 1152921504606846976 := by
  have h0 : (0 : Int64).toInt = 0 := rfl
  intro n
  induction n with
  | zero =>
    intro _
    show -(((0 : Nat) : Int) * 1152921504606846976) ≤ (0 : Int64).toInt ∧ (0 : Int64).toInt ≤ ((0 : Nat) : Int) * 1152921504606846976
    rw [h0]
    omega
  | succ n ih =>
    intro hn
    have hi := ih (by omega)
    simp only [zm_sum]
    by_cases q : f n = 0
    · rw [if_pos q]
      try rw [Int64.add_zero]
      omega
    · rw [if_neg q]
      have := ho n (by omega) q
      rw [ze_add (by omega)]
      omega
theorem zj_cmb {f : Nat → Int32} {of : Nat → Int64} (ho : ∀ g, g < 5 → ¬ f g = 0 → -1152921504606846976 ≤ (of g).toInt ∧ (of g).toInt ≤ 1152921504606846976) {n : Nat} (h1 : 1 ≤ n) (h3 : n ≤ 3) : -5764607523034234881 ≤ (zm_cmb f of (nI n)).toInt ∧ (zm_cmb f of (nI n)).toInt ≤ 5764607523034234881 := by
  have hs := zj_sum ho 5 (Nat.le_refl _)
  unfold zm_cmb
  generalize zm_sum f of 5 = x at hs ⊢
  have key : ∀ c : Int64, (c.toInt = 1 ∨ c.toInt = 2 ∨ c.toInt = 3) → -5764607523034234880 ≤ (x / c).toInt ∧ (x / c).toInt ≤ 5764607523034234880 := by
    intro c hc
    have hne : c ≠ -1 := by
      intro z
      rw [z] at hc
      exact absurd hc (by decide)
    rw [Int64.toInt_div_of_ne_right x c hne]
    obtain ⟨k1, k2⟩ := zn_tdiv_in x.toInt c.toInt (by omega)
    rcases Int.le_total 0 x.toInt with h | h
    · have := k1 h
      rcases hc with e | e | e <;> rw [e] at this ⊢ <;> omega
    · have := k2 h
      rcases hc with e | e | e <;> rw [e] at this ⊢ <;> omega
  have hk := key (Int32.toInt64 (nI n)) (by
    rcases (show n = 1 ∨ n = 2 ∨ n = 3 by omega) with e | e | e <;> subst e <;> decide)
  have t1 : (1 : Int64).toInt = 1 := rfl
  split
  · rw [ze_sub (by omega), t1]
    omega
  · omega
theorem zj_L.step (h9 : i ≤ 600) (hL : zj_L i wst loc) {c : Int64} (hc : -5764607523034234881 ≤ c.toInt ∧ c.toInt ≤ 5764607523034234881) (hf : ¬ (4294967296000 < zn_abs c ∧ ¬ wst = 0)) : zj_L (i + 1) 1 (loc + c) := by
  obtain ⟨l1, l2, l3⟩ := hL
  have ha := ze_abs (x := c) (by omega)
  have t : (4294967296000 : Int64).toInt = 4294967296000 := rfl
  refine ⟨fun z => absurd z (by decide), ?_⟩
  by_cases w : wst = 0
  · have := l1 w
    rw [ze_add (by omega)]
    omega
  · have h4 : ¬ 4294967296000 < zn_abs c := fun z => hf ⟨z, w⟩
    rw [Int64.lt_iff_toInt_lt, t, ha] at h4
    have h5 : -4294967296000 ≤ c.toInt ∧ c.toInt ≤ 4294967296000 := by
      split at h4 <;> omega
    rw [ze_add (by omega)]
    omega
theorem zj_L.one (hL : zj_L i wst loc) : zj_L (i + 1) 1 loc := ⟨fun z => absurd z (by decide), hL.next.2⟩
end ZJ2
