/-! Both sides are equal: who lies inside, one taken out -/
section ZQ1
variable {cf f : Nat → Int32} {of vo : Nat → Int64}
theorem ze_sv {sm : Int32} {lo hi : Int64} (ho : ∀ i, i < 5 → ¬ cf i = 0 → vo i = of i) (hs : ¬ sm = 0) : ∀ n, n ≤ 5 → zv_sv (nI (ze_mk cf 5)) lo hi vo n = nI (ze_mk (zm_iv sm cf of lo hi) n) := by
  intro n
  induction n with
  | zero => intro _; rfl
  | succ n ih =>
    intro hn
    have hh := ze_has cf (show n < 5 by omega)
    have hv : (¬ zm_iv sm cf of lo hi n = 0) ↔ (¬ sm = 0 ∧ ¬ cf n = 0 ∧ ¬ of n < lo ∧ ¬ hi < of n) := by
      unfold zm_iv
      exact ze_if
    have he : (¬ zv_has (nI (ze_mk cf 5)) (nI n) = 0 ∧ ¬ vo n < lo ∧ ¬ hi < vo n) ↔ ¬ zm_iv sm cf of lo hi n = 0 := by
      rw [hv]
      constructor
      · intro z
        have q : ¬ cf n = 0 := fun y => z.1 (hh.mpr y)
        have e := ho n (by omega) q
        rw [e] at z
        exact ⟨hs, q, z.2⟩
      · intro z
        have e := ho n (by omega) z.2.1
        rw [e]
        exact ⟨fun y => z.2.1 (hh.mp y), z.2.2⟩
    show (if ¬ zv_has (nI (ze_mk cf 5)) (nI n) = 0 ∧ ¬ vo n < lo ∧ ¬ hi < vo n then zv_sv (nI (ze_mk cf 5)) lo hi vo n ||| (1 <<< ((nI n) &&& 31)) else zv_sv (nI (ze_mk cf 5)) lo hi vo n) = nI (if zm_iv sm cf of lo hi n = 0 then ze_mk (zm_iv sm cf of lo hi) n else ze_mk (zm_iv sm cf of lo hi) n + 2 ^ n)
    rw [ih (by omega)]
    by_cases q : zm_iv sm cf of lo hi n = 0
    · rw [if_pos q, if_neg (fun z => he.mp z q)]
    · rw [if_neg q, if_pos (he.mpr q)]
      exact (ze_or n (by omega) _ (ze_mk_lt _ n)).1
theorem ze_sv0 {lo hi : Int64} (hl : hi < lo) : ∀ n, zv_sv (nI (ze_mk cf 5)) lo hi vo n = 0 := by
  intro n
  induction n with
  | zero => rfl
  | succ n ih =>
    simp only [zv_sv]
    rw [ih, if_neg]
    intro z
    rw [Int64.lt_iff_toInt_lt] at hl
    have h1 := z.2.1
    have h2 := z.2.2
    rw [Int64.lt_iff_toInt_lt] at h1 h2
    omega
theorem ze_out5 : ∀ b0 b1 b2 b3 b4 : Bool, ∀ k, k < 5 → nI (ze_m5 b0 b1 b2 b3 b4) &&& ((1 <<< ((nI k) &&& 31)) ^^^ (-1)) = nI (ze_m5 (b0 || k == 0) (b1 || k == 1) (b2 || k == 2) (b3 || k == 3) (b4 || k == 4)) := by decide +kernel
theorem ze_out (f : Nat → Int32) {k : Nat} (hk : k < 5) : nI (ze_mk f 5) &&& ((1 <<< ((nI k) &&& 31)) ^^^ (-1)) = nI (ze_mk (upd f k 0) 5) := by
  rw [(ze_mk5 f).1, (ze_mk5 (upd f k 0)).1, ze_out5 _ _ _ _ _ k hk]
  have h : ∀ j, decide (upd f k 0 j = 0) = (decide (f j = 0) || k == j) := by
    intro j
    have e9 : upd f k 0 j = if j = k then 0 else f j := rfl
    rw [Bool.eq_iff_iff, decide_eq_true_iff, Bool.or_eq_true, decide_eq_true_iff, beq_iff_eq, e9]
    by_cases e : j = k
    · rw [if_pos e]
      exact ⟨fun _ => Or.inr e.symm, fun _ => rfl⟩
    · rw [if_neg e]
      exact ⟨Or.inl, fun z => z.elim id (fun y => absurd y.symm e)⟩
  rw [h 0, h 1, h 2, h 3, h 4]
theorem ze_bn (f : Nat → Int32) : zv_bn (nI (ze_mk f 5)) = zm_cn f 5 := by
  unfold zv_bn
  rw [ze_bc]
  have h := zm_cn_le f 5
  exact nI_clamp (by omega)
end ZQ1
