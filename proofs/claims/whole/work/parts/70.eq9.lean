/-! Both sides are equal: high, and both -/
section ZM
variable {cf : Nat → Int32} {of df vo vd : Nat → Int64}
theorem ze_hi (hb : ze_bd cf of df) (ho : ∀ i, i < 5 → ¬ cf i = 0 → vo i = of i ∧ vd i = df i) : ∀ n, n ≤ 5 → (∀ i, i < n → ¬ cf i = 0 → zv_most (ze_cb cf) (ze_F of df) (ze_T of df) (ze_T of df i) → ze_T of df i ≤ (zv_hi (nI (ze_mk cf 5)) vo vd n).toInt) ∧ ((zv_hi (nI (ze_mk cf 5)) vo vd n).toInt = -4611686018427387904 ∨ ∃ i, i < n ∧ ¬ cf i = 0 ∧ zv_most (ze_cb cf) (ze_F of df) (ze_T of df) (ze_T of df i) ∧ (zv_hi (nI (ze_mk cf 5)) vo vd n).toInt = ze_T of df i) := by
  intro n
  induction n with
  | zero => intro _; exact ⟨fun i hi => by omega, Or.inl rfl⟩
  | succ n ih =>
    intro hn
    obtain ⟨i1, i2⟩ := ih (by omega)
    have hh := ze_has cf (show n < 5 by omega)
    have keep : ∀ L : Int64, L = zv_hi (nI (ze_mk cf 5)) vo vd n → (cf n = 0 ∨ ¬ zv_most (ze_cb cf) (ze_F of df) (ze_T of df) (ze_T of df n)) → (∀ i, i < n + 1 → ¬ cf i = 0 → zv_most (ze_cb cf) (ze_F of df) (ze_T of df) (ze_T of df i) → ze_T of df i ≤ L.toInt) ∧ (L.toInt = -4611686018427387904 ∨ ∃ i, i < n + 1 ∧ ¬ cf i = 0 ∧ zv_most (ze_cb cf) (ze_F of df) (ze_T of df) (ze_T of df i) ∧ L.toInt = ze_T of df i) := by
      intro L hL hz
      subst hL
      refine ⟨fun i hi h1 h2 => ?_, i2.imp id (fun z => ?_)⟩
      · by_cases e : i = n
        · subst e
          exact hz.elim (fun z => absurd z h1) (fun z => absurd h2 z)
        · exact i1 i (by omega) h1 h2
      · obtain ⟨i, h1, h2⟩ := z
        exact ⟨i, by omega, h2⟩
    simp only [zv_hi]
    by_cases q : cf n = 0
    · rw [if_pos (hh.mpr q)]
      exact keep _ rfl (Or.inl q)
    · rw [if_neg (fun z => q (hh.mp z)), ze_inm ho]
      obtain ⟨e1, e2⟩ := ho n (by omega) q
      obtain ⟨f1, f2, f3, f4⟩ := ze_Fi hb (show n < 5 by omega) q
      have c1 := ze_com hb (x := of n + df n) (by rw [f2]; exact f4)
      rw [f2] at c1
      rw [e1, e2]
      by_cases w : zm_com cf of df (of n + df n) = 0
      · rw [if_pos w]
        exact keep _ rfl (Or.inr (fun z => c1.mpr z w))
      · rw [if_neg w]
        have hm := c1.mp w
        unfold zn_max
        by_cases z : zv_hi (nI (ze_mk cf 5)) vo vd n < of n + df n
        · rw [if_pos z, f2]
          rw [Int64.lt_iff_toInt_lt, f2] at z
          refine ⟨fun i hi h1 h2 => ?_, Or.inr ⟨n, by omega, q, hm, rfl⟩⟩
          by_cases e : i = n
          · subst e
            exact Int.le_refl _
          · have := i1 i (by omega) h1 h2
            omega
        · rw [if_neg z]
          rw [Int64.lt_iff_toInt_lt, f2] at z
          refine ⟨fun i hi h1 h2 => ?_, i2.imp id (fun y => ?_)⟩
          · by_cases e : i = n
            · subst e
              omega
            · exact i1 i (by omega) h1 h2
          · obtain ⟨i, h1, h2⟩ := y
            exact ⟨i, by omega, h2⟩
theorem ze_cbt {i : Nat} (h : ze_cb cf i = true) : ¬ cf i = 0 := by
  intro q
  simp [ze_cb, q] at h
theorem ze_lh (hb : ze_bd cf of df) (ho : ∀ i, i < 5 → ¬ cf i = 0 → vo i = of i ∧ vd i = df i) : match zm_mj cf of df 5 with
    | none => zv_maj (zv_lo (nI (ze_mk cf 5)) vo vd 5) (zv_hi (nI (ze_mk cf 5)) vo vd 5) = 0
    | some q => zv_lo (nI (ze_mk cf 5)) vo vd 5 = q.1 ∧ zv_hi (nI (ze_mk cf 5)) vo vd 5 = q.2 ∧ ¬ zv_maj (zv_lo (nI (ze_mk cf 5)) vo vd 5) (zv_hi (nI (ze_mk cf 5)) vo vd 5) = 0 := by
  have hs := ze_mj hb 5 (Nat.le_refl _)
  obtain ⟨l1, l2⟩ := ze_lo hb ho 5 (Nat.le_refl _)
  obtain ⟨h1, h2⟩ := ze_hi hb ho 5 (Nat.le_refl _)
  generalize zv_lo (nI (ze_mk cf 5)) vo vd 5 = lo at l1 l2 ⊢
  generalize zv_hi (nI (ze_mk cf 5)) vo vd 5 = hi at h1 h2 ⊢
  cases hm : zm_mj cf of df 5 with
  | none =>
    rw [hm] at hs
    have e1 : lo.toInt = 4611686018427387904 := by
      rcases l2 with z | ⟨i, a1, a2, a3, a4⟩
      · exact z
      · exact absurd ⟨i, a1, a2, Or.inl rfl, a3⟩ (hs _)
    have e2 : hi.toInt = -4611686018427387904 := by
      rcases h2 with z | ⟨i, a1, a2, a3, a4⟩
      · exact z
      · exact absurd ⟨i, a1, a2, Or.inr rfl, a3⟩ (hs _)
    show (if hi < lo then (0 : Int32) else 1) = 0
    rw [if_pos]
    rw [Int64.lt_iff_toInt_lt]
    omega
  | some q =>
    rw [hm] at hs
    obtain ⟨s1, s2, s3⟩ := hs
    have m1 := s1.choose_spec.2.2.2
    have m2 := s2.choose_spec.2.2.2
    obtain ⟨i, i1, i2, i3, i4⟩ := zv_start m1
    obtain ⟨j, j1, j2, j3, j4⟩ := zv_end m2
    have hi2 := ze_cbt i2
    have hj2 := ze_cbt j2
    have fi := ze_Fi hb i1 hi2
    have fj := ze_Fi hb j1 hj2
    have a1 := l1 i i1 hi2 i4
    have a2 := h1 j j1 hj2 j4
    have e1 : lo.toInt = q.1.toInt := by
      rcases l2 with z | ⟨k, k1, k2, k3, k4⟩
      · omega
      · have := (s3 _ ⟨k, k1, k2, Or.inl rfl, k3⟩).1
        omega
    have e2 : hi.toInt = q.2.toInt := by
      rcases h2 with z | ⟨k, k1, k2, k3, k4⟩
      · omega
      · have := (s3 _ ⟨k, k1, k2, Or.inr rfl, k3⟩).2
        omega
    have h9 := (s3 _ s1).2
    refine ⟨Int64.toInt_inj.mp e1, Int64.toInt_inj.mp e2, ?_⟩
    show ¬ (if hi < lo then (0 : Int32) else 1) = 0
    rw [if_neg]
    · decide
    · rw [Int64.lt_iff_toInt_lt]
      omega
end ZM
