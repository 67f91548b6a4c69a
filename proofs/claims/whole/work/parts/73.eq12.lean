/-! Both sides are equal: taking out down to three; which ints are servers -/
theorem ze_mk_congr {f g : Nat → Int32} : ∀ n, (∀ i, i < n → f i = g i) → ze_mk f n = ze_mk g n := by
  intro n
  induction n with
  | zero => intro _; rfl
  | succ n ih =>
    intro h
    simp only [ze_mk]
    rw [ih (fun i hi => h i (by omega)), h n (by omega)]
theorem ze_isv (x : Int32) : zm_isv x = 0 ↔ (x < 0 ∨ ¬ x < 5) := by
  have h1 : (¬ zm_isv x = 0) ↔ (¬ (x < 0) ∧ x < 5) := by
    unfold zm_isv
    exact ze_if
  constructor
  · intro h
    by_cases a : x < 0
    · exact Or.inl a
    · by_cases b : x < 5
      · exact absurd h (h1.mpr ⟨a, b⟩)
      · exact Or.inr b
  · intro h
    by_cases a : zm_isv x = 0
    · exact a
    · exact h.elim (fun z => absurd z (h1.mp a).1) (fun z => absurd (h1.mp a).2 z)
theorem ze_isk {x : Int32} (h : ¬ (x < 0 ∨ ¬ x < 5)) : ∃ k, k < 5 ∧ x = nI k := by
  have h0 : (0 : Int32).toInt = 0 := rfl
  have h5 : (5 : Int32).toInt = 5 := rfl
  have a : ¬ x < 0 := fun z => h (Or.inl z)
  have b : x < 5 := Classical.byContradiction (fun z => h (Or.inr z))
  rw [Int32.lt_iff_toInt_lt] at a b
  rcases (show x.toInt = 0 ∨ x.toInt = 1 ∨ x.toInt = 2 ∨ x.toInt = 3 ∨ x.toInt = 4 by omega) with e | e | e | e | e
  · exact ⟨0, by omega, Int32.toInt_inj.mp (e.trans rfl)⟩
  · exact ⟨1, by omega, Int32.toInt_inj.mp (e.trans rfl)⟩
  · exact ⟨2, by omega, Int32.toInt_inj.mp (e.trans rfl)⟩
  · exact ⟨3, by omega, Int32.toInt_inj.mp (e.trans rfl)⟩
  · exact ⟨4, by omega, Int32.toInt_inj.mp (e.trans rfl)⟩
theorem ze_rm {of vo : Nat → Int64} {f0 : Nat → Int32} (ho : ∀ i, i < 5 → ¬ f0 i = 0 → vo i = of i) (hout : ∀ g : Nat → Int32, (∀ i, ¬ g i = 0 → ¬ f0 i = 0) → 3 < zm_cn g 5 → ∃ b, (zm_ff g of 5).1 = some b) : ∀ (t : Nat) (f : Nat → Int32), (∀ i, ¬ f i = 0 → ¬ f0 i = 0) → t ≤ zm_cn f 5 - 3 → zv_rm vo t (nI (ze_mk f 5)) = nI (ze_mk (zm_rmv of t f) 5) := by
  intro t
  induction t with
  | zero => intro f _ _; rfl
  | succ t ih =>
    intro f hf ht
    obtain ⟨b, hb⟩ := hout f hf (by omega)
    have h1 := ze_st1 (vo := vo) (fun i hi hz => ho i hi (hf i hz)) hb
    have h2 := zm_s1_cn hb (by omega)
    show zv_rm vo t (zv_st1 vo (nI (ze_mk f 5))) = nI (ze_mk (zm_rmv of t (zm_s1 of f)) 5)
    rw [h1]
    exact ih (zm_s1 of f) (fun i hz => hf i (zm_s1_sub hz)) (by omega)
