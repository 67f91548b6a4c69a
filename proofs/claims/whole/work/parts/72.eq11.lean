/-! Both sides are equal: the farthest, and taking out -/
section ZQ2
variable {f : Nat → Int32} {of vo : Nat → Int64}
theorem ze_ff (ho : ∀ i, i < 5 → ¬ f i = 0 → vo i = of i) : ∀ n, n ≤ 5 → (zv_ff (nI (ze_mk f 5)) vo n).2 = (zm_ff f of n).2 ∧ ¬ (zm_ff f of n).2 < -1 ∧ ∀ b, (zm_ff f of n).1 = some b → (zv_ff (nI (ze_mk f 5)) vo n).1 = b := by
  have hm : ∀ i, i < 5 → (zv_has (nI (ze_mk f 5)) (nI i) = 0 ↔ f i = 0) := fun i hi => ze_has f hi
  have hp : ∀ k, k < 5 → ¬ f k = 0 → zv_spr (nI (ze_mk f 5)) vo k 5 = zm_spr f of k 5 := fun k hk hf => ze_spr ho hk hf 5 (Nat.le_refl _)
  generalize nI (ze_mk f 5) = sv at hm hp ⊢
  intro n
  induction n with
  | zero => intro _; exact ⟨rfl, by show ¬ ((-1 : Int64) < -1); decide, fun b h => by cases h⟩
  | succ n ih =>
    intro hn
    obtain ⟨i1, i2, i3⟩ := ih (by omega)
    have hh := hm n (by omega)
    simp only [zv_ff, zm_ff]
    by_cases q : f n = 0
    · rw [if_neg (fun z => z.1 (hh.mpr q)), if_pos q]
      refine ⟨?_, ?_, i3⟩
      · show _ = if (zm_ff f of n).2 < -1 then -1 else (zm_ff f of n).2
        rw [if_neg i2]
        exact i1
      · show ¬ (if (zm_ff f of n).2 < -1 then -1 else (zm_ff f of n).2) < -1
        rw [if_neg i2]
        exact i2
    · rw [hp n (by omega) q, i1, if_neg q]
      by_cases w : zm_spr f of n 5 < (zm_ff f of n).2
      · have w2 : ¬ (zm_ff f of n).2 < zm_spr f of n 5 := by
          rw [Int64.lt_iff_toInt_lt] at w ⊢
          omega
        rw [if_neg (fun z => z.2 w)]
        refine ⟨?_, ?_, ?_⟩
        · show _ = if (zm_ff f of n).2 < zm_spr f of n 5 then zm_spr f of n 5 else (zm_ff f of n).2
          rw [if_neg w2]
          exact i1
        · show ¬ (if (zm_ff f of n).2 < zm_spr f of n 5 then zm_spr f of n 5 else (zm_ff f of n).2) < -1
          rw [if_neg w2]
          exact i2
        · intro b hb
          have hb2 : (if zm_spr f of n 5 < (zm_ff f of n).2 then (zm_ff f of n).1 else some n) = some b := hb
          rw [if_pos w] at hb2
          exact i3 b hb2
      · rw [if_pos ⟨fun z => q (hh.mp z), w⟩]
        have e : (if (zm_ff f of n).2 < zm_spr f of n 5 then zm_spr f of n 5 else (zm_ff f of n).2) = zm_spr f of n 5 := by
          by_cases w2 : (zm_ff f of n).2 < zm_spr f of n 5
          · rw [if_pos w2]
          · rw [if_neg w2]
            apply Int64.toInt_inj.mp
            rw [Int64.lt_iff_toInt_lt] at w w2
            omega
        refine ⟨?_, ?_, ?_⟩
        · exact e.symm
        · show ¬ (if (zm_ff f of n).2 < zm_spr f of n 5 then zm_spr f of n 5 else (zm_ff f of n).2) < -1
          rw [e]
          rw [Int64.lt_iff_toInt_lt] at w i2 ⊢
          omega
        · intro b hb
          have hb2 : (if zm_spr f of n 5 < (zm_ff f of n).2 then (zm_ff f of n).1 else some n) = some b := hb
          rw [if_neg w] at hb2
          cases hb2
          rfl
theorem ze_st1 (ho : ∀ i, i < 5 → ¬ f i = 0 → vo i = of i) {b : Nat} (h : (zm_ff f of 5).1 = some b) : zv_st1 vo (nI (ze_mk f 5)) = nI (ze_mk (zm_s1 of f) 5) := by
  have h1 := (ze_ff ho 5 (Nat.le_refl _)).2.2 b h
  rw [zm_s1_eq h]
  unfold zv_st1
  rw [h1]
  exact ze_out f (zm_ff_lt h)
end ZQ2
