/-! Both sides are equal: low and high -/
def ze_sp (S : Int → Prop) (q : Option (Int64 × Int64)) : Prop := match q with
  | none => ∀ x, ¬ S x
  | some q => S q.1.toInt ∧ S q.2.toInt ∧ ∀ x, S x → q.1.toInt ≤ x ∧ x ≤ q.2.toInt
theorem ze_sp_c {S S' : Int → Prop} {q : Option (Int64 × Int64)} (h : ∀ x, S x ↔ S' x) (hs : ze_sp S q) : ze_sp S' q := by
  have e : S = S' := funext fun x => propext (h x)
  rw [← e]
  exact hs
theorem ze_sp_a {S : Int → Prop} {M : Prop} {q : Option (Int64 × Int64)} {c : Int32} {x : Int64} (hc : (¬ c = 0) ↔ M) (hs : ze_sp S q) : ze_sp (fun y => S y ∨ (M ∧ y = x.toInt)) (zm_add c x q) := by
  unfold zm_add
  by_cases w : c = 0
  · rw [if_pos w]
    exact ze_sp_c (fun y => ⟨Or.inl, fun z => z.elim id (fun z => absurd w (hc.mpr z.1))⟩) hs
  · rw [if_neg w]
    have hM := hc.mp w
    cases q with
    | none => exact ⟨Or.inr ⟨hM, rfl⟩, Or.inr ⟨hM, rfl⟩, fun y hy => hy.elim (fun z => absurd z (hs y)) (fun z => by rw [z.2]; exact ⟨Int.le_refl _, Int.le_refl _⟩)⟩
    | some q =>
      obtain ⟨h1, h2, h3⟩ := hs
      have a1 := h3 _ h1
      have a2 := h3 _ h2
      have e1 : (if x < q.1 then x else q.1).toInt = if x.toInt < q.1.toInt then x.toInt else q.1.toInt := by
        by_cases z : x < q.1
        · rw [if_pos z, if_pos (Int64.lt_iff_toInt_lt.mp z)]
        · rw [if_neg z, if_neg (fun y => z (Int64.lt_iff_toInt_lt.mpr y))]
      have e2 : (if q.2 < x then x else q.2).toInt = if q.2.toInt < x.toInt then x.toInt else q.2.toInt := by
        by_cases z : q.2 < x
        · rw [if_pos z, if_pos (Int64.lt_iff_toInt_lt.mp z)]
        · rw [if_neg z, if_neg (fun y => z (Int64.lt_iff_toInt_lt.mpr y))]
      refine ⟨?_, ?_, ?_⟩
      · show S (if x < q.1 then x else q.1).toInt ∨ (M ∧ (if x < q.1 then x else q.1).toInt = x.toInt)
        rw [e1]
        by_cases z : x.toInt < q.1.toInt
        · rw [if_pos z]
          exact Or.inr ⟨hM, rfl⟩
        · rw [if_neg z]
          exact Or.inl h1
      · show S (if q.2 < x then x else q.2).toInt ∨ (M ∧ (if q.2 < x then x else q.2).toInt = x.toInt)
        rw [e2]
        by_cases z : q.2.toInt < x.toInt
        · rw [if_pos z]
          exact Or.inr ⟨hM, rfl⟩
        · rw [if_neg z]
          exact Or.inl h2
      · intro y hy
        show (if x < q.1 then x else q.1).toInt ≤ y ∧ y ≤ (if q.2 < x then x else q.2).toInt
        rw [e1, e2]
        rcases hy with z | z
        · have := h3 y z
          constructor <;> split <;> omega
        · have := z.2
          constructor <;> split <;> omega
section ZM
variable {cf : Nat → Int32} {of df vo vd : Nat → Int64}
def ze_S (cf : Nat → Int32) (of df : Nat → Int64) (n : Nat) (y : Int) : Prop := ∃ i, i < n ∧ ¬ cf i = 0 ∧ (y = ze_F of df i ∨ y = ze_T of df i) ∧ zv_most (ze_cb cf) (ze_F of df) (ze_T of df) y
theorem ze_mj (hb : ze_bd cf of df) : ∀ n, n ≤ 5 → ze_sp (ze_S cf of df n) (zm_mj cf of df n) := by
  intro n
  induction n with
  | zero =>
    intro _ x h
    obtain ⟨i, hi, -⟩ := h
    omega
  | succ n ih =>
    intro hn
    have hi := ih (by omega)
    simp only [zm_mj]
    by_cases q : cf n = 0
    · rw [if_pos q]
      refine ze_sp_c (fun y => ⟨fun h => ?_, fun h => ?_⟩) hi
      · obtain ⟨i, h1, h2⟩ := h
        exact ⟨i, by omega, h2⟩
      · obtain ⟨i, h1, h2, h3⟩ := h
        by_cases e : i = n
        · subst e
          exact absurd q h2
        · exact ⟨i, by omega, h2, h3⟩
    · rw [if_neg q]
      obtain ⟨f1, f2, f3, f4⟩ := ze_Fi hb (show n < 5 by omega) q
      have c1 := ze_com hb (x := of n - df n) (by rw [f1]; exact f3)
      have c2 := ze_com hb (x := of n + df n) (by rw [f2]; exact f4)
      refine ze_sp_c (fun y => ?_) (ze_sp_a c2 (ze_sp_a c1 hi))
      rw [f1, f2]
      constructor
      · intro h
        rcases h with (h | h) | h
        · obtain ⟨i, h1, h2⟩ := h
          exact ⟨i, by omega, h2⟩
        · exact ⟨n, by omega, q, Or.inl h.2, by rw [h.2]; exact h.1⟩
        · exact ⟨n, by omega, q, Or.inr h.2, by rw [h.2]; exact h.1⟩
      · intro h
        obtain ⟨i, h1, h2, h3, h4⟩ := h
        by_cases e : i = n
        · subst e
          rcases h3 with h3 | h3
          · exact Or.inl (Or.inr ⟨by rw [← h3]; exact h4, h3⟩)
          · exact Or.inr ⟨by rw [← h3]; exact h4, h3⟩
        · exact Or.inl (Or.inl ⟨i, by omega, h2, h3, h4⟩)
theorem ze_lo (hb : ze_bd cf of df) (ho : ∀ i, i < 5 → ¬ cf i = 0 → vo i = of i ∧ vd i = df i) : ∀ n, n ≤ 5 → (∀ i, i < n → ¬ cf i = 0 → zv_most (ze_cb cf) (ze_F of df) (ze_T of df) (ze_F of df i) → (zv_lo (nI (ze_mk cf 5)) vo vd n).toInt ≤ ze_F of df i) ∧ ((zv_lo (nI (ze_mk cf 5)) vo vd n).toInt = 4611686018427387904 ∨ ∃ i, i < n ∧ ¬ cf i = 0 ∧ zv_most (ze_cb cf) (ze_F of df) (ze_T of df) (ze_F of df i) ∧ (zv_lo (nI (ze_mk cf 5)) vo vd n).toInt = ze_F of df i) := by
  intro n
  induction n with
  | zero => intro _; exact ⟨fun i hi => by omega, Or.inl rfl⟩
  | succ n ih =>
    intro hn
    obtain ⟨i1, i2⟩ := ih (by omega)
    have hh := ze_has cf (show n < 5 by omega)
    have keep : ∀ L : Int64, L = zv_lo (nI (ze_mk cf 5)) vo vd n → (cf n = 0 ∨ ¬ zv_most (ze_cb cf) (ze_F of df) (ze_T of df) (ze_F of df n)) → (∀ i, i < n + 1 → ¬ cf i = 0 → zv_most (ze_cb cf) (ze_F of df) (ze_T of df) (ze_F of df i) → L.toInt ≤ ze_F of df i) ∧ (L.toInt = 4611686018427387904 ∨ ∃ i, i < n + 1 ∧ ¬ cf i = 0 ∧ zv_most (ze_cb cf) (ze_F of df) (ze_T of df) (ze_F of df i) ∧ L.toInt = ze_F of df i) := by
      intro L hL hz
      subst hL
      refine ⟨fun i hi h1 h2 => ?_, i2.imp id (fun z => ?_)⟩
      · by_cases e : i = n
        · subst e
          exact hz.elim (fun z => absurd z h1) (fun z => absurd h2 z)
        · exact i1 i (by omega) h1 h2
      · obtain ⟨i, h1, h2⟩ := z
        exact ⟨i, by omega, h2⟩
    simp only [zv_lo]
    by_cases q : cf n = 0
    · rw [if_pos (hh.mpr q)]
      exact keep _ rfl (Or.inl q)
    · rw [if_neg (fun z => q (hh.mp z)), ze_inm ho]
      obtain ⟨e1, e2⟩ := ho n (by omega) q
      obtain ⟨f1, f2, f3, f4⟩ := ze_Fi hb (show n < 5 by omega) q
      have c1 := ze_com hb (x := of n - df n) (by rw [f1]; exact f3)
      rw [f1] at c1
      rw [e1, e2]
      by_cases w : zm_com cf of df (of n - df n) = 0
      · rw [if_pos w]
        exact keep _ rfl (Or.inr (fun z => c1.mpr z w))
      · rw [if_neg w]
        have hm := c1.mp w
        unfold zn_min
        by_cases z : of n - df n < zv_lo (nI (ze_mk cf 5)) vo vd n
        · rw [if_pos z, f1]
          rw [Int64.lt_iff_toInt_lt, f1] at z
          refine ⟨fun i hi h1 h2 => ?_, Or.inr ⟨n, by omega, q, hm, rfl⟩⟩
          by_cases e : i = n
          · subst e
            exact Int.le_refl _
          · have := i1 i (by omega) h1 h2
            omega
        · rw [if_neg z]
          rw [Int64.lt_iff_toInt_lt, f1] at z
          refine ⟨fun i hi h1 h2 => ?_, i2.imp id (fun y => ?_)⟩
          · by_cases e : i = n
            · subst e
              omega
            · exact i1 i (by omega) h1 h2
          · obtain ⟨i, h1, h2⟩ := y
            exact ⟨i, by omega, h2⟩
end ZM
