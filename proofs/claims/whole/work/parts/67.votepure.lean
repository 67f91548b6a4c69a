/-! Which of five are the most: pure facts -/
theorem zv_argmax (P : Nat → Prop) (F : Nat → Int) : ∀ n, (∃ s, s < n ∧ P s) → ∃ s, s < n ∧ P s ∧ ∀ t, t < n → P t → F t ≤ F s := by
  intro n
  induction n with
  | zero =>
    intro h
    obtain ⟨s, h, _⟩ := h
    omega
  | succ n ih =>
    intro h
    obtain ⟨s, h, hp⟩ := h
    by_cases h1 : ∃ s, s < n ∧ P s
    · obtain ⟨a, ha, hpa, hm⟩ := ih h1
      by_cases h2 : P n ∧ F a < F n
      · refine ⟨n, by omega, h2.1, fun t ht hpt => ?_⟩
        by_cases e : t = n
        · subst e
          omega
        · have := hm t (by omega) hpt
          omega
      · refine ⟨a, by omega, hpa, fun t ht hpt => ?_⟩
        by_cases e : t = n
        · subst e
          have h3 : ¬ F a < F t := fun q => h2 ⟨hpt, q⟩
          omega
        · exact hm t (by omega) hpt
    · have e : s = n := by
        by_cases e : s = n
        · exact e
        · exact absurd ⟨s, by omega, hp⟩ h1
      subst e
      refine ⟨s, by omega, hp, fun t ht hpt => ?_⟩
      by_cases e : t = s
      · subst e
        omega
      · exact absurd ⟨t, by omega, hpt⟩ h1
def zv_cnt (P : Nat → Bool) : Nat → Nat
  | 0 => 0
  | n + 1 => zv_cnt P n + (if P n = true then 1 else 0)
theorem zv_cnt_le {P Q : Nat → Bool} : ∀ n, (∀ s, s < n → P s = true → Q s = true) → zv_cnt P n ≤ zv_cnt Q n := by
  intro n
  induction n with
  | zero => intro _; exact Nat.le_refl _
  | succ n ih =>
    intro h
    have h1 := ih (fun s hs => h s (by omega))
    have h2 := h n (by omega)
    simp only [zv_cnt]
    by_cases hp : P n = true
    · rw [if_pos hp, if_pos (h2 hp)]
      omega
    · rw [if_neg hp]
      omega
theorem zv_cnt_pos {P : Nat → Bool} : ∀ n, 0 < zv_cnt P n → ∃ s, s < n ∧ P s = true := by
  intro n
  induction n with
  | zero => intro h; exact absurd h (Nat.lt_irrefl _)
  | succ n ih =>
    intro h
    simp only [zv_cnt] at h
    by_cases hp : P n = true
    · exact ⟨n, by omega, hp⟩
    · rw [if_neg hp] at h
      obtain ⟨s, h1, h2⟩ := ih (by omega)
      exact ⟨s, by omega, h2⟩
/-- a time in most intervals: one of them begins at or before it, in most; one ends at or behind it, in most -/
def zv_in (c : Nat → Bool) (F T : Nat → Int) (x : Int) : Nat → Bool := fun s => c s && decide (F s ≤ x) && decide (x ≤ T s)
def zv_most (c : Nat → Bool) (F T : Nat → Int) (x : Int) : Prop := zv_cnt c 5 < 2 * zv_cnt (zv_in c F T x) 5
theorem zv_in_iff {c : Nat → Bool} {F T : Nat → Int} {x : Int} {s : Nat} : zv_in c F T x s = true ↔ c s = true ∧ F s ≤ x ∧ x ≤ T s := by
  unfold zv_in
  simp only [Bool.and_eq_true, decide_eq_true_eq]
  constructor
  · intro h
    exact ⟨h.1.1, h.1.2, h.2⟩
  · intro h
    exact ⟨⟨h.1, h.2.1⟩, h.2.2⟩
theorem zv_start {c : Nat → Bool} {F T : Nat → Int} {x : Int} (h : zv_most c F T x) : ∃ s, s < 5 ∧ c s = true ∧ F s ≤ x ∧ zv_most c F T (F s) := by
  have hp : ∃ s, s < 5 ∧ zv_in c F T x s = true := zv_cnt_pos 5 (by unfold zv_most at h; omega)
  obtain ⟨s, hs, hin, hmax⟩ := zv_argmax (fun s => zv_in c F T x s = true) F 5 hp
  have hin9 := zv_in_iff.mp hin
  refine ⟨s, hs, hin9.1, hin9.2.1, ?_⟩
  have hle : zv_cnt (zv_in c F T x) 5 ≤ zv_cnt (zv_in c F T (F s)) 5 := zv_cnt_le 5 (fun t ht h1 => by
    have h2 := zv_in_iff.mp h1
    have h3 := hmax t ht h1
    exact zv_in_iff.mpr ⟨h2.1, h3, by omega⟩)
  unfold zv_most at h ⊢
  omega
theorem zv_end {c : Nat → Bool} {F T : Nat → Int} {x : Int} (h : zv_most c F T x) : ∃ s, s < 5 ∧ c s = true ∧ x ≤ T s ∧ zv_most c F T (T s) := by
  have hp : ∃ s, s < 5 ∧ zv_in c F T x s = true := zv_cnt_pos 5 (by unfold zv_most at h; omega)
  obtain ⟨s, hs, hin, hmax⟩ := zv_argmax (fun s => zv_in c F T x s = true) (fun t => - T t) 5 hp
  have hin9 := zv_in_iff.mp hin
  refine ⟨s, hs, hin9.1, hin9.2.2, ?_⟩
  have hle : zv_cnt (zv_in c F T x) 5 ≤ zv_cnt (zv_in c F T (T s)) 5 := zv_cnt_le 5 (fun t ht h1 => by
    have h2 := zv_in_iff.mp h1
    have h3 := hmax t ht h1
    exact zv_in_iff.mpr ⟨h2.1, by omega, by omega⟩)
  unfold zv_most at h ⊢
  omega
