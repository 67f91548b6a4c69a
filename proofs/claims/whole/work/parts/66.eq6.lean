/-! Both sides are equal: the peer -/
section ZP
variable {f : Nat → Int32} {str : Nat → Int32} {df vd : Nat → Int64}
def ze_lt (str : Nat → Int32) (df : Nat → Int64) (x y : Nat) : Prop := (str x).toInt < (str y).toInt ∨ ((str x).toInt = (str y).toInt ∧ (df x).toInt < (df y).toInt)
/-- the best of those from a to b - 1, the first of equals -/
def ze_bst (f str : Nat → Int32) (df : Nat → Int64) (a b : Nat) (c : Option Nat) : Prop := match c with
  | none => ∀ t, a ≤ t → t < b → f t = 0
  | some x => a ≤ x ∧ x < b ∧ ¬ f x = 0 ∧ ∀ t, a ≤ t → t < b → ¬ f t = 0 → ¬ ze_lt str df t x ∧ (t < x → ze_lt str df x t)
theorem ze_bst_u {a b : Nat} {c d : Option Nat} (hc : ze_bst f str df a b c) (hd : ze_bst f str df a b d) : c = d := by
  cases c with
  | none =>
    cases d with
    | none => rfl
    | some y => exact absurd (hc y hd.1 hd.2.1) hd.2.2.1
  | some x =>
    cases d with
    | none => exact absurd (hd x hc.1 hc.2.1) hc.2.2.1
    | some y =>
      obtain ⟨x1, x2, x3, x4⟩ := hc
      obtain ⟨y1, y2, y3, y4⟩ := hd
      rcases Nat.lt_trichotomy x y with h | h | h
      · exact absurd ((y4 x x1 x2 x3).2 h) (x4 y y1 y2 y3).1
      · rw [h]
      · exact absurd ((x4 y y1 y2 y3).2 h) (y4 x x1 x2 x3).1
theorem ze_btr {x y : Nat} (hx : vd x = df x) (hy : vd y = df y) : zv_btr str vd x y = 0 ↔ ¬ ze_lt str df x y := by
  have h1 : (str x < str y ∨ (str x = str y ∧ vd x < vd y)) ↔ ze_lt str df x y := by
    unfold ze_lt
    rw [hx, hy, Int32.lt_iff_toInt_lt, ← Int32.toInt_inj, Int64.lt_iff_toInt_lt]
  unfold zv_btr
  by_cases h : str x < str y ∨ (str x = str y ∧ vd x < vd y)
  · rw [if_pos h]
    exact ⟨fun z => absurd z (by decide), fun z => absurd (h1.mp h) z⟩
  · rw [if_neg h]
    exact ⟨fun _ z => h (h1.mpr z), fun _ => rfl⟩
theorem ze_cp (hv : ∀ i, i < 5 → ¬ f i = 0 → vd i = df i) : ∀ n, n ≤ 5 → ze_bst f str df 0 n (zv_cp (nI (ze_mk f 5)) str vd n) := by
  intro n
  induction n with
  | zero => intro _ t _ h; omega
  | succ n ih =>
    intro hn
    have hi := ih (by omega)
    have hh := ze_has f (show n < 5 by omega)
    by_cases q : f n = 0
    · have e : zv_cp (nI (ze_mk f 5)) str vd (n + 1) = zv_cp (nI (ze_mk f 5)) str vd n := by
        simp only [zv_cp]
        rw [if_pos (hh.mpr q)]
      rw [e]
      cases hc : zv_cp (nI (ze_mk f 5)) str vd n with
      | none =>
        rw [hc] at hi
        intro t h1 h2
        by_cases e : t = n
        · rw [e]; exact q
        · exact hi t h1 (by omega)
      | some b =>
        rw [hc] at hi
        obtain ⟨b1, b2, b3, b4⟩ := hi
        refine ⟨b1, by omega, b3, fun t h1 h2 h3 => ?_⟩
        by_cases e : t = n
        · rw [e] at h3
          exact absurd q h3
        · exact b4 t h1 (by omega) h3
    · have qn : ¬ zv_has (nI (ze_mk f 5)) (nI n) = 0 := fun z => q (hh.mp z)
      cases hc : zv_cp (nI (ze_mk f 5)) str vd n with
      | none =>
        rw [hc] at hi
        rw [zv_cp_n qn hc]
        refine ⟨Nat.zero_le _, by omega, q, fun t h1 h2 h3 => ?_⟩
        by_cases e : t = n
        · subst e
          refine ⟨?_, fun h => by omega⟩
          unfold ze_lt
          omega
        · exact absurd (hi t h1 (by omega)) h3
      | some b =>
        rw [hc] at hi
        obtain ⟨b1, b2, b3, b4⟩ := hi
        have hb := ze_btr (str := str) (hv n (by omega) q) (hv b (by omega) b3)
        by_cases w : zv_btr str vd n b = 0
        · rw [zv_cp_s qn hc w]
          refine ⟨b1, by omega, b3, fun t h1 h2 h3 => ?_⟩
          by_cases e : t = n
          · subst e
            exact ⟨hb.mp w, fun h => by omega⟩
          · exact b4 t h1 (by omega) h3
        · rw [zv_cp_t qn hc w]
          have hl : ze_lt str df n b := Classical.byContradiction (fun z => w (hb.mpr z))
          refine ⟨Nat.zero_le _, by omega, q, fun t h1 h2 h3 => ?_⟩
          by_cases e : t = n
          · subst e
            refine ⟨?_, fun h => by omega⟩
            unfold ze_lt
            omega
          · have h4 := (b4 t h1 (by omega) h3).1
            unfold ze_lt at hl h4 ⊢
            omega
theorem ze_pe : ∀ r, r ≤ 5 → ze_bst f str df (5 - r) 5 (zm_pe f str df r) := by
  intro r
  induction r with
  | zero => intro _ t h1 h2; omega
  | succ r ih =>
    intro hr
    have hi := ih (by omega)
    have e0 : 5 - (r + 1) = 4 - r := by omega
    have e1 : 5 - r = 4 - r + 1 := by omega
    rw [e1] at hi
    rw [e0]
    have hk : 4 - r < 5 := by omega
    simp only [zm_pe]
    generalize 4 - r = k at hi hk ⊢
    unfold zm_stp
    by_cases q : f k = 0
    · rw [if_pos q]
      cases hc : zm_pe f str df r with
      | none =>
        rw [hc] at hi
        intro t h1 h2
        by_cases e : t = k
        · rw [e]; exact q
        · exact hi t (by omega) h2
      | some b =>
        rw [hc] at hi
        obtain ⟨b1, b2, b3, b4⟩ := hi
        refine ⟨by omega, b2, b3, fun t h1 h2 h3 => ?_⟩
        by_cases e : t = k
        · rw [e] at h3
          exact absurd q h3
        · exact b4 t (by omega) h2 h3
    · rw [if_neg q]
      cases hc : zm_pe f str df r with
      | none =>
        rw [hc] at hi
        refine ⟨Nat.le_refl _, hk, q, fun t h1 h2 h3 => ?_⟩
        by_cases e : t = k
        · subst e
          refine ⟨?_, fun h => by omega⟩
          unfold ze_lt
          omega
        · exact absurd (hi t (by omega) h2) h3
      | some b =>
        rw [hc] at hi
        obtain ⟨b1, b2, b3, b4⟩ := hi
        have hiff : (str k < str b ∨ (str k = str b ∧ ¬ df b < df k)) ↔ ¬ ze_lt str df b k := by
          unfold ze_lt
          rw [Int32.lt_iff_toInt_lt, ← Int32.toInt_inj, Int64.lt_iff_toInt_lt]
          omega
        by_cases w : str k < str b ∨ (str k = str b ∧ ¬ df b < df k)
        · show ze_bst f str df k 5 (if str k < str b ∨ (str k = str b ∧ ¬ df b < df k) then some k else some b)
          rw [if_pos w]
          have h9 := hiff.mp w
          refine ⟨Nat.le_refl _, hk, q, fun t h1 h2 h3 => ⟨?_, fun h => by omega⟩⟩
          by_cases e : t = k
          · subst e
            unfold ze_lt
            omega
          · have h4 := (b4 t (by omega) h2 h3).1
            unfold ze_lt at h4 h9 ⊢
            omega
        · show ze_bst f str df k 5 (if str k < str b ∨ (str k = str b ∧ ¬ df b < df k) then some k else some b)
          rw [if_neg w]
          have hl : ze_lt str df b k := Classical.byContradiction (fun z => w (hiff.mpr z))
          refine ⟨by omega, b2, b3, fun t h1 h2 h3 => ?_⟩
          by_cases e : t = k
          · subst e
            refine ⟨?_, fun _ => hl⟩
            unfold ze_lt at hl ⊢
            omega
          · exact b4 t (by omega) h2 h3
theorem ze_peer (hv : ∀ i, i < 5 → ¬ f i = 0 → vd i = df i) : zv_cp (nI (ze_mk f 5)) str vd 5 = zm_pe f str df 5 := ze_bst_u (ze_cp hv 5 (Nat.le_refl _)) (ze_pe 5 (Nat.le_refl _))
end ZP
