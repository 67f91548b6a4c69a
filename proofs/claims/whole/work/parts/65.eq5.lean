/-! Both sides are equal: what most hold, spreads, the combined offset, polls -/
section ZG
variable {cf f : Nat → Int32} {of df vo vd : Nat → Int64}
theorem ze_hld (ho : ∀ i, i < 5 → ¬ cf i = 0 → vo i = of i ∧ vd i = df i) (tm : Int64) : ∀ n, n ≤ 5 → zv_hld (nI (ze_mk cf 5)) vo vd tm n = zm_tho cf of df tm n := by
  intro n
  induction n with
  | zero => intro _; rfl
  | succ n ih =>
    intro hn
    have hh := ze_has cf (show n < 5 by omega)
    simp only [zv_hld, zm_tho]
    rw [ih (by omega)]
    by_cases q : cf n = 0
    · rw [if_neg (fun z => z.1 (hh.mpr q)), if_neg (fun z => z.1 q)]
    · obtain ⟨e1, e2⟩ := ho n (by omega) q
      rw [e1, e2]
      by_cases w : df n < zn_abs (tm - of n)
      · rw [if_neg (fun z => z.2 w), if_neg (fun z => z.2 w)]
      · rw [if_pos ⟨fun z => q (hh.mp z), w⟩, if_pos ⟨q, w⟩]
theorem ze_inm (ho : ∀ i, i < 5 → ¬ cf i = 0 → vo i = of i ∧ vd i = df i) (tm : Int64) : zv_inm (nI (ze_mk cf 5)) vo vd tm = zm_com cf of df tm := by
  unfold zv_inm zm_com
  rw [ze_hld ho tm 5 (Nat.le_refl _), ze_bc, ze_all]
theorem ze_spr (ho : ∀ i, i < 5 → ¬ f i = 0 → vo i = of i) {k : Nat} (hk : k < 5) (hf : ¬ f k = 0) : ∀ n, n ≤ 5 → zv_spr (nI (ze_mk f 5)) vo k n = zm_spr f of k n := by
  intro n
  induction n with
  | zero => intro _; rfl
  | succ n ih =>
    intro hn
    have hh := ze_has f (show n < 5 by omega)
    simp only [zv_spr, zm_spr]
    rw [ih (by omega)]
    by_cases q : f n = 0
    · rw [if_pos (hh.mpr q), if_pos q, Int64.add_zero]
    · rw [if_neg (fun z => q (hh.mp z)), if_neg q, ho k hk hf, ho n (by omega) q]
theorem ze_sm (ho : ∀ i, i < 5 → ¬ f i = 0 → vo i = of i) : ∀ n, n ≤ 5 → zv_sum (nI (ze_mk f 5)) vo n = zm_sum f of n := by
  intro n
  induction n with
  | zero => intro _; rfl
  | succ n ih =>
    intro hn
    have hh := ze_has f (show n < 5 by omega)
    simp only [zv_sum, zm_sum]
    rw [ih (by omega)]
    by_cases q : f n = 0
    · rw [if_pos (hh.mpr q), if_pos q, Int64.add_zero]
    · rw [if_neg (fun z => q (hh.mp z)), if_neg q, ho n (by omega) q]
theorem ze_cnt : ∀ c, c ≤ 5 → 1 ≤ c → (zn_maxi 1 (nI c) = nI c ∧ 0 < Int32.toInt64 (nI c)) := by decide +kernel
theorem ze_cmb (ho : ∀ i, i < 5 → ¬ f i = 0 → vo i = of i) (h1 : 1 ≤ zm_cn f 5) : zv_cmb (nI (ze_mk f 5)) vo = zm_cmb f of (nI (zm_cn f 5)) := by
  obtain ⟨k1, k2⟩ := ze_cnt (zm_cn f 5) (zm_cn_le f 5) h1
  unfold zv_cmb zm_cmb
  rw [ze_sm ho 5 (Nat.le_refl _), ze_bc, k1, zn_fd_model k2]
theorem ze_sooner : ∀ m, m ≤ 10 → 4 ≤ m → zn_maxi 4 ((nI m) - 1) = (if 4 < nI m then nI m - 1 else 4) := by decide +kernel
theorem ze_later : ∀ m, m ≤ 10 → 4 ≤ m → zn_mini 10 ((nI m) + 1) = (if nI m < 10 then nI m + 1 else nI m) := by decide +kernel
def ze_pb (pol : Nat → Int32) : Prop := ∀ i, i < 5 → ∃ m, m ≤ 10 ∧ 4 ≤ m ∧ pol i = nI m
theorem ze_pn_o (pol : Nat → Int32) : ∀ n j, n ≤ j → zm_pn pol n j = pol j := by
  intro n
  induction n with
  | zero => intro j _; rfl
  | succ n ih =>
    intro j hj
    simp only [zm_pn, ze_upd, va_up]
    rw [if_neg (by omega)]
    exact ih j (by omega)
theorem ze_pc_o (pol : Nat → Int32) : ∀ n j, n ≤ j → zm_pc f pol n j = pol j := by
  intro n
  induction n with
  | zero => intro j _; rfl
  | succ n ih =>
    intro j hj
    simp only [zm_pc, ze_upd, va_up]
    rw [if_neg (by omega)]
    exact ih j (by omega)
theorem ze_pn {pol : Nat → Int32} (hp : ze_pb pol) : ∀ n, n ≤ 5 → zc_pn pol n = zm_pn pol n := by
  intro n
  induction n with
  | zero => intro _; rfl
  | succ n ih =>
    intro hn
    obtain ⟨m, h1, h2, e⟩ := hp n (by omega)
    have hs := ze_sooner m h1 h2
    rw [← e] at hs
    simp only [zc_pn, zm_pn]
    rw [ih (by omega), ze_pn_o pol n n (Nat.le_refl _), hs]
    rfl
theorem ze_pc {pol : Nat → Int32} (hp : ze_pb pol) : ∀ n, n ≤ 5 → zc_pc (nI (ze_mk f 5)) pol n = zm_pc f pol n := by
  intro n
  induction n with
  | zero => intro _; rfl
  | succ n ih =>
    intro hn
    obtain ⟨m, h1, h2, e⟩ := hp n (by omega)
    have hs := ze_later m h1 h2
    rw [← e] at hs
    have hh := ze_has f (show n < 5 by omega)
    have ho := ze_pc_o (f := f) pol n n (Nat.le_refl _)
    simp only [zc_pc, zm_pc]
    rw [ih (by omega), ho, hs]
    by_cases q : f n = 0
    · rw [if_pos (hh.mpr q), if_neg (fun z => z.1 q)]
      have h9 := va_up_id (zm_pc f pol n) n
      rw [ho] at h9
      exact h9.symm
    · rw [if_neg (fun z => q (hh.mp z))]
      by_cases w : pol n < 10
      · rw [if_pos w, if_pos ⟨q, w⟩]
        rfl
      · rw [if_neg w, if_neg (fun z => w z.2)]
        rfl
theorem ze_psl {pol : Nat → Int32} (hp : ze_pb pol) (s j : Int64) : zc_psl (nI (ze_mk f 5)) pol s j = zm_psl f pol s j := by
  unfold zc_psl zm_psl
  rw [ze_pn hp 5 (Nat.le_refl _), ze_pc hp 5 (Nat.le_refl _)]
end ZG
