/-! Both sides are equal: survivors -/
theorem zv_both {P Q c : Nat → Bool} : ∀ n, (∀ s, s < n → P s = true → c s = true) → (∀ s, s < n → Q s = true → c s = true) → (∀ s, s < n → ¬ (P s = true ∧ Q s = true)) → zv_cnt P n + zv_cnt Q n ≤ zv_cnt c n := by
  intro n
  induction n with
  | zero => intro _ _ _; exact Nat.le_refl _
  | succ n ih =>
    intro h1 h2 h3
    have h := ih (fun s hs => h1 s (by omega)) (fun s hs => h2 s (by omega)) (fun s hs => h3 s (by omega))
    have a1 := h1 n (by omega)
    have a2 := h2 n (by omega)
    have a3 := h3 n (by omega)
    simp only [zv_cnt]
    by_cases hp : P n = true
    · have hq : ¬ Q n = true := fun z => a3 ⟨hp, z⟩
      rw [if_pos hp, if_neg hq, if_pos (a1 hp)]
      omega
    · rw [if_neg hp]
      by_cases hq : Q n = true
      · rw [if_pos hq, if_pos (a2 hq)]
        omega
      · rw [if_neg hq]
        split <;> omega
theorem ze_wid {c : Nat → Bool} {F T : Nat → Int} {x y : Int} (hx : zv_most c F T x) (hy : zv_most c F T y) : ∃ s, s < 5 ∧ c s = true ∧ F s ≤ x ∧ x ≤ T s ∧ F s ≤ y ∧ y ≤ T s := by
  apply Classical.byContradiction
  intro hn
  have h := zv_both (P := zv_in c F T x) (Q := zv_in c F T y) (c := c) 5 (fun s _ z => (zv_in_iff.mp z).1) (fun s _ z => (zv_in_iff.mp z).1) (fun s hs z => hn ⟨s, hs, (zv_in_iff.mp z.1).1, (zv_in_iff.mp z.1).2.1, (zv_in_iff.mp z.1).2.2, (zv_in_iff.mp z.2).2.1, (zv_in_iff.mp z.2).2.2⟩)
  unfold zv_most at hx hy
  omega
theorem ze_sprp {f : Nat → Int32} {of : Nat → Int64} (hd : ∀ i j, i < 5 → j < 5 → ¬ f i = 0 → ¬ f j = 0 → -12884901888 ≤ (of i).toInt - (of j).toInt ∧ (of i).toInt - (of j).toInt ≤ 12884901888) {k : Nat} (hk : k < 5) (hf : ¬ f k = 0) : ∀ n : Nat, n ≤ 5 → 0 ≤ (zm_spr f of k n).toInt ∧ (zm_spr f of k n).toInt ≤ (n : Int) * 12884901888 := by
  have h0 : (0 : Int64).toInt = 0 := rfl
  intro n
  induction n with
  | zero =>
    intro _
    show 0 ≤ (0 : Int64).toInt ∧ (0 : Int64).toInt ≤ ((0 : Nat) : Int) * 12884901888
    rw [h0]
    omega
  | succ n ih =>
    intro hn
    obtain ⟨i1, i2⟩ := ih (by omega)
    simp only [zm_spr]
    by_cases q : f n = 0
    · rw [if_pos q, Int64.add_zero]
      omega
    · rw [if_neg q]
      obtain ⟨d1, d2⟩ := hd k n hk (by omega) hf q
      have e1 : (of k - of n).toInt = (of k).toInt - (of n).toInt := ze_sub (by omega)
      have e2 := ze_abs (x := of k - of n) (by omega)
      rw [e1] at e2
      have e3 : 0 ≤ (zn_abs (of k - of n)).toInt ∧ (zn_abs (of k - of n)).toInt ≤ 12884901888 := by
        rw [e2]
        split <;> omega
      rw [ze_add (by omega)]
      omega
abbrev ze_I (cf : Nat → Int32) (of df : Nat → Int64) (low high : Int64) (ins : Nat → Int32) : Nat → Int32 := zm_i0 (zm_fo (zm_mj cf of df 5)) cf of (zm_fl low (zm_mj cf of df 5)) (zm_fh high (zm_mj cf of df 5)) ins 5
abbrev ze_n (cf : Nat → Int32) (of df : Nat → Int64) (low high : Int64) : Nat := zm_ni (zm_fo (zm_mj cf of df 5)) cf of (zm_fl low (zm_mj cf of df 5)) (zm_fh high (zm_mj cf of df 5)) 5
abbrev ze_f (cf : Nat → Int32) (of df : Nat → Int64) (low high : Int64) (ins : Nat → Int32) : Nat → Int32 := zm_rmv of (ze_n cf of df low high - 3) (ze_I cf of df low high ins)
section ZS14
variable {cf : Nat → Int32} {of df vo vd : Nat → Int64} {low high : Int64} {ins : Nat → Int32}
theorem ze_iv {sm : Int32} {lo hi : Int64} {i : Nat} (h : ¬ zm_iv sm cf of lo hi i = 0) : ¬ sm = 0 ∧ ¬ cf i = 0 ∧ ¬ of i < lo ∧ ¬ hi < of i := by
  unfold zm_iv at h
  exact ze_if.mp h
theorem ze_Ic {i : Nat} (hi : i < 5) (h : ¬ ze_I cf of df low high ins i = 0) : ¬ cf i = 0 := by
  have h2 : ¬ zm_iv (zm_fo (zm_mj cf of df 5)) cf of (zm_fl low (zm_mj cf of df 5)) (zm_fh high (zm_mj cf of df 5)) i = 0 := by
    rw [← zm_i0_at _ _ _ _ _ ins 5 i hi]
    exact h
  exact (ze_iv h2).2.1
theorem ze_near (hb : ze_bd cf of df) {i j : Nat} (hi : i < 5) (hj : j < 5) (h1 : ¬ ze_I cf of df low high ins i = 0) (h2 : ¬ ze_I cf of df low high ins j = 0) : -12884901888 ≤ (of i).toInt - (of j).toInt ∧ (of i).toInt - (of j).toInt ≤ 12884901888 := by
  have g1 := zm_i0_at (zm_fo (zm_mj cf of df 5)) cf of (zm_fl low (zm_mj cf of df 5)) (zm_fh high (zm_mj cf of df 5)) ins 5 i hi
  have g2 := zm_i0_at (zm_fo (zm_mj cf of df 5)) cf of (zm_fl low (zm_mj cf of df 5)) (zm_fh high (zm_mj cf of df 5)) ins 5 j hj
  have k1 := ze_iv (fun z => h1 (g1.trans z))
  have k2 := ze_iv (fun z => h2 (g2.trans z))
  clear g1 g2 h1 h2
  have hs := ze_mj hb 5 (Nat.le_refl _)
  generalize zm_mj cf of df 5 = q at hs k1 k2
  cases q with
  | none => exact absurd rfl k1.1
  | some q =>
    obtain ⟨-, -, a1, a2⟩ := k1
    obtain ⟨-, -, b1, b2⟩ := k2
    have a1 : ¬ of i < q.1 := a1
    have a2 : ¬ q.2 < of i := a2
    have b1 : ¬ of j < q.1 := b1
    have b2 : ¬ q.2 < of j := b2
    rw [Int64.lt_iff_toInt_lt] at a1 a2 b1 b2
    obtain ⟨s1, s2, -⟩ := hs
    obtain ⟨t, t1, t2, t3, t4, t5, t6⟩ := ze_wid s1.choose_spec.2.2.2 s2.choose_spec.2.2.2
    obtain ⟨c1, c2, c3, c4⟩ := hb t t1 (ze_cbt t2)
    unfold ze_F at t3 t5
    unfold ze_T at t4 t6
    omega
theorem ze_hout (hb : ze_bd cf of df) (low high : Int64) (ins : Nat → Int32) : ∀ f : Nat → Int32, (∀ i, ¬ f i = 0 → ¬ ze_I cf of df low high ins i = 0) → 3 < zm_cn f 5 → ∃ b, (zm_ff f of 5).1 = some b := by
  intro f hf h3
  refine ze_ff_ex (fun i hi hz hlt => ?_) (by omega)
  have h := ze_sprp (f := f) (of := of) (fun a b ha hb2 za zb => ze_near (low := low) (high := high) (ins := ins) hb ha hb2 (hf a za) (hf b zb)) hi hz 5 (Nat.le_refl _)
  rw [Int64.lt_iff_toInt_lt] at hlt
  have h1 : (-1 : Int64).toInt = -1 := rfl
  omega
theorem ze_rmv_sub : ∀ (t : Nat) (f : Nat → Int32) (i : Nat), ¬ zm_rmv of t f i = 0 → ¬ f i = 0 := by
  intro t
  induction t with
  | zero => intro f i h; exact h
  | succ t ih => intro f i h; exact zm_s1_sub (ih (zm_s1 of f) i h)
theorem ze_fc {i : Nat} (hi : i < 5) (h : ¬ ze_f cf of df low high ins i = 0) : ¬ cf i = 0 := ze_Ic hi (ze_rmv_sub _ _ _ h)
theorem ze_rmv_cn {f0 : Nat → Int32} (hout : ∀ g : Nat → Int32, (∀ i, ¬ g i = 0 → ¬ f0 i = 0) → 3 < zm_cn g 5 → ∃ b, (zm_ff g of 5).1 = some b) : ∀ (t : Nat) (f : Nat → Int32), (∀ i, ¬ f i = 0 → ¬ f0 i = 0) → t ≤ zm_cn f 5 - 3 → zm_cn (zm_rmv of t f) 5 = zm_cn f 5 - t := by
  intro t
  induction t with
  | zero => intro f _ _; rfl
  | succ t ih =>
    intro f hf ht
    obtain ⟨b, hb⟩ := hout f hf (by omega)
    have h2 := zm_s1_cn hb (by omega)
    show zm_cn (zm_rmv of t (zm_s1 of f)) 5 = _
    rw [ih (zm_s1 of f) (fun i hz => hf i (zm_s1_sub hz)) (by omega), h2]
    omega
theorem ze_fcn (hb : ze_bd cf of df) : zm_cn (ze_f cf of df low high ins) 5 = zm_m3 (ze_n cf of df low high) := by
  have h1 : zm_cn (ze_I cf of df low high ins) 5 = ze_n cf of df low high := zm_ni_cn
  have h2 := ze_rmv_cn (of := of) (f0 := ze_I cf of df low high ins) (ze_hout hb low high ins) (ze_n cf of df low high - 3) (ze_I cf of df low high ins) (fun _ h => h) (by rw [h1]; exact Nat.le_refl _)
  show zm_cn (zm_rmv of (ze_n cf of df low high - 3) (ze_I cf of df low high ins)) 5 = _
  rw [h2, h1]
  unfold zm_m3
  split <;> omega
theorem ze_mk0 {f : Nat → Int32} : nI (ze_mk f 5) = 0 ↔ zm_cn f 5 = 0 := by
  constructor
  · intro h
    have h1 := ze_bn f
    rw [h] at h1
    rw [← h1]
    decide +kernel
  · intro h
    have h2 : ∀ n, zm_cn f n = 0 → ze_mk f n = 0 := by
      intro n
      induction n with
      | zero => intro _; rfl
      | succ n ih =>
        intro h
        simp only [zm_cn] at h
        simp only [ze_mk]
        by_cases q : f n = 0
        · rw [if_pos q] at h ⊢
          exact ih h
        · rw [if_neg q] at h
          omega
    rw [h2 5 h]
    rfl
theorem ze_fin (hb : ze_bd cf of df) (ho : ∀ i, i < 5 → ¬ cf i = 0 → vo i = of i ∧ vd i = df i) (low high : Int64) (ins : Nat → Int32) : zv_fin (nI (ze_mk cf 5)) (zv_lo (nI (ze_mk cf 5)) vo vd 5) (zv_hi (nI (ze_mk cf 5)) vo vd 5) vo = nI (ze_mk (ze_f cf of df low high ins) 5) := by
  have hl := ze_lh hb ho
  have hout := ze_hout hb low high ins
  have hcn : zm_cn (ze_I cf of df low high ins) 5 = ze_n cf of df low high := zm_ni_cn
  have hat := zm_i0_at (zm_fo (zm_mj cf of df 5)) cf of (zm_fl low (zm_mj cf of df 5)) (zm_fh high (zm_mj cf of df 5)) ins 5
  have hIc : ∀ i, i < 5 → ¬ ze_I cf of df low high ins i = 0 → vo i = of i := fun i hi hz => (ho i hi (ze_Ic hi hz)).1
  have key : zv_sv (nI (ze_mk cf 5)) (zv_lo (nI (ze_mk cf 5)) vo vd 5) (zv_hi (nI (ze_mk cf 5)) vo vd 5) vo 5 = nI (ze_mk (ze_I cf of df low high ins) 5) := by
    rw [ze_mk_congr 5 hat]
    clear hout hcn hat hIc
    generalize zm_mj cf of df 5 = q at hl ⊢
    cases q with
    | none =>
      have hl : zv_maj (zv_lo (nI (ze_mk cf 5)) vo vd 5) (zv_hi (nI (ze_mk cf 5)) vo vd 5) = 0 := hl
      have hlt : zv_hi (nI (ze_mk cf 5)) vo vd 5 < zv_lo (nI (ze_mk cf 5)) vo vd 5 := by
        apply Classical.byContradiction
        intro z
        have : zv_maj (zv_lo (nI (ze_mk cf 5)) vo vd 5) (zv_hi (nI (ze_mk cf 5)) vo vd 5) = 1 := if_neg z
        rw [this] at hl
        exact absurd hl (by decide)
      rw [ze_sv0 hlt]
      have h0 : ze_mk (zm_iv (zm_fo none) cf of (zm_fl low none) (zm_fh high none)) 5 = ze_mk (fun _ => 0) 5 := ze_mk_congr 5 (fun i _ => by
        show zm_iv 0 cf of low high i = 0
        unfold zm_iv
        rw [if_neg (fun z => z.1 rfl)])
      rw [h0]
      decide +kernel
    | some q =>
      obtain ⟨e1, e2, -⟩ := hl
      rw [e1, e2]
      exact ze_sv (sm := zm_fo (some q)) (fun i hi hz => (ho i hi hz).1) (show ¬ (1 : Int32) = 0 by decide) 5 (Nat.le_refl _)
  unfold zv_fin
  rw [key, ze_bn, hcn]
  exact ze_rm (f0 := ze_I cf of df low high ins) hIc hout _ _ (fun _ h => h) (by rw [hcn]; exact Nat.le_refl _)
theorem ze_agr (hb : ze_bd cf of df) (ho : ∀ i, i < 5 → ¬ cf i = 0 → vo i = of i ∧ vd i = df i) (low high : Int64) : zv_agr (zv_lo (nI (ze_mk cf 5)) vo vd 5) (zv_hi (nI (ze_mk cf 5)) vo vd 5) (zv_fin (nI (ze_mk cf 5)) (zv_lo (nI (ze_mk cf 5)) vo vd 5) (zv_hi (nI (ze_mk cf 5)) vo vd 5) vo) = 0 ↔ zm_m3 (ze_n cf of df low high) = 0 := by
  have hl := ze_lh hb ho
  have hf := ze_fin hb ho low high (fun _ => 0)
  have hcn := ze_fcn (low := low) (high := high) (ins := fun _ => 0) hb
  have h0 := ze_mk0 (f := ze_f cf of df low high (fun _ => 0))
  rw [hcn, ← hf] at h0
  have hn : zm_mj cf of df 5 = none → zm_m3 (ze_n cf of df low high) = 0 := by
    intro z
    unfold ze_n
    rw [z, zm_ni_iv]
    rw [zm_cn_congr 5 (g := fun _ => 0) (fun i _ => by
      show zm_iv 0 cf of low high i = 0
      unfold zm_iv
      rw [if_neg (fun z => z.1 rfl)])]
    decide
  have ha : (¬ zv_agr (zv_lo (nI (ze_mk cf 5)) vo vd 5) (zv_hi (nI (ze_mk cf 5)) vo vd 5) (zv_fin (nI (ze_mk cf 5)) (zv_lo (nI (ze_mk cf 5)) vo vd 5) (zv_hi (nI (ze_mk cf 5)) vo vd 5) vo) = 0) ↔ (¬ (zv_maj (zv_lo (nI (ze_mk cf 5)) vo vd 5) (zv_hi (nI (ze_mk cf 5)) vo vd 5) = 0) ∧ ¬ (zv_fin (nI (ze_mk cf 5)) (zv_lo (nI (ze_mk cf 5)) vo vd 5) (zv_hi (nI (ze_mk cf 5)) vo vd 5) vo = 0)) := by
    unfold zv_agr
    exact ze_if
  constructor
  · intro h
    apply Classical.byContradiction
    intro z
    refine (ha.mpr ⟨fun y => ?_, fun y => z (h0.mp y)⟩) h
    cases hm : zm_mj cf of df 5 with
    | none => exact z (hn hm)
    | some q =>
      rw [hm] at hl
      exact hl.2.2 y
  · intro h
    apply Classical.byContradiction
    intro z
    exact (ha.mp z).2 (h0.mpr h)
theorem ze_pex {f str : Nat → Int32} (h : 0 < zm_cn f 5) : ∃ b, b < 5 ∧ ¬ f b = 0 ∧ zm_pe f str df 5 = some b := by
  have hb := ze_pe (f := f) (str := str) (df := df) 5 (Nat.le_refl _)
  cases hc : zm_pe f str df 5 with
  | none =>
    rw [hc] at hb
    have := ze_cn0 5 (fun i hi => hb i (by omega) hi)
    omega
  | some b =>
    rw [hc] at hb
    exact ⟨b, hb.2.1, hb.2.2.1, rfl⟩
end ZS14
