/-! What holds between the calls -/
def zj_S (i : Nat) (loc : Int64) (nn : Nat → Nat) (off del arr : Nat → Nat → Int64) (offm delm cam : Nat → Int64) : Prop := ∀ k j, k < 5 → j < nn k → (offm (8 * k + j) = off k j ∧ delm (8 * k + j) = del k j ∧ cam (8 * k + j) = arr k j) ∧ (-1152921504606846976 ≤ (off k j).toInt ∧ (off k j).toInt ≤ 1152921504606846976) ∧ (4096 ≤ (del k j).toInt ∧ (del k j).toInt ≤ 1152921504606846976) ∧ 0 ≤ loc.toInt - (arr k j).toInt ∧ loc.toInt - (arr k j).toInt ≤ (i : Int) * 4398046511104
def zj_L (i : Nat) (wst : Int32) (loc : Int64) : Prop := (wst = 0 → -((i : Int) * 4398046511104) ≤ loc.toInt ∧ loc.toInt ≤ (i : Int) * 4398046511104) ∧ -6917529027641081856 - (i : Int) * 4398046511104 ≤ loc.toInt ∧ loc.toInt ≤ 6917529027641081856 + (i : Int) * 4398046511104
def zj_D (rdl rds : Nat → Int64) : Prop := ∀ k, k < 5 → (0 ≤ (rdl k).toInt ∧ (rdl k).toInt ≤ 281474976710656) ∧ 0 ≤ (rds k).toInt ∧ (rds k).toInt ≤ 281474976710656
def zj_C (rch : Nat → Int32) : Prop := ∀ k, k < 5 → ∃ m, m < 256 ∧ rch k = nI m
def zl_I (i : Nat) (rch pol : Nat → Int32) (rdl rds : Nat → Int64) (nn : Nat → Nat) (off del arr : Nat → Nat → Int64) (offm delm cam : Nat → Int64) (row pk : Nat → Int32) (loc : Int64) (wst : Int32) : Prop :=
  (∀ k, nn k ≤ 8) ∧ ze_P row pk ∧ ze_pb pol ∧ zj_C rch ∧ zj_S i loc nn off del arr offm delm cam ∧ zj_D rdl rds ∧ zj_L i wst loc
theorem ze_dv {x c : Int64} (h : 0 ≤ x.toInt) (hc : 0 < c.toInt) : (x / c).toInt = x.toInt / c.toInt := by
  have hne : c ≠ -1 := by
    intro z
    rw [z] at hc
    exact absurd hc (by decide)
  rw [Int64.toInt_div_of_ne_right x c hne, Int.tdiv_eq_ediv_of_nonneg h]
section ZI1
variable {i : Nat} {loc : Int64} {nn : Nat → Nat} {off del arr : Nat → Nat → Int64} {offm delm cam : Nat → Int64} {rch den : Nat → Int32} {rdl rds : Nat → Int64} {wst : Int32}
theorem zj_S.R (h9 : i ≤ 600) (S : zj_S i loc nn off del arr offm delm cam) : ∀ k, k < 5 → ze_R offm delm cam off del arr loc nn k := by
  intro k hk j hj
  obtain ⟨⟨a1, a2, a3⟩, -, -, b1, b2⟩ := S k j hk hj
  refine ⟨a1, a2, a3, ?_⟩
  have h0 : (0 : Int64).toInt = 0 := rfl
  rw [Int64.lt_iff_toInt_lt, ze_sub (by omega), h0]
  omega
theorem zj_S.move {loc' : Int64} (S : zj_S i loc nn off del arr offm delm cam) (h1 : loc.toInt ≤ loc'.toInt) (h2 : loc'.toInt ≤ loc.toInt + 4398046511104) : zj_S (i + 1) loc' nn off del arr offm delm cam := by
  intro k j hk hj
  obtain ⟨a, b, c, d1, d2⟩ := S k j hk hj
  exact ⟨a, b, c, by omega, by omega⟩
theorem zj_S.next (S : zj_S i loc nn off del arr offm delm cam) : zj_S (i + 1) loc nn off del arr offm delm cam := S.move (Int.le_refl _) (by omega)
theorem zj_L.next (h : zj_L i wst loc) : zj_L (i + 1) wst loc := by
  obtain ⟨h1, h2, h3⟩ := h
  refine ⟨fun z => ?_, by omega, by omega⟩
  have := h1 z
  omega
theorem zj_far (S : zj_S i loc nn off del arr offm delm cam) {k : Nat} (hk : k < 5) {own : Int64} (ho : -1152921504606846976 ≤ own.toInt ∧ own.toInt ≤ 1152921504606846976) : ∀ n, n ≤ nn k → 0 ≤ (zm_far offm own (8 * k) n).toInt ∧ (zm_far offm own (8 * k) n).toInt ≤ 2305843009213693952 := by
  intro n
  induction n with
  | zero =>
    intro _
    show 0 ≤ (0 : Int64).toInt ∧ (0 : Int64).toInt ≤ 2305843009213693952
    decide
  | succ n ih =>
    intro hn
    have hi := ih (by omega)
    obtain ⟨⟨a1, -, -⟩, b, -, -⟩ := S k n hk (by omega)
    simp only [zm_far]
    rw [a1]
    have e1 : (off k n - own).toInt = (off k n).toInt - own.toInt := ze_sub (by omega)
    have e2 := ze_abs (x := off k n - own) (by omega)
    rw [e1] at e2
    by_cases q : zm_far offm own (8 * k) n < zn_abs (off k n - own)
    · rw [if_pos q, e2]
      split <;> omega
    · rw [if_neg q]
      exact hi
theorem zj_bd (h9 : i ≤ 600) (S : zj_S i loc nn off del arr offm delm cam) (D : zj_D rdl rds) : ze_bd (zm_c den rch rdl rds offm delm cam loc nn) (zm_o offm delm cam loc nn) (zm_d rdl rds offm delm cam loc nn) := by
  intro k hk hc
  have R := S.R h9 k hk
  unfold zm_c at hc
  obtain ⟨-, h0, hlt⟩ := ze_if.mp hc
  have hat := ze_at (k := k) (del := del) (arr := arr) (loc := loc) h0
  obtain ⟨⟨a1, a2, a3⟩, b, d, e1, e2⟩ := S k _ hk hat
  obtain ⟨r1, r2⟩ := D k hk
  have eo := ze_o R h0
  have h6 : (6442450944 : Int64).toInt = 6442450944 := rfl
  have hj := zj_far S hk (own := zm_o offm delm cam loc nn k) (by rw [eo]; exact b) (nn k) (Nat.le_refl _)
  rw [Int64.lt_iff_toInt_lt, h6] at hlt
  refine ⟨by rw [eo]; exact b.1, by rw [eo]; exact b.2, ?_, by omega⟩
  have t2 : (2 : Int64).toInt = 2 := rfl
  have t6 : (65536 : Int64).toInt = 65536 := rfl
  have f1 := ze_dv (x := rdl k) (c := 2) r1.1 (by decide)
  have f2 := ze_dv (x := del k (zs_at (del k) (arr k) loc (nn k))) (c := 2) (by omega) (by decide)
  have f3 : (loc - arr k (zs_at (del k) (arr k) loc (nn k))).toInt = loc.toInt - (arr k (zs_at (del k) (arr k) loc (nn k))).toInt := ze_sub (by omega)
  have f4 := ze_dv (x := loc - arr k (zs_at (del k) (arr k) loc (nn k))) (c := 65536) (by omega) (by decide)
  rw [t2] at f1 f2
  rw [t6, f3] at f4
  unfold zm_d zm_dsp
  show 0 ≤ (_ + zm_far offm (zm_o offm delm cam loc nn k) (8 * k) (nn k)).toInt
  rw [ze_b R, a2, a3]
  generalize zm_far offm (zm_o offm delm cam loc nn k) (8 * k) (nn k) = jj at hj ⊢
  generalize rdl k / 2 = x1 at f1 ⊢
  generalize del k (zs_at (del k) (arr k) loc (nn k)) / 2 = x2 at f2 ⊢
  generalize (loc - arr k (zs_at (del k) (arr k) loc (nn k))) / 65536 = x4 at f4 ⊢
  have g1 : (x1 + x2).toInt = x1.toInt + x2.toInt := ze_add (by omega)
  have g2 : (x1 + x2 + rds k).toInt = (x1 + x2).toInt + (rds k).toInt := ze_add (by omega)
  have g3 : (65536 + x4).toInt = (65536 : Int64).toInt + x4.toInt := ze_add (by omega)
  have g4 : (x1 + x2 + rds k + (65536 + x4)).toInt = (x1 + x2 + rds k).toInt + (65536 + x4).toInt := ze_add (by omega)
  have g5 : (x1 + x2 + rds k + (65536 + x4) + jj).toInt = (x1 + x2 + rds k + (65536 + x4)).toInt + jj.toInt := ze_add (by omega)
  rw [g5, g4, g3, g2, g1]
  omega
theorem zj_ho (h9 : i ≤ 600) (S : zj_S i loc nn off del arr offm delm cam) (vo vd : Nat → Int64) : ∀ k, k < 5 → ¬ zm_c den rch rdl rds offm delm cam loc nn k = 0 → zv_vo den rch nn off del arr loc vo 5 k = zm_o offm delm cam loc nn k ∧ zv_vd den rch nn rdl rds off del arr loc vd 5 k = zm_d rdl rds offm delm cam loc nn k := by
  intro k hk hc
  have R := S.R h9
  have hok := ((ze_c R hk).mp hc).1
  have h0 : 0 < nn k := by
    have := hok.2.2
    omega
  rw [ze_vo vo 5 k hk hok, ze_vd vd 5 k hk hok, ze_o (R k hk) h0, ze_d (R k hk) h0]
  exact ⟨rfl, rfl⟩
theorem zj_run (h9 : i ≤ 600) {x slw : Int64} (S : zj_S i loc nn off del arr offm delm cam) (hL : zj_L i wst loc) (h0 : ¬ x < 0) (h1 : ¬ 1099511627776 < x) : zj_S (i + 1) (zm_rl x loc slw) nn off del arr offm delm cam ∧ zj_L (i + 1) wst (zm_rl x loc slw) := by
  have z0 : (0 : Int64).toInt = 0 := rfl
  have z1 : (1099511627776 : Int64).toInt = 1099511627776 := rfl
  have z2 : (2048 : Int64).toInt = 2048 := rfl
  rw [Int64.lt_iff_toInt_lt] at h0 h1
  have hd := ze_dv (x := x) (c := 2048) (by omega) (by decide)
  rw [z2] at hd
  have hp : -(x / 2048).toInt ≤ (zm_prt (x / 2048) slw).toInt ∧ (zm_prt (x / 2048) slw).toInt ≤ (x / 2048).toInt := by
    unfold zm_prt
    have hneg : (-(x / 2048)).toInt = -(x / 2048).toInt := by
      rw [Int64.toInt_neg]
      rw [Int.bmod_eq_of_le] <;> omega
    by_cases q : x / 2048 < slw
    · rw [if_pos q]
      omega
    · rw [if_neg q]
      by_cases w : slw < -(x / 2048)
      · rw [if_pos w, hneg]
        omega
      · rw [if_neg w]
        rw [Int64.lt_iff_toInt_lt] at q w
        rw [hneg] at w
        omega
  obtain ⟨l1, l2, l3⟩ := hL
  have e1 : (loc + x).toInt = loc.toInt + x.toInt := ze_add (by omega)
  have e2 : (loc + x + zm_prt (x / 2048) slw).toInt = (loc + x).toInt + (zm_prt (x / 2048) slw).toInt := ze_add (by omega)
  have e3 : zm_rl x loc slw = loc + x + zm_prt (x / 2048) slw := by
    unfold zm_rl
    rw [if_neg]
    rw [Int64.lt_iff_toInt_lt, Int64.lt_iff_toInt_lt]
    omega
  rw [e3]
  refine ⟨S.move (by omega) (by omega), fun z => ?_, by omega, by omega⟩
  have := l1 z
  omega
theorem zj_none {loc' : Int64} (h : ∀ k, k < 5 → nn k = 0) : zj_S i loc' nn off del arr offm delm cam := by
  intro k j hk hj
  rw [h k hk] at hj
  omega
end ZI1
