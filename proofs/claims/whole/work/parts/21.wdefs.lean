/-! What writing methods leave -/
theorem zm_upn {nn : Nat → Nat} {k v : Nat} : upd (fun j => nI (nn j)) k (nI v) = fun j => nI (va_up nn k v j) := by
  funext j
  unfold upd va_up
  by_cases h : j = k
  · rw [if_pos h, if_pos h]
  · rw [if_neg h, if_neg h]
def zs_r2 (r : Int32) : Int32 := (r * 2) - (r * 2) / 256 * 256
def zs_od (den : Int32) (cd : Int64) : Int32 := if cd = 1145392729 ∨ cd = 1381192786 then 1 else den
def zs_op (pol : Int32) (cd : Int64) : Int32 := if ¬ (cd = 1145392729 ∨ cd = 1381192786) ∧ cd = 1380013125 then zn_mini 10 (pol + 1) else pol
def zs_c8 (n : Nat) : Nat := if n < 8 then n + 1 else 8
theorem zs_c8_le (n : Nat) : 1 ≤ zs_c8 n ∧ zs_c8 n ≤ 8 := by
  unfold zs_c8
  by_cases h : n < 8
  · rw [if_pos h]
    omega
  · rw [if_neg h]
    omega
theorem zs_c8_eq {n : Nat} (hn : n ≤ 8) : zn_mini 8 ((nI n) + 1) = nI (zs_c8 n) := by
  rw [← nI_succ]
  unfold zn_mini zs_c8
  by_cases h : n < 8
  · rw [if_pos h]
    by_cases h2 : n + 1 = 8
    · rw [if_neg]
      · rw [h2]
        rfl
      · rw [h2]
        decide
    · rw [if_pos]
      exact (nI_ltI (b := 8) (by omega) (by omega)).mpr (by omega)
  · rw [if_neg h, if_neg]
    · rfl
    · intro q
      have := (nI_ltI (b := 8) (by omega) (by omega)).mp q
      omega
def zs_sft (f : Nat → Int64) (hi i : Nat) : Nat → Int64 := fun j => if i < j ∧ j ≤ hi then f (j - 1) else f j
theorem zs_sft_0 (f : Nat → Int64) (hi : Nat) : zs_sft f hi hi = f := by
  funext j
  unfold zs_sft
  rw [if_neg]
  omega
theorem zs_sft_s (f : Nat → Int64) {hi i : Nat} (h : i + 1 ≤ hi) : zs_sft f hi i = vp_updL (zs_sft f hi (i + 1)) (i + 1) ((zs_sft f hi (i + 1)) i) := by
  funext j
  unfold vp_updL zs_sft
  by_cases hj : j = i + 1
  · subst hj
    rw [if_pos rfl, if_pos (by omega), if_neg (by omega)]
    rfl
  · rw [if_neg hj]
    by_cases h2 : i < j ∧ j ≤ hi
    · rw [if_pos h2, if_pos (by omega)]
    · rw [if_neg h2, if_neg (by omega)]
def zs_push (f : Nat → Int64) (n : Nat) (x : Int64) : Nat → Int64 := vp_updL (zs_sft f (zs_c8 n - 1) 0) 0 x
def zp_by (x : Int64) (n i : Nat) : Int32 := (Int32.toInt8 (Int64.toInt32 (x >>> (Int32.toInt64 (8 * (((nI n) - 1) - (nI i))) &&& 63)))).toInt32
def zp_wr (row : Nat → Int32) (u : Nat) (x : Int64) (n : Nat) : Nat → (Nat → Int32)
  | 0 => row
  | i + 1 => upd (zp_wr row u x n i) (u + i) (zp_by x n i)
def zv_lo (cand : Int32) (vo vd : Nat → Int64) : Nat → Int64
  | 0 => 4611686018427387904
  | i + 1 => if zv_has cand (nI i) = 0 then zv_lo cand vo vd i else if zv_inm cand vo vd (vo i - vd i) = 0 then zv_lo cand vo vd i else zn_min (zv_lo cand vo vd i) (vo i - vd i)
def zv_hi (cand : Int32) (vo vd : Nat → Int64) : Nat → Int64
  | 0 => -4611686018427387904
  | i + 1 => if zv_has cand (nI i) = 0 then zv_hi cand vo vd i else if zv_inm cand vo vd (vo i + vd i) = 0 then zv_hi cand vo vd i else zn_max (zv_hi cand vo vd i) (vo i + vd i)
def zv_sv (cand : Int32) (low high : Int64) (vo : Nat → Int64) : Nat → Int32
  | 0 => 0
  | i + 1 => if ¬ (zv_has cand (nI i) = 0) ∧ ¬ (vo i < low) ∧ ¬ (high < vo i) then zv_sv cand low high vo i ||| (1 <<< ((nI i) &&& 31)) else zv_sv cand low high vo i
def zv_bn (x : Int32) : Nat := (zn_bc x).toNatClampNeg
theorem zv_bc_nat (x : Int32) : zn_bc x = nI (zv_bn x) ∧ zv_bn x < 64 := by
  obtain ⟨j, hj, he⟩ := pk_andE (let a := x - ((Int32.toUInt32 x >>> (Int32.toUInt32 1 &&& Int32.toUInt32 31)).toInt32 &&& 1431655765)
    let b := (a &&& 858993459) + ((Int32.toUInt32 a >>> (Int32.toUInt32 2 &&& Int32.toUInt32 31)).toInt32 &&& 858993459)
    let c := (b + (Int32.toUInt32 b >>> (Int32.toUInt32 4 &&& Int32.toUInt32 31)).toInt32) &&& 252645135
    let d := c + (Int32.toUInt32 c >>> (Int32.toUInt32 8 &&& Int32.toUInt32 31)).toInt32
    d + (Int32.toUInt32 d >>> (Int32.toUInt32 16 &&& Int32.toUInt32 31)).toInt32) (m := 63) 6 rfl
  have h : zn_bc x = nI j := he
  have hb : zv_bn x = j := by
    unfold zv_bn
    rw [h]
    exact nI_clamp (by omega)
  rw [hb]
  exact ⟨h, hj⟩
def zv_st1 (vo : Nat → Int64) (x : Int32) : Int32 := x &&& ((1 <<< ((nI (zv_ff x vo 5).1) &&& 31)) ^^^ (-1))
def zv_rm (vo : Nat → Int64) : Nat → Int32 → Int32
  | 0, x => x
  | t + 1, x => zv_rm vo t (zv_st1 vo x)
def zv_fin (cand : Int32) (low high : Int64) (vo : Nat → Int64) : Int32 := zv_rm vo (zv_bn (zv_sv cand low high vo 5) - 3) (zv_sv cand low high vo 5)
def zv_ok (den rch : Nat → Int32) (nn : Nat → Nat) (i : Nat) : Prop := den i = 0 ∧ ¬ (rch i = 0) ∧ ¬ (nn i = 0)
def zv_ro (rdl rds : Nat → Int64) (off del arr : Nat → Nat → Int64) (now : Int64) (nn : Nat → Nat) (i : Nat) : Int64 := zs_root (rdl i) (rds i) (off i) (del i) (arr i) now (nn i)
def zv_of (off del arr : Nat → Nat → Int64) (now : Int64) (nn : Nat → Nat) (i : Nat) : Int64 := off i (zs_at (del i) (arr i) now (nn i))
noncomputable section
def zv_vo (den rch : Nat → Int32) (nn : Nat → Nat) (off del arr : Nat → Nat → Int64) (now : Int64) (vo : Nat → Int64) : Nat → (Nat → Int64)
  | 0 => vo
  | i + 1 => @ite _ (zv_ok den rch nn i) (Classical.propDecidable _) (vp_updL (zv_vo den rch nn off del arr now vo i) i (zv_of off del arr now nn i)) (zv_vo den rch nn off del arr now vo i)
def zv_vd (den rch : Nat → Int32) (nn : Nat → Nat) (rdl rds : Nat → Int64) (off del arr : Nat → Nat → Int64) (now : Int64) (vd : Nat → Int64) : Nat → (Nat → Int64)
  | 0 => vd
  | i + 1 => @ite _ (zv_ok den rch nn i) (Classical.propDecidable _) (vp_updL (zv_vd den rch nn rdl rds off del arr now vd i) i (zv_ro rdl rds off del arr now nn i)) (zv_vd den rch nn rdl rds off del arr now vd i)
def zv_cd (den rch : Nat → Int32) (nn : Nat → Nat) (rdl rds : Nat → Int64) (off del arr : Nat → Nat → Int64) (now : Int64) : Nat → Int32
  | 0 => 0
  | i + 1 => @ite _ (zv_ok den rch nn i ∧ zv_ro rdl rds off del arr now nn i < 6442450944) (Classical.propDecidable _) (zv_cd den rch nn rdl rds off del arr now i ||| (1 <<< ((nI i) &&& 31))) (zv_cd den rch nn rdl rds off del arr now i)
end
