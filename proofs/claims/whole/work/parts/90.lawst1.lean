/-! The law's start: what the tables give -/
theorem zl_arr {s : State} {args : Array Value} {ty : FieldType} (h : (Cond.arrayClass ty).before args s = true) (hn : ∀ C, ty ≠ .object C) : ∃ cA, ArrOfT s cA ty ∧ va_RA s cA ty := by
  obtain ⟨cA, kA, comp, h1, h2, h3⟩ := Cond.arrayClass_spec h
  refine ⟨cA, fun n z => ⟨fun k h => (by cases h), kA, h2, comp, h3⟩, ?_⟩
  cases ty with
  | object C => exact absurd rfl (hn C)
  | _ => exact h1
theorem zl_arq {s : State} {C : String} (h : va_AO C s) : ∃ cA, ArrOfT s cA (.object C) ∧ va_RA s cA (.object C) := by
  obtain ⟨comp, c, k, h1, h2, h3, h4, h5⟩ := Cond.arrayOver_spec h
  exact ⟨c, fun n z => ⟨fun k h => (by cases h), k, h3, comp, h4⟩, k, comp, h3, h4, h1, h5⟩
theorem zl_K0 {s : State} {args : Array Value} (hts : ∀ w ∈ lw_tbl, w.before args s = true) : ∃ (dC : Nat → ClassId) (dI : Nat → Nat → Nat) (cJ cI cB cZ cS : ClassId), va_K (dC, dI) vcl (zz_T cJ cI cB cZ cS) s := by
  obtain ⟨c0, i0, k0⟩ := u_known (C := RP) (T := TP) (N := 1) hts zi_P (hts _ tw_25)
  obtain ⟨c1, i1, k1⟩ := u_known (C := RS) (T := TS) (N := 12) hts zi_S (hts _ tw_37)
  obtain ⟨c2, i2, k2⟩ := u_known (C := RV) (T := TV) (N := 6) hts zi_V (hts _ tw_91)
  obtain ⟨c3, i3, k3⟩ := u_known (C := RC) (T := TC) (N := 6) hts zi_C (hts _ tw_17)
  obtain ⟨c4, i4, k4⟩ := u_known (C := RM) (T := TM) (N := 20) hts zi_M (hts _ tw_612)
  obtain ⟨cJ, aJ⟩ := zl_arr (hts _ tw_89) (fun C h => by cases h)
  obtain ⟨cI, aI⟩ := zl_arr (hts _ tw_678) (fun C h => by cases h)
  obtain ⟨cB, aB⟩ := zl_arr (hts _ tw_34) (fun C h => by cases h)
  obtain ⟨cZ, aZ⟩ := zl_arr (hts _ tw_679) (fun C h => by cases h)
  obtain ⟨cS, aS⟩ := zl_arq (va_AO.of (hts _ tw_36))
  refine ⟨fun k => match k with
    | 0 => c0
    | 1 => c1
    | 2 => c2
    | 3 => c3
    | _ => c4, fun k => match k with
    | 0 => i0
    | 1 => i1
    | 2 => i2
    | 3 => i3
    | _ => i4, cJ, cI, cB, cZ, cS, fun c q h => ?_, fun k q h => ?_⟩
  · match c, h with
    | 0, h => cases h; exact k0
    | 1, h => cases h; exact k1
    | 2, h => cases h; exact k2
    | 3, h => cases h; exact k3
    | 4, h => cases h; exact k4
    | c + 5, h => cases h
  · match k, h with
    | 0, h => cases h; exact aJ
    | 1, h => cases h; exact aI
    | 2, h => cases h; exact aB
    | 3, h => cases h; exact aZ
    | 4, h => cases h; exact aS
    | k + 5, h => cases h
theorem zl_C0 {s : State} {args : Array Value} (h : (Jvm.Cond.and given_1 narrow_1).before args s = true) : zy_C s := by
  have hs := flat_of_before _ h
  exact ⟨va_Nc.of (args := args) (hs _ (by decide +kernel)), va_Nc.of (args := args) (hs _ (by decide +kernel)), va_Nc.of (args := args) (hs _ (by decide +kernel)), va_Nc.of (args := args) (hs _ (by decide +kernel)), va_Nc.of (args := args) (hs _ (by decide +kernel)), va_Nc.of (args := args) (hs _ (by decide +kernel))⟩
theorem zl_Z0 {s : State} {args : Array Value} (hts : ∀ w ∈ lw_tbl, w.before args s = true) (h : (Jvm.Cond.and given_1 narrow_1).before args s = true) : zx_Z (fun q => s.heap.size ≤ q) s s.heap := by
  have hs := flat_of_before _ h
  exact ⟨vx_Zqof (args := args) (hts _ tw_267) (hts _ tw_6) (hs _ (by decide +kernel)) (fun a h1 h2 => by omega), vx_Zqof (args := args) (hts _ tw_269) (hts _ tw_6) (hs _ (by decide +kernel)) (fun a h1 h2 => by omega)⟩
