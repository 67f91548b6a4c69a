/-! Readings of the model -/
set_option maxHeartbeats 4000000 in
set_option maxRecDepth 100000 in
theorem ct_M_size (l : Launch) {x : Int64} : Met l yM_size [Cond.code yM_size cM_size 2 (some .long)] { frames := 0, cells := 0, slots := 0, locals := 0 } (va_Pc [.long x] zt_TB) (zz_Q (.long (zn_abs x))) 0 0 (fun _ => False) := by
  refine Met.ofW (cc := cM_size) (maxL := 2) (ret := (some .long)) (by decide) rfl ?_
  intro p e s m args below meth c s₁ B hml hv
  obtain ⟨rfl, hT⟩ := hv
  have hx := B.exec
  have hb := B.bytes
  have hr := B.returns
  have hlocks := B.notSynchronized
  have hown : s.vm.findClass RM = some m.cls := findClass_of_methodNamed B.named
  have hl := lv_entry ([.long x]) (n := 2) (Nat.le_of_ble_eq_true rfl)
  rw [lg_entry_eq]
  generalize (lg_sl ([.long x]) ++ List.replicate (2 - (lg_sl ([.long x])).length) Slot.unset).toArray = ls at hl ⊢
  have hl : lv_has ls 2 [(0, .long x)] := hl
  refine lv_lload_n hx hb dM_size_0 rfl (lv_at hl 0 rfl) ?_
  refine lv_lconst (v := 0) hx hb dM_size_1 (by decide) ?_
  refine zz_lge (tgt := 11) hx hb dM_size_2 dM_size_3 (by decide) (fun h1 => ?_) (fun h1 => ?_)
  · refine lv_lload_n hx hb dM_size_11 rfl (lv_at hl 0 rfl) ?_
    exact zz_lret hx hb hr hlocks dM_size_12 (by first | exact (if_pos h1).symm | exact (if_neg h1).symm)
  · refine lv_lload_n hx hb dM_size_6 rfl (lv_at hl 0 rfl) ?_
    refine lv_lneg hx hb dM_size_7 ?_
    refine lv_goto (tgt := 12) hx hb dM_size_8 (by decide) ?_
    exact zz_lret hx hb hr hlocks dM_size_12 (by first | exact (if_pos h1).symm | exact (if_neg h1).symm)
set_option maxHeartbeats 4000000 in
set_option maxRecDepth 100000 in
theorem ct_M_isServer (l : Launch) {x : Int32} : Met l yM_isServer [Cond.code yM_isServer cM_isServer 1 (some .boolean)] { frames := 0, cells := 0, slots := 0, locals := 0 } (va_Pc [.int x] zt_TB) (zz_Q (.int (zm_isv x))) 0 0 (fun _ => False) := by
  refine Met.ofW (cc := cM_isServer) (maxL := 1) (ret := (some .boolean)) (by decide) rfl ?_
  intro p e s m args below meth c s₁ B hml hv
  obtain ⟨rfl, hT⟩ := hv
  have hx := B.exec
  have hb := B.bytes
  have hr := B.returns
  have hlocks := B.notSynchronized
  have hown : s.vm.findClass RM = some m.cls := findClass_of_methodNamed B.named
  have hl := lv_entry ([.int x]) (n := 1) (Nat.le_of_ble_eq_true rfl)
  rw [lg_entry_eq]
  generalize (lg_sl ([.int x]) ++ List.replicate (1 - (lg_sl ([.int x])).length) Slot.unset).toArray = ls at hl ⊢
  have hl : lv_has ls 1 [(0, .int x)] := hl
  refine lv_iload_n hx hb dM_isServer_0 rfl (lv_at hl 0 rfl) ?_
  refine zz_zlt (tgt := 13) hx hb dM_isServer_1 (by decide) (fun h1 => ?_) (fun h1 => ?_)
  · refine lv_iconst (v := 0) hx hb dM_isServer_13 (by decide) ?_
    exact zz_bret hx hb hr hlocks dM_isServer_14 (by decide) (by unfold zm_isv; first | (rw [if_neg (fun q => q.1 h1)]; done) | (rw [if_neg (fun q => h2 q.2)]; done) | (rw [if_pos ⟨h1, h2⟩]; done))
  · refine lv_iload_n hx hb dM_isServer_4 rfl (lv_at hl 0 rfl) ?_
    refine lv_iconst (v := 5) hx hb dM_isServer_5 (by decide) ?_
    refine zz_ige (tgt := 13) hx hb dM_isServer_6 (by decide) (fun h2 => ?_) (fun h2 => ?_)
    · refine lv_iconst (v := 0) hx hb dM_isServer_13 (by decide) ?_
      exact zz_bret hx hb hr hlocks dM_isServer_14 (by decide) (by unfold zm_isv; first | (rw [if_neg (fun q => q.1 h1)]; done) | (rw [if_neg (fun q => h2 q.2)]; done) | (rw [if_pos ⟨h1, h2⟩]; done))
    · refine lv_iconst (v := 1) hx hb dM_isServer_9 (by decide) ?_
      refine lv_goto (tgt := 14) hx hb dM_isServer_10 (by decide) ?_
      exact zz_bret hx hb hr hlocks dM_isServer_14 (by decide) (by unfold zm_isv; first | (rw [if_neg (fun q => q.1 h1)]; done) | (rw [if_neg (fun q => h2 q.2)]; done) | (rw [if_pos ⟨h1, h2⟩]; done))
set_option maxHeartbeats 4000000 in
set_option maxRecDepth 100000 in
theorem ct_M_half (l : Launch) {x y : Int64} : Met l yM_half [Cond.code yM_half cM_half 4 (some .long)] { frames := 0, cells := 0, slots := 0, locals := 0 } (va_Pc [.long x, .long y] zt_TB) (zz_Q (.long (zm_half x y))) 0 0 (fun _ => False) := by
  refine Met.ofW (cc := cM_half) (maxL := 4) (ret := (some .long)) (by decide) rfl ?_
  intro p e s m args below meth c s₁ B hml hv
  obtain ⟨rfl, hT⟩ := hv
  have hx := B.exec
  have hb := B.bytes
  have hr := B.returns
  have hlocks := B.notSynchronized
  have hown : s.vm.findClass RM = some m.cls := findClass_of_methodNamed B.named
  have hl := lv_entry ([.long x, .long y]) (n := 4) (Nat.le_of_ble_eq_true rfl)
  rw [lg_entry_eq]
  generalize (lg_sl ([.long x, .long y]) ++ List.replicate (4 - (lg_sl ([.long x, .long y])).length) Slot.unset).toArray = ls at hl ⊢
  have hl : lv_has ls 4 [(0, .long x), (2, .long y)] := hl
  refine lv_lload_n hx hb dM_half_0 rfl (lv_at hl 0 rfl) ?_
  refine lv_iconst (v := 1) hx hb dM_half_1 (by decide) ?_
  refine lv_lshr (v := x >>> (Int32.toInt64 1 &&& 63)) hx hb dM_half_2 rfl ?_
  refine lv_lload_n hx hb dM_half_3 rfl (lv_at hl 1 rfl) ?_
  refine lv_iconst (v := 1) hx hb dM_half_4 (by decide) ?_
  refine lv_lshr (v := y >>> (Int32.toInt64 1 &&& 63)) hx hb dM_half_5 rfl ?_
  refine lv_ladd hx hb dM_half_6 ?_
  refine lv_lload_n hx hb dM_half_7 rfl (lv_at hl 0 rfl) ?_
  refine lv_lload_n hx hb dM_half_8 rfl (lv_at hl 1 rfl) ?_
  refine lv_land hx hb dM_half_9 ?_
  refine lv_lconst (v := 1) hx hb dM_half_10 (by decide) ?_
  refine lv_land hx hb dM_half_11 ?_
  refine lv_ladd hx hb dM_half_12 ?_
  exact zz_lret hx hb hr hlocks dM_half_13 (rfl)
set_option maxHeartbeats 4000000 in
set_option maxRecDepth 100000 in
theorem ct_C_halfOfSum (l : Launch) {x y : Int64} : Met l yC_halfOfSum [Cond.code yC_halfOfSum cC_halfOfSum 4 (some .long)] { frames := 0, cells := 0, slots := 0, locals := 0 } (va_Pc [.long x, .long y] zt_TB) (zz_Q (.long (zc_half x y))) 0 0 (fun _ => False) := by
  refine Met.ofW (cc := cC_halfOfSum) (maxL := 4) (ret := (some .long)) (by decide) rfl ?_
  intro p e s m args below meth c s₁ B hml hv
  obtain ⟨rfl, hT⟩ := hv
  have hx := B.exec
  have hb := B.bytes
  have hr := B.returns
  have hlocks := B.notSynchronized
  have hown : s.vm.findClass RC = some m.cls := findClass_of_methodNamed B.named
  have hl := lv_entry ([.long x, .long y]) (n := 4) (Nat.le_of_ble_eq_true rfl)
  rw [lg_entry_eq]
  generalize (lg_sl ([.long x, .long y]) ++ List.replicate (4 - (lg_sl ([.long x, .long y])).length) Slot.unset).toArray = ls at hl ⊢
  have hl : lv_has ls 4 [(0, .long x), (2, .long y)] := hl
  refine lv_lload_n hx hb dC_halfOfSum_0 rfl (lv_at hl 0 rfl) ?_
  refine lv_lload_n hx hb dC_halfOfSum_1 rfl (lv_at hl 1 rfl) ?_
  refine lv_land hx hb dC_halfOfSum_2 ?_
  refine lv_lload_n hx hb dC_halfOfSum_3 rfl (lv_at hl 0 rfl) ?_
  refine lv_lload_n hx hb dC_halfOfSum_4 rfl (lv_at hl 1 rfl) ?_
  refine lv_lxor hx hb dC_halfOfSum_5 ?_
  refine lv_iconst (v := 1) hx hb dC_halfOfSum_6 (by decide) ?_
  refine lv_lshr (v := (x ^^^ y) >>> (Int32.toInt64 1 &&& 63)) hx hb dC_halfOfSum_7 rfl ?_
  refine lv_ladd hx hb dC_halfOfSum_8 ?_
  exact zz_lret hx hb hr hlocks dC_halfOfSum_9 (rfl)
set_option maxHeartbeats 4000000 in
set_option maxRecDepth 100000 in
theorem ct_M_read (l : Launch) {dC : Nat → ClassId} {dI : Nat → Nat → Nat} {cJ cI cB cZ cS : ClassId} {o : Nat} {ad : Nat → Nat} {thr wst : Int32} {loc slw low high : Int64} {pk den rch pol ask str ins : Nat → Int32} {xp rdl rds off del cam : Nat → Int64} {nn : Nat → Nat} {u n : Nat} (hu : u + n ≤ 48) : Met l yM_read [Cond.code yM_read cM_read 6 (some .long)] { frames := 0, cells := 0, slots := 0, locals := 0 } (va_Pc [.ref o, .int (nI u), .int (nI n)] (zz_B (dC, dI) vcl (zz_T cJ cI cB cZ cS) (zm_W o ad cI cJ cZ thr loc slw wst pk den rch pol ask xp str rdl rds nn off del cam ins low high))) (zz_Q (.long (zm_rd pk u n))) 0 0 (fun _ => False) := by
  refine Met.ofW (cc := cM_read) (maxL := 6) (ret := (some .long)) (by decide) rfl ?_
  intro p e s m args below meth c s₁ B hml hv
  obtain ⟨rfl, hT, hP, hK⟩ := hv
  have hx := B.exec
  have hb := B.bytes
  have hr := B.returns
  have hlocks := B.notSynchronized
  have hown : s.vm.findClass RM = some m.cls := findClass_of_methodNamed B.named
  have hl := lv_entry ([.ref o, .int (nI u), .int (nI n)]) (n := 6) (Nat.le_of_ble_eq_true rfl)
  rw [lg_entry_eq]
  generalize (lg_sl ([.ref o, .int (nI u), .int (nI n)]) ++ List.replicate (6 - (lg_sl ([.ref o, .int (nI u), .int (nI n)])).length) Slot.unset).toArray = ls at hl ⊢
  have hl : lv_has ls 6 [(0, .ref o), (1, .int (nI u)), (2, .int (nI n))] := hl
  refine lv_lconst (v := 0) hx hb dM_read_0 (by decide) ?_
  refine lv_lstore_n (lv' := [(3, .long 0), (0, .ref o), (1, .int (nI u)), (2, .int (nI n))]) hx hb dM_read_1 rfl hl (by decide) rfl (fun ls hl => ?_)
  refine lv_iconst (v := 0) hx hb dM_read_2 (by decide) ?_
  refine lv_istore (lv' := [(5, .int 0), (3, .long 0), (0, .ref o), (1, .int (nI u)), (2, .int (nI n))]) hx hb dM_read_3 hl (by decide) rfl (fun ls hl => ?_)
  have lp : ∀ (k9 : Nat) (i : Nat), n - i < k9 → (i ≤ n) → ∀ ls : Array Slot, lv_has ls 6 [(0, .ref o), (1, .int (nI u)), (2, .int (nI n)), (3, .long (zm_rd pk u i)), (5, .int (nI i))] → W p l e ({ frames := 0, cells := 0, slots := 0, locals := 0 } : Room) s m ([.ref o, .int (nI u), .int (nI n)] : List Value).toArray below meth c s.heap [] 0 0 (MQ below (zz_Q (.long (zm_rd pk u n))) ([.ref o, .int (nI u), .int (nI n)] : List Value).toArray s 0 0 (fun _ => False)) (F0 m 5 ls []) := by
    intro k9
    induction k9 with
    | zero => intro i hk9; exact absurd hk9 (Nat.not_lt_zero _)
    | succ k9 ih_lp =>
      intro i hk9 hi ls hl
      refine lv_iload hx hb dM_read_5 (lv_at hl 4 rfl) ?_
      refine lv_iload_n hx hb dM_read_7 rfl (lv_at hl 2 rfl) ?_
      refine zz_ige (tgt := 33) hx hb dM_read_8 (by decide) (fun h1 => ?_) (fun h1 => ?_)
      · have h1n := mt (zz_ltN (a := i) (b := n) rfl rfl (by omega) (by omega)).mpr h1
        refine lv_lload_n hx hb dM_read_33 rfl (lv_at hl 3 rfl) ?_
        exact zz_lret hx hb hr hlocks dM_read_34 (by rw [show i = n from by omega])
      · have h1n := (zz_ltN (a := i) (b := n) rfl rfl (by omega) (by omega)).mp h1
        refine lv_lload_n hx hb dM_read_11 rfl (lv_at hl 3 rfl) ?_
        refine lv_bipush (v := 8) hx hb dM_read_12 (by decide) ?_
        refine lv_lshl (v := (zm_rd pk u i) <<< (Int32.toInt64 8 &&& 63)) hx hb dM_read_14 rfl ?_
        refine lv_aload_n hx hb dM_read_15 rfl (lv_at hl 0 rfl) ?_
        refine zz_getM hx hb hT hown hK hP 0 rfl 4 (by decide) tw_621 rfl dM_read_16 ?_
        refine lv_iload_n hx hb dM_read_19 rfl (lv_at hl 1 rfl) ?_
        refine lv_iload hx hb dM_read_20 (lv_at hl 4 rfl) ?_
        refine lv_iadd hx hb dM_read_22 ?_
        refine zz_iald hx hb hK hP 1 1 rfl rfl (u + i) (nI_add _ _) (by first | omega | decide | assumption) (by decide) dM_read_23 ?_
        refine lv_i2l (v := Int32.toInt64 (pk (u + i))) hx hb dM_read_24 rfl ?_
        refine lv_lor hx hb dM_read_25 ?_
        refine lv_lstore_n (lv' := [(3, .long (((zm_rd pk u i) <<< (Int32.toInt64 8 &&& 63)) ||| (Int32.toInt64 (pk (u + i))))), (0, .ref o), (1, .int (nI u)), (2, .int (nI n)), (5, .int (nI i))]) hx hb dM_read_26 rfl hl (by decide) rfl (fun ls hl => ?_)
        refine lv_iinc (k := 4) (v := nI (i + 1)) (lv' := [(5, .int (nI (i + 1))), (3, .long (((zm_rd pk u i) <<< (Int32.toInt64 8 &&& 63)) ||| (Int32.toInt64 (pk (u + i))))), (0, .ref o), (1, .int (nI u)), (2, .int (nI n))]) hx hb dM_read_27 hl rfl (nI_succ _).symm (by decide) rfl (fun ls hl => ?_)
        refine lv_goto (tgt := 5) hx hb dM_read_30 (by decide) ?_
        exact ih_lp (i + 1) (by omega) (by omega) _ (by rw [show zm_rd pk u (i + 1) = ((zm_rd pk u i) <<< (Int32.toInt64 8 &&& 63)) ||| (Int32.toInt64 (pk (u + i))) from rfl]; exact lv_sub hl [2, 3, 4, 1, 0] rfl)
  exact lp (n - 0 + 1) 0 (by omega) (Nat.zero_le _) _ (by rw [show zm_rd pk u 0 = 0 from rfl]; rw [show nI 0 = 0 from rfl]; exact lv_sub hl [2, 3, 4, 1, 0] rfl)
set_option maxHeartbeats 4000000 in
set_option maxRecDepth 100000 in
theorem ct_M_dispersion (l : Launch) {dC : Nat → ClassId} {dI : Nat → Nat → Nat} {cJ cI cB cZ cS : ClassId} {o : Nat} {ad : Nat → Nat} {thr wst : Int32} {loc slw low high : Int64} {pk den rch pol ask str ins : Nat → Int32} {xp rdl rds off del cam : Nat → Int64} {nn : Nat → Nat} {k : Nat} (hk : k < 40) : Met l yM_dispersion [Cond.code yM_dispersion cM_dispersion 2 (some .long)] { frames := 0, cells := 0, slots := 0, locals := 0 } (va_Pc [.ref o, .int (nI k)] (zz_B (dC, dI) vcl (zz_T cJ cI cB cZ cS) (zm_W o ad cI cJ cZ thr loc slw wst pk den rch pol ask xp str rdl rds nn off del cam ins low high))) (zz_Q (.long (zm_dsp cam loc k))) 0 0 (fun _ => False) := by
  refine Met.ofW (cc := cM_dispersion) (maxL := 2) (ret := (some .long)) (by decide) rfl ?_
  intro p e s m args below meth c s₁ B hml hv
  obtain ⟨rfl, hT, hP, hK⟩ := hv
  have hx := B.exec
  have hb := B.bytes
  have hr := B.returns
  have hlocks := B.notSynchronized
  have hown : s.vm.findClass RM = some m.cls := findClass_of_methodNamed B.named
  have hl := lv_entry ([.ref o, .int (nI k)]) (n := 2) (Nat.le_of_ble_eq_true rfl)
  rw [lg_entry_eq]
  generalize (lg_sl ([.ref o, .int (nI k)]) ++ List.replicate (2 - (lg_sl ([.ref o, .int (nI k)])).length) Slot.unset).toArray = ls at hl ⊢
  have hl : lv_has ls 2 [(0, .ref o), (1, .int (nI k))] := hl
  refine lv_ldc2 (own := RM) (v := 65536) hx hb hown (hT.w tw_738) dM_dispersion_0 ?_
  refine lv_aload_n hx hb dM_dispersion_3 rfl (lv_at hl 0 rfl) ?_
  refine zz_getM hx hb hT hown hK hP 0 rfl 1 (by decide) tw_618 rfl dM_dispersion_4 ?_
  refine lv_aload_n hx hb dM_dispersion_7 rfl (lv_at hl 0 rfl) ?_
  refine zz_getM hx hb hT hown hK hP 0 rfl 16 (by decide) tw_633 rfl dM_dispersion_8 ?_
  refine lv_iload_n hx hb dM_dispersion_11 rfl (lv_at hl 1 rfl) ?_
  refine zz_lald hx hb hK hP 13 0 rfl rfl k rfl (by first | omega | decide | assumption) (by decide) dM_dispersion_12 ?_
  refine lv_lsub hx hb dM_dispersion_13 ?_
  refine lv_ldc2 (own := RM) (v := 65536) hx hb hown (hT.w tw_738) dM_dispersion_14 ?_
  refine lv_ldiv hx hb dM_dispersion_17 (by decide) ?_
  refine lv_ladd hx hb dM_dispersion_18 ?_
  exact zz_lret hx hb hr hlocks dM_dispersion_19 (rfl)
set_option maxHeartbeats 4000000 in
set_option maxRecDepth 100000 in
theorem ct_M_best (l : Launch) {dC : Nat → ClassId} {dI : Nat → Nat → Nat} {cJ cI cB cZ cS : ClassId} {o : Nat} {ad : Nat → Nat} {thr wst : Int32} {loc slw low high : Int64} {pk den rch pol ask str ins : Nat → Int32} {xp rdl rds off del cam : Nat → Int64} {nn : Nat → Nat} {k : Nat} (hk : k < 5) (hn : nn k ≤ 8) : Met l yM_best [Cond.code yM_best cM_best 5 (some .int)] { frames := 1, cells := 0, slots := 0, locals := 21 } (va_Pc [.ref o, .int (nI k)] (zz_B (dC, dI) vcl (zz_T cJ cI cB cZ cS) (zm_W o ad cI cJ cZ thr loc slw wst pk den rch pol ask xp str rdl rds nn off del cam ins low high))) (zz_Q (.int (nI (zm_b del cam loc nn k)))) 0 0 (fun _ => False) := by
  refine Met.ofW (cc := cM_best) (maxL := 5) (ret := (some .int)) (by decide) rfl ?_
  intro p e s m args below meth c s₁ B hml hv
  obtain ⟨rfl, hT, hP, hK⟩ := hv
  have hx := B.exec
  have hb := B.bytes
  have hr := B.returns
  have hlocks := B.notSynchronized
  have hown : s.vm.findClass RM = some m.cls := findClass_of_methodNamed B.named
  have hl := lv_entry ([.ref o, .int (nI k)]) (n := 5) (Nat.le_of_ble_eq_true rfl)
  rw [lg_entry_eq]
  generalize (lg_sl ([.ref o, .int (nI k)]) ++ List.replicate (5 - (lg_sl ([.ref o, .int (nI k)])).length) Slot.unset).toArray = ls at hl ⊢
  have hl : lv_has ls 5 [(0, .ref o), (1, .int (nI k))] := hl
  refine lv_bipush (v := 8) hx hb dM_best_0 (by decide) ?_
  refine lv_iload_n hx hb dM_best_2 rfl (lv_at hl 1 rfl) ?_
  refine lv_imul hx hb dM_best_3 ?_
  refine zz_ti (y := nI (8 * k)) (pk_mul 8 k) ?_
  refine lv_istore_n (lv' := [(2, .int (nI (8 * k))), (0, .ref o), (1, .int (nI k))]) hx hb dM_best_4 rfl hl (by decide) rfl (fun ls hl => ?_)
  refine lv_bipush (v := 8) hx hb dM_best_5 (by decide) ?_
  refine lv_iload_n hx hb dM_best_7 rfl (lv_at hl 2 rfl) ?_
  refine lv_imul hx hb dM_best_8 ?_
  refine zz_ti (y := nI (8 * k)) (pk_mul 8 k) ?_
  refine lv_istore_n (lv' := [(3, .int (nI (8 * k))), (2, .int (nI (8 * k))), (0, .ref o), (1, .int (nI k))]) hx hb dM_best_9 rfl hl (by decide) rfl (fun ls hl => ?_)
  have lp : ∀ (k9 : Nat) (i : Nat), nn k - i < k9 → (i ≤ nn k) → (zm_best (zm_key del cam loc) (8 * k) i < 40) → ∀ ls : Array Slot, lv_has ls 5 [(0, .ref o), (1, .int (nI k)), (2, .int (nI (zm_best (zm_key del cam loc) (8 * k) i))), (3, .int (nI (8 * k + i)))] → W p l e ({ frames := 1, cells := 0, slots := 0, locals := 21 } : Room) s m ([.ref o, .int (nI k)] : List Value).toArray below meth c s.heap [] 0 0 (MQ below (zz_Q (.int (nI (zm_b del cam loc nn k)))) ([.ref o, .int (nI k)] : List Value).toArray s 0 0 (fun _ => False)) (F0 m 10 ls []) := by
    intro k9
    induction k9 with
    | zero => intro i hk9; exact absurd hk9 (Nat.not_lt_zero _)
    | succ k9 ih_lp =>
      intro i hk9 hi hb9 ls hl
      refine lv_iload_n hx hb dM_best_10 rfl (lv_at hl 3 rfl) ?_
      refine lv_bipush (v := 8) hx hb dM_best_11 (by decide) ?_
      refine lv_iload_n hx hb dM_best_13 rfl (lv_at hl 1 rfl) ?_
      refine lv_imul hx hb dM_best_14 ?_
      refine zz_ti (y := nI (8 * k)) (pk_mul 8 k) ?_
      refine lv_aload_n hx hb dM_best_15 rfl (lv_at hl 0 rfl) ?_
      refine zz_getM hx hb hT hown hK hP 0 rfl 13 (by decide) tw_630 rfl dM_best_16 ?_
      refine lv_iload_n hx hb dM_best_19 rfl (lv_at hl 1 rfl) ?_
      refine zz_iald hx hb hK hP 10 1 rfl rfl k rfl (by first | omega | decide | assumption) (by decide) dM_best_20 ?_
      refine lv_iadd hx hb dM_best_21 ?_
      refine zz_ti (y := nI (8 * k + nn k)) (nI_add _ _) ?_
      refine zz_ige (tgt := 85) hx hb dM_best_22 (by decide) (fun h1 => ?_) (fun h1 => ?_)
      · have h1n := mt (zz_ltN (a := (8 * k + i)) (b := (8 * k + nn k)) rfl rfl (by omega) (by omega)).mpr h1
        refine lv_iload_n hx hb dM_best_85 rfl (lv_at hl 2 rfl) ?_
        exact zz_iret hx hb hr hlocks dM_best_86 (by rw [show i = nn k from by omega]; rfl)
      · have h1n := (zz_ltN (a := (8 * k + i)) (b := (8 * k + nn k)) rfl rfl (by omega) (by omega)).mp h1
        refine lv_aload_n hx hb dM_best_25 rfl (lv_at hl 0 rfl) ?_
        refine zz_getM hx hb hT hown hK hP 0 rfl 15 (by decide) tw_632 rfl dM_best_26 ?_
        refine lv_iload_n hx hb dM_best_29 rfl (lv_at hl 3 rfl) ?_
        refine zz_lald hx hb hK hP 12 0 rfl rfl (8 * k + i) rfl (by first | omega | decide | assumption) (by decide) dM_best_30 ?_
        refine lv_ldc2 (own := RM) (v := 2) hx hb hown (hT.w tw_767) dM_best_31 ?_
        refine lv_ldiv hx hb dM_best_34 (by decide) ?_
        refine lv_aload_n hx hb dM_best_35 rfl (lv_at hl 0 rfl) ?_
        refine lv_iload_n hx hb dM_best_36 rfl (lv_at hl 3 rfl) ?_
        refine zz_call (va_runV (Ts := []) (As := [.int (nI (8 * k + i))]) (own := RM) ⟨hx, hb, hml, hown, fun _ h => nomatch h⟩ (ct_M_dispersion l (k := (8 * k + i)) (by first | omega | exact hb9)) (zt_cv hT tc_M_dispersion tv_M_dispersion tw_768 ⟨Nat.le_of_ble_eq_true rfl, Nat.le_of_ble_eq_true rfl⟩) (zz_preV (q0 := 0) hT hP hK rfl rfl) rfl rfl hl.1 rfl (lv_room (Nat.le_of_ble_eq_true rfl)) dM_best_37 ⟨Nat.zero_le _, Nat.zero_le _⟩) ?_
        refine lv_ladd hx hb dM_best_40 ?_
        refine lv_aload_n hx hb dM_best_41 rfl (lv_at hl 0 rfl) ?_
        refine zz_getM hx hb hT hown hK hP 0 rfl 15 (by decide) tw_632 rfl dM_best_42 ?_
        refine lv_iload_n hx hb dM_best_45 rfl (lv_at hl 2 rfl) ?_
        refine zz_lald hx hb hK hP 12 0 rfl rfl (zm_best (zm_key del cam loc) (8 * k) i) rfl hb9 (by decide) dM_best_46 ?_
        refine lv_ldc2 (own := RM) (v := 2) hx hb hown (hT.w tw_767) dM_best_47 ?_
        refine lv_ldiv hx hb dM_best_50 (by decide) ?_
        refine lv_aload_n hx hb dM_best_51 rfl (lv_at hl 0 rfl) ?_
        refine lv_iload_n hx hb dM_best_52 rfl (lv_at hl 2 rfl) ?_
        refine zz_call (va_runV (Ts := []) (As := [.int (nI (zm_best (zm_key del cam loc) (8 * k) i))]) (own := RM) ⟨hx, hb, hml, hown, fun _ h => nomatch h⟩ (ct_M_dispersion l (k := (zm_best (zm_key del cam loc) (8 * k) i)) (by first | omega | exact hb9)) (zt_cv hT tc_M_dispersion tv_M_dispersion tw_768 ⟨Nat.le_of_ble_eq_true rfl, Nat.le_of_ble_eq_true rfl⟩) (zz_preV (q0 := 0) hT hP hK rfl rfl) rfl rfl hl.1 rfl (lv_room (Nat.le_of_ble_eq_true rfl)) dM_best_53 ⟨Nat.zero_le _, Nat.zero_le _⟩) ?_
        refine lv_ladd hx hb dM_best_56 ?_
        refine zz_lge (tgt := 65) hx hb dM_best_57 dM_best_58 (by decide) (fun h2 => ?_) (fun h2 => ?_)
        · refine lv_iconst (v := 0) hx hb dM_best_65 (by decide) ?_
          refine lv_istore (lv' := [(4, .int 0), (0, .ref o), (1, .int (nI k)), (2, .int (nI (zm_best (zm_key del cam loc) (8 * k) i))), (3, .int (nI (8 * k + i)))]) hx hb dM_best_66 hl (by decide) rfl (fun ls hl => ?_)
          refine lv_iload hx hb dM_best_68 (lv_at hl 0 rfl) ?_
          refine zz_zeq (tgt := 77) hx hb dM_best_70 (by decide) (fun _ => ?_) (fun h => absurd h (by decide))
          refine lv_iload_n hx hb dM_best_77 rfl (lv_at hl 3 rfl) ?_
          refine lv_istore_n (lv' := [(2, .int (nI (zm_best (zm_key del cam loc) (8 * k) i))), (4, .int 0), (0, .ref o), (1, .int (nI k)), (3, .int (nI (8 * k + i)))]) hx hb dM_best_78 rfl hl (by decide) rfl (fun ls hl => ?_)
          refine lv_iinc (k := 4) (v := nI ((8 * k + i) + 1)) (lv' := [(3, .int (nI ((8 * k + i) + 1))), (2, .int (nI (zm_best (zm_key del cam loc) (8 * k) i))), (4, .int 0), (0, .ref o), (1, .int (nI k))]) hx hb dM_best_79 hl rfl (nI_succ _).symm (by decide) rfl (fun ls hl => ?_)
          refine lv_goto (tgt := 10) hx hb dM_best_82 (by decide) ?_
          exact ih_lp (i + 1) (by omega) (by omega) (by have := zm_best_in (zm_key del cam loc) (8 * k) (i + 1); omega) _ (by rw [show nI (zm_best (zm_key del cam loc) (8 * k) (i + 1)) = nI (zm_best (zm_key del cam loc) (8 * k) i) from congrArg nI (if_neg h2)]; rw [show nI (8 * k + (i + 1)) = nI ((8 * k + i) + 1) from rfl]; exact lv_sub hl [3, 4, 1, 0] rfl)
        · refine lv_iconst (v := 1) hx hb dM_best_61 (by decide) ?_
          refine lv_goto (tgt := 66) hx hb dM_best_62 (by decide) ?_
          refine lv_istore (lv' := [(4, .int 1), (0, .ref o), (1, .int (nI k)), (2, .int (nI (zm_best (zm_key del cam loc) (8 * k) i))), (3, .int (nI (8 * k + i)))]) hx hb dM_best_66 hl (by decide) rfl (fun ls hl => ?_)
          refine lv_iload hx hb dM_best_68 (lv_at hl 0 rfl) ?_
          refine zz_zeq (tgt := 77) hx hb dM_best_70 (by decide) (fun h => absurd h (by decide)) (fun _ => ?_)
          refine lv_iload_n hx hb dM_best_73 rfl (lv_at hl 4 rfl) ?_
          refine lv_goto (tgt := 78) hx hb dM_best_74 (by decide) ?_
          refine lv_istore_n (lv' := [(2, .int (nI (8 * k + i))), (4, .int 1), (0, .ref o), (1, .int (nI k)), (3, .int (nI (8 * k + i)))]) hx hb dM_best_78 rfl hl (by decide) rfl (fun ls hl => ?_)
          refine lv_iinc (k := 4) (v := nI ((8 * k + i) + 1)) (lv' := [(3, .int (nI ((8 * k + i) + 1))), (2, .int (nI (8 * k + i))), (4, .int 1), (0, .ref o), (1, .int (nI k))]) hx hb dM_best_79 hl rfl (nI_succ _).symm (by decide) rfl (fun ls hl => ?_)
          refine lv_goto (tgt := 10) hx hb dM_best_82 (by decide) ?_
          exact ih_lp (i + 1) (by omega) (by omega) (by have := zm_best_in (zm_key del cam loc) (8 * k) (i + 1); omega) _ (by rw [show nI (zm_best (zm_key del cam loc) (8 * k) (i + 1)) = nI (8 * k + i) from congrArg nI (if_pos h2)]; rw [show nI (8 * k + (i + 1)) = nI ((8 * k + i) + 1) from rfl]; exact lv_sub hl [3, 4, 1, 0] rfl)
  exact lp (nn k - 0 + 1) 0 (by omega) (Nat.zero_le _) (by show 8 * k < 40; omega) _ (by rw [show nI (zm_best (zm_key del cam loc) (8 * k) 0) = nI (8 * k) from rfl]; rw [show nI (8 * k + 0) = nI (8 * k) from rfl]; exact lv_sub hl [2, 3, 1, 0] rfl)
set_option maxHeartbeats 4000000 in
set_option maxRecDepth 100000 in
theorem ct_M_offsetOf (l : Launch) {dC : Nat → ClassId} {dI : Nat → Nat → Nat} {cJ cI cB cZ cS : ClassId} {o : Nat} {ad : Nat → Nat} {thr wst : Int32} {loc slw low high : Int64} {pk den rch pol ask str ins : Nat → Int32} {xp rdl rds off del cam : Nat → Int64} {nn : Nat → Nat} {k : Nat} (hk : k < 5) (hn : nn k ≤ 8) : Met l yM_offsetOf [Cond.code yM_offsetOf cM_offsetOf 2 (some .long)] { frames := 2, cells := 0, slots := 0, locals := 45 } (va_Pc [.ref o, .int (nI k)] (zz_B (dC, dI) vcl (zz_T cJ cI cB cZ cS) (zm_W o ad cI cJ cZ thr loc slw wst pk den rch pol ask xp str rdl rds nn off del cam ins low high))) (zz_Q (.long (zm_o off del cam loc nn k))) 0 0 (fun _ => False) := by
  refine Met.ofW (cc := cM_offsetOf) (maxL := 2) (ret := (some .long)) (by decide) rfl ?_
  intro p e s m args below meth c s₁ B hml hv
  obtain ⟨rfl, hT, hP, hK⟩ := hv
  have hx := B.exec
  have hb := B.bytes
  have hr := B.returns
  have hlocks := B.notSynchronized
  have hown : s.vm.findClass RM = some m.cls := findClass_of_methodNamed B.named
  have hl := lv_entry ([.ref o, .int (nI k)]) (n := 2) (Nat.le_of_ble_eq_true rfl)
  rw [lg_entry_eq]
  generalize (lg_sl ([.ref o, .int (nI k)]) ++ List.replicate (2 - (lg_sl ([.ref o, .int (nI k)])).length) Slot.unset).toArray = ls at hl ⊢
  have hl : lv_has ls 2 [(0, .ref o), (1, .int (nI k))] := hl
  refine lv_aload_n hx hb dM_offsetOf_0 rfl (lv_at hl 0 rfl) ?_
  refine zz_getM hx hb hT hown hK hP 0 rfl 14 (by decide) tw_631 rfl dM_offsetOf_1 ?_
  refine lv_aload_n hx hb dM_offsetOf_4 rfl (lv_at hl 0 rfl) ?_
  refine lv_iload_n hx hb dM_offsetOf_5 rfl (lv_at hl 1 rfl) ?_
  refine zz_call (va_runV (Ts := []) (As := [.int (nI k)]) (own := RM) ⟨hx, hb, hml, hown, fun _ h => nomatch h⟩ (ct_M_best l (k := k) (by omega) (by first | assumption | exact hn _ (by omega))) (zt_cv hT tc_M_best tv_M_best tw_763 ⟨Nat.le_of_ble_eq_true rfl, Nat.le_of_ble_eq_true rfl⟩) (zz_preV (q0 := 0) hT hP hK rfl rfl) rfl rfl hl.1 rfl (lv_room (Nat.le_of_ble_eq_true rfl)) dM_offsetOf_6 ⟨Nat.zero_le _, Nat.zero_le _⟩) ?_
  refine zz_lald hx hb hK hP 11 0 rfl rfl (zm_b del cam loc nn k) rfl (zm_b_lt (by omega) (by first | assumption | exact hn _ (by omega))) (by decide) dM_offsetOf_9 ?_
  exact zz_lret hx hb hr hlocks dM_offsetOf_10 (rfl)
set_option maxHeartbeats 4000000 in
set_option maxRecDepth 100000 in
theorem ct_M_jitterOf (l : Launch) {dC : Nat → ClassId} {dI : Nat → Nat → Nat} {cJ cI cB cZ cS : ClassId} {o : Nat} {ad : Nat → Nat} {thr wst : Int32} {loc slw low high : Int64} {pk den rch pol ask str ins : Nat → Int32} {xp rdl rds off del cam : Nat → Int64} {nn : Nat → Nat} {k : Nat} (hk : k < 5) (hn : nn k ≤ 8) : Met l yM_jitterOf [Cond.code yM_jitterOf cM_jitterOf 9 (some .long)] { frames := 2, cells := 0, slots := 0, locals := 45 } (va_Pc [.ref o, .int (nI k)] (zz_B (dC, dI) vcl (zz_T cJ cI cB cZ cS) (zm_W o ad cI cJ cZ thr loc slw wst pk den rch pol ask xp str rdl rds nn off del cam ins low high))) (zz_Q (.long (zm_jit off del cam loc nn k))) 0 0 (fun _ => False) := by
  refine Met.ofW (cc := cM_jitterOf) (maxL := 9) (ret := (some .long)) (by decide) rfl ?_
  intro p e s m args below meth c s₁ B hml hv
  obtain ⟨rfl, hT, hP, hK⟩ := hv
  have hx := B.exec
  have hb := B.bytes
  have hr := B.returns
  have hlocks := B.notSynchronized
  have hown : s.vm.findClass RM = some m.cls := findClass_of_methodNamed B.named
  have hl := lv_entry ([.ref o, .int (nI k)]) (n := 9) (Nat.le_of_ble_eq_true rfl)
  rw [lg_entry_eq]
  generalize (lg_sl ([.ref o, .int (nI k)]) ++ List.replicate (9 - (lg_sl ([.ref o, .int (nI k)])).length) Slot.unset).toArray = ls at hl ⊢
  have hl : lv_has ls 9 [(0, .ref o), (1, .int (nI k))] := hl
  refine lv_aload_n hx hb dM_jitterOf_0 rfl (lv_at hl 0 rfl) ?_
  refine zz_getM hx hb hT hown hK hP 0 rfl 14 (by decide) tw_631 rfl dM_jitterOf_1 ?_
  refine lv_aload_n hx hb dM_jitterOf_4 rfl (lv_at hl 0 rfl) ?_
  refine lv_iload_n hx hb dM_jitterOf_5 rfl (lv_at hl 1 rfl) ?_
  refine zz_call (va_runV (Ts := []) (As := [.int (nI k)]) (own := RM) ⟨hx, hb, hml, hown, fun _ h => nomatch h⟩ (ct_M_best l (k := k) (by omega) (by first | assumption | exact hn _ (by omega))) (zt_cv hT tc_M_best tv_M_best tw_763 ⟨Nat.le_of_ble_eq_true rfl, Nat.le_of_ble_eq_true rfl⟩) (zz_preV (q0 := 0) hT hP hK rfl rfl) rfl rfl hl.1 rfl (lv_room (Nat.le_of_ble_eq_true rfl)) dM_jitterOf_6 ⟨Nat.zero_le _, Nat.zero_le _⟩) ?_
  refine zz_lald hx hb hK hP 11 0 rfl rfl (zm_b del cam loc nn k) rfl (zm_b_lt (by omega) (by first | assumption | exact hn _ (by omega))) (by decide) dM_jitterOf_9 ?_
  refine zz_tl (y := zm_o off del cam loc nn k) (rfl) ?_
  refine lv_lstore_n (lv' := [(2, .long (zm_o off del cam loc nn k)), (0, .ref o), (1, .int (nI k))]) hx hb dM_jitterOf_10 rfl hl (by decide) rfl (fun ls hl => ?_)
  refine lv_lconst (v := 0) hx hb dM_jitterOf_11 (by decide) ?_
  refine lv_lstore (lv' := [(4, .long 0), (2, .long (zm_o off del cam loc nn k)), (0, .ref o), (1, .int (nI k))]) hx hb dM_jitterOf_12 hl (by decide) rfl (fun ls hl => ?_)
  refine lv_bipush (v := 8) hx hb dM_jitterOf_14 (by decide) ?_
  refine lv_iload_n hx hb dM_jitterOf_16 rfl (lv_at hl 3 rfl) ?_
  refine lv_imul hx hb dM_jitterOf_17 ?_
  refine zz_ti (y := nI (8 * k)) (pk_mul 8 k) ?_
  refine lv_istore (lv' := [(6, .int (nI (8 * k))), (4, .long 0), (2, .long (zm_o off del cam loc nn k)), (0, .ref o), (1, .int (nI k))]) hx hb dM_jitterOf_18 hl (by decide) rfl (fun ls hl => ?_)
  have lp : ∀ (k9 : Nat) (i : Nat), nn k - i < k9 → (i ≤ nn k) → ∀ ls : Array Slot, lv_has ls 9 [(0, .ref o), (1, .int (nI k)), (2, .long (zm_o off del cam loc nn k)), (4, .long (zm_far off (zm_o off del cam loc nn k) (8 * k) i)), (6, .int (nI (8 * k + i)))] → W p l e ({ frames := 2, cells := 0, slots := 0, locals := 45 } : Room) s m ([.ref o, .int (nI k)] : List Value).toArray below meth c s.heap [] 0 0 (MQ below (zz_Q (.long (zm_jit off del cam loc nn k))) ([.ref o, .int (nI k)] : List Value).toArray s 0 0 (fun _ => False)) (F0 m 20 ls []) := by
    intro k9
    induction k9 with
    | zero => intro i hk9; exact absurd hk9 (Nat.not_lt_zero _)
    | succ k9 ih_lp =>
      intro i hk9 hi ls hl
      refine lv_iload hx hb dM_jitterOf_20 (lv_at hl 4 rfl) ?_
      refine lv_bipush (v := 8) hx hb dM_jitterOf_22 (by decide) ?_
      refine lv_iload_n hx hb dM_jitterOf_24 rfl (lv_at hl 1 rfl) ?_
      refine lv_imul hx hb dM_jitterOf_25 ?_
      refine zz_ti (y := nI (8 * k)) (pk_mul 8 k) ?_
      refine lv_aload_n hx hb dM_jitterOf_26 rfl (lv_at hl 0 rfl) ?_
      refine zz_getM hx hb hT hown hK hP 0 rfl 13 (by decide) tw_630 rfl dM_jitterOf_27 ?_
      refine lv_iload_n hx hb dM_jitterOf_30 rfl (lv_at hl 1 rfl) ?_
      refine zz_iald hx hb hK hP 10 1 rfl rfl k rfl (by first | omega | decide | assumption) (by decide) dM_jitterOf_31 ?_
      refine lv_iadd hx hb dM_jitterOf_32 ?_
      refine zz_ti (y := nI (8 * k + nn k)) (nI_add _ _) ?_
      refine zz_ige (tgt := 73) hx hb dM_jitterOf_33 (by decide) (fun h1 => ?_) (fun h1 => ?_)
      · have h1n := mt (zz_ltN (a := (8 * k + i)) (b := (8 * k + nn k)) rfl rfl (by omega) (by omega)).mpr h1
        refine lv_lload hx hb dM_jitterOf_73 (lv_at hl 3 rfl) ?_
        exact zz_lret hx hb hr hlocks dM_jitterOf_75 (by rw [show i = nn k from by omega]; rfl)
      · have h1n := (zz_ltN (a := (8 * k + i)) (b := (8 * k + nn k)) rfl rfl (by omega) (by omega)).mp h1
        refine lv_aload_n hx hb dM_jitterOf_36 rfl (lv_at hl 0 rfl) ?_
        refine zz_getM hx hb hT hown hK hP 0 rfl 14 (by decide) tw_631 rfl dM_jitterOf_37 ?_
        refine lv_iload hx hb dM_jitterOf_40 (lv_at hl 4 rfl) ?_
        refine zz_lald hx hb hK hP 11 0 rfl rfl (8 * k + i) rfl (by first | omega | decide | assumption) (by decide) dM_jitterOf_42 ?_
        refine lv_lload_n hx hb dM_jitterOf_43 rfl (lv_at hl 2 rfl) ?_
        refine lv_lsub hx hb dM_jitterOf_44 ?_
        refine zz_call (va_runS (Ts := []) (As := [.long ((off (8 * k + i)) - (zm_o off del cam loc nn k))]) (own := RM) ⟨hx, hb, hml, hown, fun _ h => nomatch h⟩ (ct_M_size l) (zt_cs hT tc_M_size ts_M_size tw_784 ⟨Nat.le_of_ble_eq_true rfl, Nat.le_of_ble_eq_true rfl⟩) (zz_pre0 hT) rfl rfl hl.1 rfl (lv_room (Nat.le_of_ble_eq_true rfl)) dM_jitterOf_45 ⟨Nat.zero_le _, Nat.zero_le _⟩) ?_
        refine lv_lstore (lv' := [(7, .long (zn_abs ((off (8 * k + i)) - (zm_o off del cam loc nn k)))), (0, .ref o), (1, .int (nI k)), (2, .long (zm_o off del cam loc nn k)), (4, .long (zm_far off (zm_o off del cam loc nn k) (8 * k) i)), (6, .int (nI (8 * k + i)))]) hx hb dM_jitterOf_48 hl (by decide) rfl (fun ls hl => ?_)
        refine lv_lload hx hb dM_jitterOf_50 (lv_at hl 0 rfl) ?_
        refine lv_lload hx hb dM_jitterOf_52 (lv_at hl 4 rfl) ?_
        refine zz_lle (tgt := 63) hx hb dM_jitterOf_54 dM_jitterOf_55 (by decide) (fun h2 => ?_) (fun h2 => ?_)
        · refine lv_lload hx hb dM_jitterOf_63 (lv_at hl 4 rfl) ?_
          refine lv_lstore (lv' := [(4, .long (zm_far off (zm_o off del cam loc nn k) (8 * k) i)), (7, .long (zn_abs ((off (8 * k + i)) - (zm_o off del cam loc nn k)))), (0, .ref o), (1, .int (nI k)), (2, .long (zm_o off del cam loc nn k)), (6, .int (nI (8 * k + i)))]) hx hb dM_jitterOf_65 hl (by decide) rfl (fun ls hl => ?_)
          refine lv_iinc (k := 5) (v := nI ((8 * k + i) + 1)) (lv' := [(6, .int (nI ((8 * k + i) + 1))), (4, .long (zm_far off (zm_o off del cam loc nn k) (8 * k) i)), (7, .long (zn_abs ((off (8 * k + i)) - (zm_o off del cam loc nn k)))), (0, .ref o), (1, .int (nI k)), (2, .long (zm_o off del cam loc nn k))]) hx hb dM_jitterOf_67 hl rfl (nI_succ _).symm (by decide) rfl (fun ls hl => ?_)
          refine lv_goto (tgt := 20) hx hb dM_jitterOf_70 (by decide) ?_
          exact ih_lp (i + 1) (by omega) (by omega) _ (by rw [show zm_far off (zm_o off del cam loc nn k) (8 * k) (i + 1) = zm_far off (zm_o off del cam loc nn k) (8 * k) i from if_neg h2]; rw [show nI (8 * k + (i + 1)) = nI ((8 * k + i) + 1) from rfl]; exact lv_sub hl [3, 4, 5, 1, 0] rfl)
        · refine lv_lload hx hb dM_jitterOf_58 (lv_at hl 0 rfl) ?_
          refine lv_goto (tgt := 65) hx hb dM_jitterOf_60 (by decide) ?_
          refine lv_lstore (lv' := [(4, .long (zn_abs ((off (8 * k + i)) - (zm_o off del cam loc nn k)))), (7, .long (zn_abs ((off (8 * k + i)) - (zm_o off del cam loc nn k)))), (0, .ref o), (1, .int (nI k)), (2, .long (zm_o off del cam loc nn k)), (6, .int (nI (8 * k + i)))]) hx hb dM_jitterOf_65 hl (by decide) rfl (fun ls hl => ?_)
          refine lv_iinc (k := 5) (v := nI ((8 * k + i) + 1)) (lv' := [(6, .int (nI ((8 * k + i) + 1))), (4, .long (zn_abs ((off (8 * k + i)) - (zm_o off del cam loc nn k)))), (7, .long (zn_abs ((off (8 * k + i)) - (zm_o off del cam loc nn k)))), (0, .ref o), (1, .int (nI k)), (2, .long (zm_o off del cam loc nn k))]) hx hb dM_jitterOf_67 hl rfl (nI_succ _).symm (by decide) rfl (fun ls hl => ?_)
          refine lv_goto (tgt := 20) hx hb dM_jitterOf_70 (by decide) ?_
          exact ih_lp (i + 1) (by omega) (by omega) _ (by rw [show zm_far off (zm_o off del cam loc nn k) (8 * k) (i + 1) = zn_abs ((off (8 * k + i)) - (zm_o off del cam loc nn k)) from if_pos h2]; rw [show nI (8 * k + (i + 1)) = nI ((8 * k + i) + 1) from rfl]; exact lv_sub hl [3, 4, 5, 1, 0] rfl)
  exact lp (nn k - 0 + 1) 0 (by omega) (Nat.zero_le _) _ (by rw [show zm_far off (zm_o off del cam loc nn k) (8 * k) 0 = 0 from rfl]; rw [show nI (8 * k + 0) = nI (8 * k) from rfl]; exact lv_sub hl [3, 4, 2, 1, 0] rfl)
set_option maxHeartbeats 4000000 in
set_option maxRecDepth 100000 in
theorem ct_M_distanceOf (l : Launch) {dC : Nat → ClassId} {dI : Nat → Nat → Nat} {cJ cI cB cZ cS : ClassId} {o : Nat} {ad : Nat → Nat} {thr wst : Int32} {loc slw low high : Int64} {pk den rch pol ask str ins : Nat → Int32} {xp rdl rds off del cam : Nat → Int64} {nn : Nat → Nat} {k : Nat} (hk : k < 5) (hn : nn k ≤ 8) : Met l yM_distanceOf [Cond.code yM_distanceOf cM_distanceOf 3 (some .long)] { frames := 3, cells := 0, slots := 0, locals := 73 } (va_Pc [.ref o, .int (nI k)] (zz_B (dC, dI) vcl (zz_T cJ cI cB cZ cS) (zm_W o ad cI cJ cZ thr loc slw wst pk den rch pol ask xp str rdl rds nn off del cam ins low high))) (zz_Q (.long (zm_d rdl rds off del cam loc nn k))) 0 0 (fun _ => False) := by
  refine Met.ofW (cc := cM_distanceOf) (maxL := 3) (ret := (some .long)) (by decide) rfl ?_
  intro p e s m args below meth c s₁ B hml hv
  obtain ⟨rfl, hT, hP, hK⟩ := hv
  have hx := B.exec
  have hb := B.bytes
  have hr := B.returns
  have hlocks := B.notSynchronized
  have hown : s.vm.findClass RM = some m.cls := findClass_of_methodNamed B.named
  have hl := lv_entry ([.ref o, .int (nI k)]) (n := 3) (Nat.le_of_ble_eq_true rfl)
  rw [lg_entry_eq]
  generalize (lg_sl ([.ref o, .int (nI k)]) ++ List.replicate (3 - (lg_sl ([.ref o, .int (nI k)])).length) Slot.unset).toArray = ls at hl ⊢
  have hl : lv_has ls 3 [(0, .ref o), (1, .int (nI k))] := hl
  refine lv_aload_n hx hb dM_distanceOf_0 rfl (lv_at hl 0 rfl) ?_
  refine lv_iload_n hx hb dM_distanceOf_1 rfl (lv_at hl 1 rfl) ?_
  refine zz_call (va_runV (Ts := []) (As := [.int (nI k)]) (own := RM) ⟨hx, hb, hml, hown, fun _ h => nomatch h⟩ (ct_M_best l (k := k) (by omega) (by first | assumption | exact hn _ (by omega))) (zt_cv hT tc_M_best tv_M_best tw_763 ⟨Nat.le_of_ble_eq_true rfl, Nat.le_of_ble_eq_true rfl⟩) (zz_preV (q0 := 0) hT hP hK rfl rfl) rfl rfl hl.1 rfl (lv_room (Nat.le_of_ble_eq_true rfl)) dM_distanceOf_2 ⟨Nat.zero_le _, Nat.zero_le _⟩) ?_
  refine lv_istore_n (lv' := [(2, .int (nI (zm_b del cam loc nn k))), (0, .ref o), (1, .int (nI k))]) hx hb dM_distanceOf_5 rfl hl (by decide) rfl (fun ls hl => ?_)
  refine lv_aload_n hx hb dM_distanceOf_6 rfl (lv_at hl 1 rfl) ?_
  refine zz_getM hx hb hT hown hK hP 0 rfl 11 (by decide) tw_628 rfl dM_distanceOf_7 ?_
  refine lv_iload_n hx hb dM_distanceOf_10 rfl (lv_at hl 2 rfl) ?_
  refine zz_lald hx hb hK hP 8 0 rfl rfl k rfl (by first | omega | decide | assumption) (by decide) dM_distanceOf_11 ?_
  refine lv_ldc2 (own := RM) (v := 2) hx hb hown (hT.w tw_767) dM_distanceOf_12 ?_
  refine lv_ldiv hx hb dM_distanceOf_15 (by decide) ?_
  refine lv_aload_n hx hb dM_distanceOf_16 rfl (lv_at hl 1 rfl) ?_
  refine zz_getM hx hb hT hown hK hP 0 rfl 15 (by decide) tw_632 rfl dM_distanceOf_17 ?_
  refine lv_iload_n hx hb dM_distanceOf_20 rfl (lv_at hl 0 rfl) ?_
  refine zz_lald hx hb hK hP 12 0 rfl rfl (zm_b del cam loc nn k) rfl (zm_b_lt (by omega) (by first | assumption | exact hn _ (by omega))) (by decide) dM_distanceOf_21 ?_
  refine lv_ldc2 (own := RM) (v := 2) hx hb hown (hT.w tw_767) dM_distanceOf_22 ?_
  refine lv_ldiv hx hb dM_distanceOf_25 (by decide) ?_
  refine lv_ladd hx hb dM_distanceOf_26 ?_
  refine lv_aload_n hx hb dM_distanceOf_27 rfl (lv_at hl 1 rfl) ?_
  refine zz_getM hx hb hT hown hK hP 0 rfl 12 (by decide) tw_629 rfl dM_distanceOf_28 ?_
  refine lv_iload_n hx hb dM_distanceOf_31 rfl (lv_at hl 2 rfl) ?_
  refine zz_lald hx hb hK hP 9 0 rfl rfl k rfl (by first | omega | decide | assumption) (by decide) dM_distanceOf_32 ?_
  refine lv_ladd hx hb dM_distanceOf_33 ?_
  refine lv_aload_n hx hb dM_distanceOf_34 rfl (lv_at hl 1 rfl) ?_
  refine lv_iload_n hx hb dM_distanceOf_35 rfl (lv_at hl 0 rfl) ?_
  refine zz_call (va_runV (Ts := []) (As := [.int (nI (zm_b del cam loc nn k))]) (own := RM) ⟨hx, hb, hml, hown, fun _ h => nomatch h⟩ (ct_M_dispersion l (k := (zm_b del cam loc nn k)) (zm_b_lt (by omega) (by first | assumption | exact hn _ (by omega)))) (zt_cv hT tc_M_dispersion tv_M_dispersion tw_768 ⟨Nat.le_of_ble_eq_true rfl, Nat.le_of_ble_eq_true rfl⟩) (zz_preV (q0 := 0) hT hP hK rfl rfl) rfl rfl hl.1 rfl (lv_room (Nat.le_of_ble_eq_true rfl)) dM_distanceOf_36 ⟨Nat.zero_le _, Nat.zero_le _⟩) ?_
  refine lv_ladd hx hb dM_distanceOf_39 ?_
  refine lv_aload_n hx hb dM_distanceOf_40 rfl (lv_at hl 1 rfl) ?_
  refine lv_iload_n hx hb dM_distanceOf_41 rfl (lv_at hl 2 rfl) ?_
  refine zz_call (va_runV (Ts := []) (As := [.int (nI k)]) (own := RM) ⟨hx, hb, hml, hown, fun _ h => nomatch h⟩ (ct_M_jitterOf l (k := k) (by omega) (by first | assumption | exact hn _ (by omega))) (zt_cv hT tc_M_jitterOf tv_M_jitterOf tw_780 ⟨Nat.le_of_ble_eq_true rfl, Nat.le_of_ble_eq_true rfl⟩) (zz_preV (q0 := 0) hT hP hK rfl rfl) rfl rfl hl.1 rfl (lv_room (Nat.le_of_ble_eq_true rfl)) dM_distanceOf_42 ⟨Nat.zero_le _, Nat.zero_le _⟩) ?_
  refine lv_ladd hx hb dM_distanceOf_45 ?_
  exact zz_lret hx hb hr hlocks dM_distanceOf_46 (rfl)
set_option maxHeartbeats 4000000 in
set_option maxRecDepth 100000 in
theorem ct_M_isCandidate (l : Launch) {dC : Nat → ClassId} {dI : Nat → Nat → Nat} {cJ cI cB cZ cS : ClassId} {o : Nat} {ad : Nat → Nat} {thr wst : Int32} {loc slw low high : Int64} {pk den rch pol ask str ins : Nat → Int32} {xp rdl rds off del cam : Nat → Int64} {nn : Nat → Nat} {k : Nat} (hk : k < 5) (hn : nn k ≤ 8) : Met l yM_isCandidate [Cond.code yM_isCandidate cM_isCandidate 2 (some .boolean)] { frames := 4, cells := 0, slots := 0, locals := 95 } (va_Pc [.ref o, .int (nI k)] (zz_B (dC, dI) vcl (zz_T cJ cI cB cZ cS) (zm_W o ad cI cJ cZ thr loc slw wst pk den rch pol ask xp str rdl rds nn off del cam ins low high))) (zz_Q (.int (zm_c den rch rdl rds off del cam loc nn k))) 0 0 (fun _ => False) := by
  refine Met.ofW (cc := cM_isCandidate) (maxL := 2) (ret := (some .boolean)) (by decide) rfl ?_
  intro p e s m args below meth c s₁ B hml hv
  obtain ⟨rfl, hT, hP, hK⟩ := hv
  have hx := B.exec
  have hb := B.bytes
  have hr := B.returns
  have hlocks := B.notSynchronized
  have hown : s.vm.findClass RM = some m.cls := findClass_of_methodNamed B.named
  have hl := lv_entry ([.ref o, .int (nI k)]) (n := 2) (Nat.le_of_ble_eq_true rfl)
  rw [lg_entry_eq]
  generalize (lg_sl ([.ref o, .int (nI k)]) ++ List.replicate (2 - (lg_sl ([.ref o, .int (nI k)])).length) Slot.unset).toArray = ls at hl ⊢
  have hl : lv_has ls 2 [(0, .ref o), (1, .int (nI k))] := hl
  refine lv_aload_n hx hb dM_isCandidate_0 rfl (lv_at hl 0 rfl) ?_
  refine zz_getM hx hb hT hown hK hP 0 rfl 5 (by decide) tw_622 rfl dM_isCandidate_1 ?_
  refine lv_iload_n hx hb dM_isCandidate_4 rfl (lv_at hl 1 rfl) ?_
  refine zz_zald hx hb hK hP 2 3 rfl rfl k rfl (by first | omega | decide | assumption) (by decide) dM_isCandidate_5 ?_
  refine zz_zne (tgt := 43) hx hb dM_isCandidate_6 (by decide) (fun h1 => ?_) (fun h1 => ?_)
  · refine lv_iconst (v := 0) hx hb dM_isCandidate_43 (by decide) ?_
    exact zz_bret hx hb hr hlocks dM_isCandidate_44 (by decide) (by unfold zm_c; rw [if_neg (fun q => h1 q.1.1)])
  · refine lv_aload_n hx hb dM_isCandidate_9 rfl (lv_at hl 0 rfl) ?_
    refine zz_getM hx hb hT hown hK hP 0 rfl 6 (by decide) tw_623 rfl dM_isCandidate_10 ?_
    refine lv_iload_n hx hb dM_isCandidate_13 rfl (lv_at hl 1 rfl) ?_
    refine zz_iald hx hb hK hP 3 1 rfl rfl k rfl (by first | omega | decide | assumption) (by decide) dM_isCandidate_14 ?_
    refine zz_zeq (tgt := 43) hx hb dM_isCandidate_15 (by decide) (fun h2 => ?_) (fun h2 => ?_)
    · refine lv_iconst (v := 0) hx hb dM_isCandidate_43 (by decide) ?_
      exact zz_bret hx hb hr hlocks dM_isCandidate_44 (by decide) (by unfold zm_c; rw [if_neg (fun q => q.1.2 h2)])
    · refine lv_aload_n hx hb dM_isCandidate_18 rfl (lv_at hl 0 rfl) ?_
      refine zz_getM hx hb hT hown hK hP 0 rfl 13 (by decide) tw_630 rfl dM_isCandidate_19 ?_
      refine lv_iload_n hx hb dM_isCandidate_22 rfl (lv_at hl 1 rfl) ?_
      refine zz_iald hx hb hK hP 10 1 rfl rfl k rfl (by first | omega | decide | assumption) (by decide) dM_isCandidate_23 ?_
      refine zz_zle (tgt := 43) hx hb dM_isCandidate_24 (by decide) (fun h3 => ?_) (fun h3 => ?_)
      · have h3n := mt (zz_ltN (a := 0) (b := (nn k)) rfl rfl (by omega) (by omega)).mpr h3
        refine lv_iconst (v := 0) hx hb dM_isCandidate_43 (by decide) ?_
        exact zz_bret hx hb hr hlocks dM_isCandidate_44 (by decide) (by unfold zm_c; rw [if_neg (fun q => h3n q.2.1)])
      · have h3n := (zz_ltN (a := 0) (b := (nn k)) rfl rfl (by omega) (by omega)).mp h3
        refine lv_aload_n hx hb dM_isCandidate_27 rfl (lv_at hl 0 rfl) ?_
        refine lv_iload_n hx hb dM_isCandidate_28 rfl (lv_at hl 1 rfl) ?_
        refine zz_call (va_runV (Ts := []) (As := [.int (nI k)]) (own := RM) ⟨hx, hb, hml, hown, fun _ h => nomatch h⟩ (ct_M_distanceOf l (k := k) (by omega) (by first | assumption | exact hn _ (by omega))) (zt_cv hT tc_M_distanceOf tv_M_distanceOf tw_791 ⟨Nat.le_of_ble_eq_true rfl, Nat.le_of_ble_eq_true rfl⟩) (zz_preV (q0 := 0) hT hP hK rfl rfl) rfl rfl hl.1 rfl (lv_room (Nat.le_of_ble_eq_true rfl)) dM_isCandidate_29 ⟨Nat.zero_le _, Nat.zero_le _⟩) ?_
        refine lv_ldc2 (own := RM) (v := 6442450944) hx hb hown (hT.w tw_803) dM_isCandidate_32 ?_
        refine zz_lge (tgt := 43) hx hb dM_isCandidate_35 dM_isCandidate_36 (by decide) (fun h4 => ?_) (fun h4 => ?_)
        · refine lv_iconst (v := 0) hx hb dM_isCandidate_43 (by decide) ?_
          exact zz_bret hx hb hr hlocks dM_isCandidate_44 (by decide) (by unfold zm_c; rw [if_neg (fun q => h4 q.2.2)])
        · refine lv_iconst (v := 1) hx hb dM_isCandidate_39 (by decide) ?_
          refine lv_goto (tgt := 44) hx hb dM_isCandidate_40 (by decide) ?_
          exact zz_bret hx hb hr hlocks dM_isCandidate_44 (by decide) (by unfold zm_c; rw [if_pos ⟨⟨h1, h2⟩, h3n, h4⟩])
set_option maxHeartbeats 4000000 in
set_option maxRecDepth 100000 in
theorem ct_M_isCommon (l : Launch) {dC : Nat → ClassId} {dI : Nat → Nat → Nat} {cJ cI cB cZ cS : ClassId} {o : Nat} {ad : Nat → Nat} {thr wst : Int32} {loc slw low high : Int64} {pk den rch pol ask str ins : Nat → Int32} {xp rdl rds off del cam : Nat → Int64} {nn : Nat → Nat} {x : Int64} (hn : ∀ k, k < 5 → nn k ≤ 8) : Met l yM_isCommon [Cond.code yM_isCommon cM_isCommon 6 (some .boolean)] { frames := 5, cells := 0, slots := 0, locals := 116 } (va_Pc [.ref o, .long x] (zz_B (dC, dI) vcl (zz_T cJ cI cB cZ cS) (zm_W o ad cI cJ cZ thr loc slw wst pk den rch pol ask xp str rdl rds nn off del cam ins low high))) (zz_Q (.int (zm_com (zm_c den rch rdl rds off del cam loc nn) (zm_o off del cam loc nn) (zm_d rdl rds off del cam loc nn) x))) 0 0 (fun _ => False) := by
  refine Met.ofW (cc := cM_isCommon) (maxL := 6) (ret := (some .boolean)) (by decide) rfl ?_
  intro p e s m args below meth c s₁ B hml hv
  obtain ⟨rfl, hT, hP, hK⟩ := hv
  have hx := B.exec
  have hb := B.bytes
  have hr := B.returns
  have hlocks := B.notSynchronized
  have hown : s.vm.findClass RM = some m.cls := findClass_of_methodNamed B.named
  have hl := lv_entry ([.ref o, .long x]) (n := 6) (Nat.le_of_ble_eq_true rfl)
  rw [lg_entry_eq]
  generalize (lg_sl ([.ref o, .long x]) ++ List.replicate (6 - (lg_sl ([.ref o, .long x])).length) Slot.unset).toArray = ls at hl ⊢
  have hl : lv_has ls 6 [(0, .ref o), (1, .long x)] := hl
  refine lv_iconst (v := 0) hx hb dM_isCommon_0 (by decide) ?_
  refine lv_istore_n (lv' := [(3, .int 0), (0, .ref o), (1, .long x)]) hx hb dM_isCommon_1 rfl hl (by decide) rfl (fun ls hl => ?_)
  refine lv_iconst (v := 0) hx hb dM_isCommon_2 (by decide) ?_
  refine lv_istore (lv' := [(4, .int 0), (3, .int 0), (0, .ref o), (1, .long x)]) hx hb dM_isCommon_3 hl (by decide) rfl (fun ls hl => ?_)
  refine lv_iconst (v := 0) hx hb dM_isCommon_5 (by decide) ?_
  refine lv_istore (lv' := [(5, .int 0), (4, .int 0), (3, .int 0), (0, .ref o), (1, .long x)]) hx hb dM_isCommon_6 hl (by decide) rfl (fun ls hl => ?_)
  have lp : ∀ (k9 : Nat) (i : Nat), 5 - i < k9 → (i ≤ 5) → ∀ ls : Array Slot, lv_has ls 6 [(0, .ref o), (1, .long x), (3, .int (nI (zm_all (zm_c den rch rdl rds off del cam loc nn) i))), (4, .int (nI (zm_tho (zm_c den rch rdl rds off del cam loc nn) (zm_o off del cam loc nn) (zm_d rdl rds off del cam loc nn) x i))), (5, .int (nI i))] → W p l e ({ frames := 5, cells := 0, slots := 0, locals := 116 } : Room) s m ([.ref o, .long x] : List Value).toArray below meth c s.heap [] 0 0 (MQ below (zz_Q (.int (zm_com (zm_c den rch rdl rds off del cam loc nn) (zm_o off del cam loc nn) (zm_d rdl rds off del cam loc nn) x))) ([.ref o, .long x] : List Value).toArray s 0 0 (fun _ => False)) (F0 m 8 ls []) := by
    intro k9
    induction k9 with
    | zero => intro i hk9; exact absurd hk9 (Nat.not_lt_zero _)
    | succ k9 ih_lp =>
      intro i hk9 hi ls hl
      refine lv_iload hx hb dM_isCommon_8 (lv_at hl 4 rfl) ?_
      refine lv_iconst (v := 5) hx hb dM_isCommon_10 (by decide) ?_
      refine zz_ige (tgt := 63) hx hb dM_isCommon_11 (by decide) (fun h1 => ?_) (fun h1 => ?_)
      · have h1n := mt (zz_ltN (a := i) (b := 5) rfl rfl (by omega) (by omega)).mpr h1
        refine lv_iconst (v := 2) hx hb dM_isCommon_63 (by decide) ?_
        refine lv_iload hx hb dM_isCommon_64 (lv_at hl 3 rfl) ?_
        refine lv_imul hx hb dM_isCommon_66 ?_
        refine lv_iload_n hx hb dM_isCommon_67 rfl (lv_at hl 2 rfl) ?_
        refine zz_ile (tgt := 75) hx hb dM_isCommon_68 (by decide) (fun h2 => ?_) (fun h2 => ?_)
        · refine lv_iconst (v := 0) hx hb dM_isCommon_75 (by decide) ?_
          exact zz_bret hx hb hr hlocks dM_isCommon_76 (by decide) (by have e9 : i = 5 := (by omega); subst e9; exact (if_neg h2).symm)
        · refine lv_iconst (v := 1) hx hb dM_isCommon_71 (by decide) ?_
          refine lv_goto (tgt := 76) hx hb dM_isCommon_72 (by decide) ?_
          exact zz_bret hx hb hr hlocks dM_isCommon_76 (by decide) (by have e9 : i = 5 := (by omega); subst e9; exact (if_pos h2).symm)
      · have h1n := (zz_ltN (a := i) (b := 5) rfl rfl (by omega) (by omega)).mp h1
        refine lv_aload_n hx hb dM_isCommon_14 rfl (lv_at hl 0 rfl) ?_
        refine lv_iload hx hb dM_isCommon_15 (lv_at hl 4 rfl) ?_
        refine zz_call (va_runV (Ts := []) (As := [.int (nI i)]) (own := RM) ⟨hx, hb, hml, hown, fun _ h => nomatch h⟩ (ct_M_isCandidate l (k := i) (by omega) (by first | assumption | exact hn _ (by omega))) (zt_cv hT tc_M_isCandidate tv_M_isCandidate tw_799 ⟨Nat.le_of_ble_eq_true rfl, Nat.le_of_ble_eq_true rfl⟩) (zz_preV (q0 := 0) hT hP hK rfl rfl) rfl rfl hl.1 rfl (lv_room (Nat.le_of_ble_eq_true rfl)) dM_isCommon_17 ⟨Nat.zero_le _, Nat.zero_le _⟩) ?_
        refine zz_zeq (tgt := 57) hx hb dM_isCommon_20 (by decide) (fun h3 => ?_) (fun h3 => ?_)
        · refine lv_iinc (k := 4) (v := nI (i + 1)) (lv' := [(5, .int (nI (i + 1))), (0, .ref o), (1, .long x), (3, .int (nI (zm_all (zm_c den rch rdl rds off del cam loc nn) i))), (4, .int (nI (zm_tho (zm_c den rch rdl rds off del cam loc nn) (zm_o off del cam loc nn) (zm_d rdl rds off del cam loc nn) x i)))]) hx hb dM_isCommon_57 hl rfl (nI_succ _).symm (by decide) rfl (fun ls hl => ?_)
          refine lv_goto (tgt := 8) hx hb dM_isCommon_60 (by decide) ?_
          exact ih_lp (i + 1) (by omega) (by omega) _ (by rw [show nI (zm_all (zm_c den rch rdl rds off del cam loc nn) (i + 1)) = nI (zm_all (zm_c den rch rdl rds off del cam loc nn) i) from congrArg nI (if_pos h3)]; rw [show nI (zm_tho (zm_c den rch rdl rds off del cam loc nn) (zm_o off del cam loc nn) (zm_d rdl rds off del cam loc nn) x (i + 1)) = nI (zm_tho (zm_c den rch rdl rds off del cam loc nn) (zm_o off del cam loc nn) (zm_d rdl rds off del cam loc nn) x i) from congrArg nI (if_neg (fun q => q.1 h3))]; exact lv_sub hl [1, 2, 3, 4, 0] rfl)
        · refine lv_iinc (k := 2) (v := nI ((zm_all (zm_c den rch rdl rds off del cam loc nn) i) + 1)) (lv' := [(3, .int (nI ((zm_all (zm_c den rch rdl rds off del cam loc nn) i) + 1))), (0, .ref o), (1, .long x), (4, .int (nI (zm_tho (zm_c den rch rdl rds off del cam loc nn) (zm_o off del cam loc nn) (zm_d rdl rds off del cam loc nn) x i))), (5, .int (nI i))]) hx hb dM_isCommon_23 hl rfl (nI_succ _).symm (by decide) rfl (fun ls hl => ?_)
          refine lv_iload hx hb dM_isCommon_26 (lv_at hl 3 rfl) ?_
          refine lv_lload_n hx hb dM_isCommon_28 rfl (lv_at hl 2 rfl) ?_
          refine lv_aload_n hx hb dM_isCommon_29 rfl (lv_at hl 1 rfl) ?_
          refine lv_iload hx hb dM_isCommon_30 (lv_at hl 4 rfl) ?_
          refine zz_call (va_runV (Ts := []) (As := [.int (nI i)]) (own := RM) ⟨hx, hb, hml, hown, fun _ h => nomatch h⟩ (ct_M_offsetOf l (k := i) (by omega) (by first | assumption | exact hn _ (by omega))) (zt_cv hT tc_M_offsetOf tv_M_offsetOf tw_759 ⟨Nat.le_of_ble_eq_true rfl, Nat.le_of_ble_eq_true rfl⟩) (zz_preV (q0 := 0) hT hP hK rfl rfl) rfl rfl hl.1 rfl (lv_room (Nat.le_of_ble_eq_true rfl)) dM_isCommon_32 ⟨Nat.zero_le _, Nat.zero_le _⟩) ?_
          refine lv_lsub hx hb dM_isCommon_35 ?_
          refine zz_call (va_runS (Ts := []) (As := [.long (x - (zm_o off del cam loc nn i))]) (own := RM) ⟨hx, hb, hml, hown, fun _ h => nomatch h⟩ (ct_M_size l) (zt_cs hT tc_M_size ts_M_size tw_784 ⟨Nat.le_of_ble_eq_true rfl, Nat.le_of_ble_eq_true rfl⟩) (zz_pre0 hT) rfl rfl hl.1 rfl (lv_room (Nat.le_of_ble_eq_true rfl)) dM_isCommon_36 ⟨Nat.zero_le _, Nat.zero_le _⟩) ?_
          refine lv_aload_n hx hb dM_isCommon_39 rfl (lv_at hl 1 rfl) ?_
          refine lv_iload hx hb dM_isCommon_40 (lv_at hl 4 rfl) ?_
          refine zz_call (va_runV (Ts := []) (As := [.int (nI i)]) (own := RM) ⟨hx, hb, hml, hown, fun _ h => nomatch h⟩ (ct_M_distanceOf l (k := i) (by omega) (by first | assumption | exact hn _ (by omega))) (zt_cv hT tc_M_distanceOf tv_M_distanceOf tw_791 ⟨Nat.le_of_ble_eq_true rfl, Nat.le_of_ble_eq_true rfl⟩) (zz_preV (q0 := 0) hT hP hK rfl rfl) rfl rfl hl.1 rfl (lv_room (Nat.le_of_ble_eq_true rfl)) dM_isCommon_42 ⟨Nat.zero_le _, Nat.zero_le _⟩) ?_
          refine zz_lgt (tgt := 53) hx hb dM_isCommon_45 dM_isCommon_46 (by decide) (fun h4 => ?_) (fun h4 => ?_)
          · refine lv_iconst (v := 0) hx hb dM_isCommon_53 (by decide) ?_
            refine lv_iadd hx hb dM_isCommon_54 ?_
            refine lv_istore (lv' := [(4, .int ((nI (zm_tho (zm_c den rch rdl rds off del cam loc nn) (zm_o off del cam loc nn) (zm_d rdl rds off del cam loc nn) x i)) + 0)), (3, .int (nI ((zm_all (zm_c den rch rdl rds off del cam loc nn) i) + 1))), (0, .ref o), (1, .long x), (5, .int (nI i))]) hx hb dM_isCommon_55 hl (by decide) rfl (fun ls hl => ?_)
            refine lv_iinc (k := 4) (v := nI (i + 1)) (lv' := [(5, .int (nI (i + 1))), (4, .int ((nI (zm_tho (zm_c den rch rdl rds off del cam loc nn) (zm_o off del cam loc nn) (zm_d rdl rds off del cam loc nn) x i)) + 0)), (3, .int (nI ((zm_all (zm_c den rch rdl rds off del cam loc nn) i) + 1))), (0, .ref o), (1, .long x)]) hx hb dM_isCommon_57 hl rfl (nI_succ _).symm (by decide) rfl (fun ls hl => ?_)
            refine lv_goto (tgt := 8) hx hb dM_isCommon_60 (by decide) ?_
            exact ih_lp (i + 1) (by omega) (by omega) _ (by rw [show nI (zm_all (zm_c den rch rdl rds off del cam loc nn) (i + 1)) = nI ((zm_all (zm_c den rch rdl rds off del cam loc nn) i) + 1) from congrArg nI (if_neg h3)]; rw [show nI (zm_tho (zm_c den rch rdl rds off del cam loc nn) (zm_o off del cam loc nn) (zm_d rdl rds off del cam loc nn) x (i + 1)) = (nI (zm_tho (zm_c den rch rdl rds off del cam loc nn) (zm_o off del cam loc nn) (zm_d rdl rds off del cam loc nn) x i)) + 0 from (congrArg nI (if_neg (fun q => q.2 h4))).trans (Int32.add_zero _).symm]; exact lv_sub hl [3, 4, 2, 1, 0] rfl)
          · refine lv_iconst (v := 1) hx hb dM_isCommon_49 (by decide) ?_
            refine lv_goto (tgt := 54) hx hb dM_isCommon_50 (by decide) ?_
            refine lv_iadd hx hb dM_isCommon_54 ?_
            refine lv_istore (lv' := [(4, .int ((nI (zm_tho (zm_c den rch rdl rds off del cam loc nn) (zm_o off del cam loc nn) (zm_d rdl rds off del cam loc nn) x i)) + 1)), (3, .int (nI ((zm_all (zm_c den rch rdl rds off del cam loc nn) i) + 1))), (0, .ref o), (1, .long x), (5, .int (nI i))]) hx hb dM_isCommon_55 hl (by decide) rfl (fun ls hl => ?_)
            refine lv_iinc (k := 4) (v := nI (i + 1)) (lv' := [(5, .int (nI (i + 1))), (4, .int ((nI (zm_tho (zm_c den rch rdl rds off del cam loc nn) (zm_o off del cam loc nn) (zm_d rdl rds off del cam loc nn) x i)) + 1)), (3, .int (nI ((zm_all (zm_c den rch rdl rds off del cam loc nn) i) + 1))), (0, .ref o), (1, .long x)]) hx hb dM_isCommon_57 hl rfl (nI_succ _).symm (by decide) rfl (fun ls hl => ?_)
            refine lv_goto (tgt := 8) hx hb dM_isCommon_60 (by decide) ?_
            exact ih_lp (i + 1) (by omega) (by omega) _ (by rw [show nI (zm_all (zm_c den rch rdl rds off del cam loc nn) (i + 1)) = nI ((zm_all (zm_c den rch rdl rds off del cam loc nn) i) + 1) from congrArg nI (if_neg h3)]; rw [show nI (zm_tho (zm_c den rch rdl rds off del cam loc nn) (zm_o off del cam loc nn) (zm_d rdl rds off del cam loc nn) x (i + 1)) = (nI (zm_tho (zm_c den rch rdl rds off del cam loc nn) (zm_o off del cam loc nn) (zm_d rdl rds off del cam loc nn) x i)) + 1 from (congrArg nI (if_pos ⟨h3, h4⟩)).trans (nI_succ _)]; exact lv_sub hl [3, 4, 2, 1, 0] rfl)
  exact lp (5 - 0 + 1) 0 (by omega) (Nat.zero_le _) _ (by rw [show nI (zm_all (zm_c den rch rdl rds off del cam loc nn) 0) = 0 from rfl]; rw [show nI (zm_tho (zm_c den rch rdl rds off del cam loc nn) (zm_o off del cam loc nn) (zm_d rdl rds off del cam loc nn) x 0) = 0 from rfl]; rw [show nI 0 = 0 from rfl]; exact lv_sub hl [3, 4, 2, 1, 0] rfl)
set_option maxHeartbeats 4000000 in
set_option maxRecDepth 100000 in
theorem ct_M_spread (l : Launch) {dC : Nat → ClassId} {dI : Nat → Nat → Nat} {cJ cI cB cZ cS : ClassId} {o : Nat} {ad : Nat → Nat} {thr wst : Int32} {loc slw low high : Int64} {pk den rch pol ask str ins : Nat → Int32} {xp rdl rds off del cam : Nat → Int64} {nn : Nat → Nat} {k : Nat} (hk : k < 5) (hn : ∀ k, k < 5 → nn k ≤ 8) : Met l yM_spread [Cond.code yM_spread cM_spread 5 (some .long)] { frames := 3, cells := 0, slots := 0, locals := 66 } (va_Pc [.ref o, .int (nI k)] (zz_B (dC, dI) vcl (zz_T cJ cI cB cZ cS) (zm_W o ad cI cJ cZ thr loc slw wst pk den rch pol ask xp str rdl rds nn off del cam ins low high))) (zz_Q (.long (zm_spr ins (zm_o off del cam loc nn) k 5))) 0 0 (fun _ => False) := by
  refine Met.ofW (cc := cM_spread) (maxL := 5) (ret := (some .long)) (by decide) rfl ?_
  intro p e s m args below meth c s₁ B hml hv
  obtain ⟨rfl, hT, hP, hK⟩ := hv
  have hx := B.exec
  have hb := B.bytes
  have hr := B.returns
  have hlocks := B.notSynchronized
  have hown : s.vm.findClass RM = some m.cls := findClass_of_methodNamed B.named
  have hl := lv_entry ([.ref o, .int (nI k)]) (n := 5) (Nat.le_of_ble_eq_true rfl)
  rw [lg_entry_eq]
  generalize (lg_sl ([.ref o, .int (nI k)]) ++ List.replicate (5 - (lg_sl ([.ref o, .int (nI k)])).length) Slot.unset).toArray = ls at hl ⊢
  have hl : lv_has ls 5 [(0, .ref o), (1, .int (nI k))] := hl
  refine lv_lconst (v := 0) hx hb dM_spread_0 (by decide) ?_
  refine lv_lstore_n (lv' := [(2, .long 0), (0, .ref o), (1, .int (nI k))]) hx hb dM_spread_1 rfl hl (by decide) rfl (fun ls hl => ?_)
  refine lv_iconst (v := 0) hx hb dM_spread_2 (by decide) ?_
  refine lv_istore (lv' := [(4, .int 0), (2, .long 0), (0, .ref o), (1, .int (nI k))]) hx hb dM_spread_3 hl (by decide) rfl (fun ls hl => ?_)
  have lp : ∀ (k9 : Nat) (i : Nat), 5 - i < k9 → (i ≤ 5) → ∀ ls : Array Slot, lv_has ls 5 [(0, .ref o), (1, .int (nI k)), (2, .long (zm_spr ins (zm_o off del cam loc nn) k i)), (4, .int (nI i))] → W p l e ({ frames := 3, cells := 0, slots := 0, locals := 66 } : Room) s m ([.ref o, .int (nI k)] : List Value).toArray below meth c s.heap [] 0 0 (MQ below (zz_Q (.long (zm_spr ins (zm_o off del cam loc nn) k 5))) ([.ref o, .int (nI k)] : List Value).toArray s 0 0 (fun _ => False)) (F0 m 5 ls []) := by
    intro k9
    induction k9 with
    | zero => intro i hk9; exact absurd hk9 (Nat.not_lt_zero _)
    | succ k9 ih_lp =>
      intro i hk9 hi ls hl
      refine lv_iload hx hb dM_spread_5 (lv_at hl 3 rfl) ?_
      refine lv_iconst (v := 5) hx hb dM_spread_7 (by decide) ?_
      refine zz_ige (tgt := 49) hx hb dM_spread_8 (by decide) (fun h1 => ?_) (fun h1 => ?_)
      · have h1n := mt (zz_ltN (a := i) (b := 5) rfl rfl (by omega) (by omega)).mpr h1
        refine lv_lload_n hx hb dM_spread_49 rfl (lv_at hl 2 rfl) ?_
        exact zz_lret hx hb hr hlocks dM_spread_50 (by rw [show i = 5 from by omega])
      · have h1n := (zz_ltN (a := i) (b := 5) rfl rfl (by omega) (by omega)).mp h1
        refine lv_lload_n hx hb dM_spread_11 rfl (lv_at hl 2 rfl) ?_
        refine lv_aload_n hx hb dM_spread_12 rfl (lv_at hl 0 rfl) ?_
        refine zz_getM hx hb hT hown hK hP 0 rfl 17 (by decide) tw_634 rfl dM_spread_13 ?_
        refine lv_iload hx hb dM_spread_16 (lv_at hl 3 rfl) ?_
        refine zz_zald hx hb hK hP 14 3 rfl rfl i rfl (by first | omega | decide | assumption) (by decide) dM_spread_18 ?_
        refine zz_zeq (tgt := 40) hx hb dM_spread_19 (by decide) (fun h2 => ?_) (fun h2 => ?_)
        · refine lv_lconst (v := 0) hx hb dM_spread_40 (by decide) ?_
          refine lv_ladd hx hb dM_spread_41 ?_
          refine lv_lstore_n (lv' := [(2, .long ((zm_spr ins (zm_o off del cam loc nn) k i) + 0)), (0, .ref o), (1, .int (nI k)), (4, .int (nI i))]) hx hb dM_spread_42 rfl hl (by decide) rfl (fun ls hl => ?_)
          refine lv_iinc (k := 3) (v := nI (i + 1)) (lv' := [(4, .int (nI (i + 1))), (2, .long ((zm_spr ins (zm_o off del cam loc nn) k i) + 0)), (0, .ref o), (1, .int (nI k))]) hx hb dM_spread_43 hl rfl (nI_succ _).symm (by decide) rfl (fun ls hl => ?_)
          refine lv_goto (tgt := 5) hx hb dM_spread_46 (by decide) ?_
          exact ih_lp (i + 1) (by omega) (by omega) _ (by rw [show zm_spr ins (zm_o off del cam loc nn) k (i + 1) = (zm_spr ins (zm_o off del cam loc nn) k i) + 0 from if_pos h2]; exact lv_sub hl [2, 3, 1, 0] rfl)
        · refine lv_aload_n hx hb dM_spread_22 rfl (lv_at hl 0 rfl) ?_
          refine lv_iload_n hx hb dM_spread_23 rfl (lv_at hl 1 rfl) ?_
          refine zz_call (va_runV (Ts := []) (As := [.int (nI k)]) (own := RM) ⟨hx, hb, hml, hown, fun _ h => nomatch h⟩ (ct_M_offsetOf l (k := k) (by omega) (by first | assumption | exact hn _ (by omega))) (zt_cv hT tc_M_offsetOf tv_M_offsetOf tw_759 ⟨Nat.le_of_ble_eq_true rfl, Nat.le_of_ble_eq_true rfl⟩) (zz_preV (q0 := 0) hT hP hK rfl rfl) rfl rfl hl.1 rfl (lv_room (Nat.le_of_ble_eq_true rfl)) dM_spread_24 ⟨Nat.zero_le _, Nat.zero_le _⟩) ?_
          refine lv_aload_n hx hb dM_spread_27 rfl (lv_at hl 0 rfl) ?_
          refine lv_iload hx hb dM_spread_28 (lv_at hl 3 rfl) ?_
          refine zz_call (va_runV (Ts := []) (As := [.int (nI i)]) (own := RM) ⟨hx, hb, hml, hown, fun _ h => nomatch h⟩ (ct_M_offsetOf l (k := i) (by omega) (by first | assumption | exact hn _ (by omega))) (zt_cv hT tc_M_offsetOf tv_M_offsetOf tw_759 ⟨Nat.le_of_ble_eq_true rfl, Nat.le_of_ble_eq_true rfl⟩) (zz_preV (q0 := 0) hT hP hK rfl rfl) rfl rfl hl.1 rfl (lv_room (Nat.le_of_ble_eq_true rfl)) dM_spread_30 ⟨Nat.zero_le _, Nat.zero_le _⟩) ?_
          refine lv_lsub hx hb dM_spread_33 ?_
          refine zz_call (va_runS (Ts := []) (As := [.long ((zm_o off del cam loc nn k) - (zm_o off del cam loc nn i))]) (own := RM) ⟨hx, hb, hml, hown, fun _ h => nomatch h⟩ (ct_M_size l) (zt_cs hT tc_M_size ts_M_size tw_784 ⟨Nat.le_of_ble_eq_true rfl, Nat.le_of_ble_eq_true rfl⟩) (zz_pre0 hT) rfl rfl hl.1 rfl (lv_room (Nat.le_of_ble_eq_true rfl)) dM_spread_34 ⟨Nat.zero_le _, Nat.zero_le _⟩) ?_
          refine lv_goto (tgt := 41) hx hb dM_spread_37 (by decide) ?_
          refine lv_ladd hx hb dM_spread_41 ?_
          refine lv_lstore_n (lv' := [(2, .long ((zm_spr ins (zm_o off del cam loc nn) k i) + (zn_abs ((zm_o off del cam loc nn k) - (zm_o off del cam loc nn i))))), (0, .ref o), (1, .int (nI k)), (4, .int (nI i))]) hx hb dM_spread_42 rfl hl (by decide) rfl (fun ls hl => ?_)
          refine lv_iinc (k := 3) (v := nI (i + 1)) (lv' := [(4, .int (nI (i + 1))), (2, .long ((zm_spr ins (zm_o off del cam loc nn) k i) + (zn_abs ((zm_o off del cam loc nn k) - (zm_o off del cam loc nn i))))), (0, .ref o), (1, .int (nI k))]) hx hb dM_spread_43 hl rfl (nI_succ _).symm (by decide) rfl (fun ls hl => ?_)
          refine lv_goto (tgt := 5) hx hb dM_spread_46 (by decide) ?_
          exact ih_lp (i + 1) (by omega) (by omega) _ (by rw [show zm_spr ins (zm_o off del cam loc nn) k (i + 1) = (zm_spr ins (zm_o off del cam loc nn) k i) + (zn_abs ((zm_o off del cam loc nn k) - (zm_o off del cam loc nn i))) from if_neg h2]; exact lv_sub hl [2, 3, 1, 0] rfl)
  exact lp (5 - 0 + 1) 0 (by omega) (Nat.zero_le _) _ (by rw [show zm_spr ins (zm_o off del cam loc nn) k 0 = 0 from rfl]; rw [show nI 0 = 0 from rfl]; exact lv_sub hl [2, 3, 1, 0] rfl)
set_option maxHeartbeats 4000000 in
set_option maxRecDepth 100000 in
theorem ct_M_combined (l : Launch) {dC : Nat → ClassId} {dI : Nat → Nat → Nat} {cJ cI cB cZ cS : ClassId} {o : Nat} {ad : Nat → Nat} {thr wst : Int32} {loc slw low high : Int64} {pk den rch pol ask str ins : Nat → Int32} {xp rdl rds off del cam : Nat → Int64} {nn : Nat → Nat} {w : Int32} (hw : ¬ Int32.toInt64 w = 0) (hn : ∀ k, k < 5 → nn k ≤ 8) : Met l yM_combined [Cond.code yM_combined cM_combined 6 (some .long)] { frames := 3, cells := 0, slots := 0, locals := 66 } (va_Pc [.ref o, .int w] (zz_B (dC, dI) vcl (zz_T cJ cI cB cZ cS) (zm_W o ad cI cJ cZ thr loc slw wst pk den rch pol ask xp str rdl rds nn off del cam ins low high))) (zz_Q (.long (zm_cmb ins (zm_o off del cam loc nn) w))) 0 0 (fun _ => False) := by
  refine Met.ofW (cc := cM_combined) (maxL := 6) (ret := (some .long)) (by decide) rfl ?_
  intro p e s m args below meth c s₁ B hml hv
  obtain ⟨rfl, hT, hP, hK⟩ := hv
  have hx := B.exec
  have hb := B.bytes
  have hr := B.returns
  have hlocks := B.notSynchronized
  have hown : s.vm.findClass RM = some m.cls := findClass_of_methodNamed B.named
  have hl := lv_entry ([.ref o, .int w]) (n := 6) (Nat.le_of_ble_eq_true rfl)
  rw [lg_entry_eq]
  generalize (lg_sl ([.ref o, .int w]) ++ List.replicate (6 - (lg_sl ([.ref o, .int w])).length) Slot.unset).toArray = ls at hl ⊢
  have hl : lv_has ls 6 [(0, .ref o), (1, .int w)] := hl
  refine lv_lconst (v := 0) hx hb dM_combined_0 (by decide) ?_
  refine lv_lstore_n (lv' := [(2, .long 0), (0, .ref o), (1, .int w)]) hx hb dM_combined_1 rfl hl (by decide) rfl (fun ls hl => ?_)
  refine lv_iconst (v := 0) hx hb dM_combined_2 (by decide) ?_
  refine lv_istore (lv' := [(4, .int 0), (2, .long 0), (0, .ref o), (1, .int w)]) hx hb dM_combined_3 hl (by decide) rfl (fun ls hl => ?_)
  have lp : ∀ (k9 : Nat) (i : Nat), 5 - i < k9 → (i ≤ 5) → ∀ ls : Array Slot, lv_has ls 6 [(0, .ref o), (1, .int w), (2, .long (zm_sum ins (zm_o off del cam loc nn) i)), (4, .int (nI i))] → W p l e ({ frames := 3, cells := 0, slots := 0, locals := 66 } : Room) s m ([.ref o, .int w] : List Value).toArray below meth c s.heap [] 0 0 (MQ below (zz_Q (.long (zm_cmb ins (zm_o off del cam loc nn) w))) ([.ref o, .int w] : List Value).toArray s 0 0 (fun _ => False)) (F0 m 5 ls []) := by
    intro k9
    induction k9 with
    | zero => intro i hk9; exact absurd hk9 (Nat.not_lt_zero _)
    | succ k9 ih_lp =>
      intro i hk9 hi ls hl
      refine lv_iload hx hb dM_combined_5 (lv_at hl 3 rfl) ?_
      refine lv_iconst (v := 5) hx hb dM_combined_7 (by decide) ?_
      refine zz_ige (tgt := 40) hx hb dM_combined_8 (by decide) (fun h1 => ?_) (fun h1 => ?_)
      · have h1n := mt (zz_ltN (a := i) (b := 5) rfl rfl (by omega) (by omega)).mpr h1
        refine lv_lload_n hx hb dM_combined_40 rfl (lv_at hl 2 rfl) ?_
        refine lv_iload_n hx hb dM_combined_41 rfl (lv_at hl 1 rfl) ?_
        refine lv_i2l (v := Int32.toInt64 w) hx hb dM_combined_42 rfl ?_
        refine lv_ldiv hx hb dM_combined_43 hw ?_
        refine lv_lstore (lv' := [(4, .long ((zm_sum ins (zm_o off del cam loc nn) i) / (Int32.toInt64 w))), (0, .ref o), (1, .int w), (2, .long (zm_sum ins (zm_o off del cam loc nn) i))]) hx hb dM_combined_44 hl (by decide) rfl (fun ls hl => ?_)
        refine lv_lload hx hb dM_combined_46 (lv_at hl 0 rfl) ?_
        refine lv_iload_n hx hb dM_combined_48 rfl (lv_at hl 2 rfl) ?_
        refine lv_i2l (v := Int32.toInt64 w) hx hb dM_combined_49 rfl ?_
        refine lv_lmul hx hb dM_combined_50 ?_
        refine lv_lload_n hx hb dM_combined_51 rfl (lv_at hl 3 rfl) ?_
        refine zz_lle (tgt := 63) hx hb dM_combined_52 dM_combined_53 (by decide) (fun h2 => ?_) (fun h2 => ?_)
        · refine lv_lload hx hb dM_combined_63 (lv_at hl 0 rfl) ?_
          exact zz_lret hx hb hr hlocks dM_combined_65 (by have e9 : i = 5 := (by omega); subst e9; exact (if_neg h2).symm)
        · refine lv_lload hx hb dM_combined_56 (lv_at hl 0 rfl) ?_
          refine lv_lconst (v := 1) hx hb dM_combined_58 (by decide) ?_
          refine lv_lsub hx hb dM_combined_59 ?_
          refine lv_goto (tgt := 65) hx hb dM_combined_60 (by decide) ?_
          exact zz_lret hx hb hr hlocks dM_combined_65 (by have e9 : i = 5 := (by omega); subst e9; exact (if_pos h2).symm)
      · have h1n := (zz_ltN (a := i) (b := 5) rfl rfl (by omega) (by omega)).mp h1
        refine lv_lload_n hx hb dM_combined_11 rfl (lv_at hl 2 rfl) ?_
        refine lv_aload_n hx hb dM_combined_12 rfl (lv_at hl 0 rfl) ?_
        refine zz_getM hx hb hT hown hK hP 0 rfl 17 (by decide) tw_634 rfl dM_combined_13 ?_
        refine lv_iload hx hb dM_combined_16 (lv_at hl 3 rfl) ?_
        refine zz_zald hx hb hK hP 14 3 rfl rfl i rfl (by first | omega | decide | assumption) (by decide) dM_combined_18 ?_
        refine zz_zeq (tgt := 31) hx hb dM_combined_19 (by decide) (fun h3 => ?_) (fun h3 => ?_)
        · refine lv_lconst (v := 0) hx hb dM_combined_31 (by decide) ?_
          refine lv_ladd hx hb dM_combined_32 ?_
          refine lv_lstore_n (lv' := [(2, .long ((zm_sum ins (zm_o off del cam loc nn) i) + 0)), (0, .ref o), (1, .int w), (4, .int (nI i))]) hx hb dM_combined_33 rfl hl (by decide) rfl (fun ls hl => ?_)
          refine lv_iinc (k := 3) (v := nI (i + 1)) (lv' := [(4, .int (nI (i + 1))), (2, .long ((zm_sum ins (zm_o off del cam loc nn) i) + 0)), (0, .ref o), (1, .int w)]) hx hb dM_combined_34 hl rfl (nI_succ _).symm (by decide) rfl (fun ls hl => ?_)
          refine lv_goto (tgt := 5) hx hb dM_combined_37 (by decide) ?_
          exact ih_lp (i + 1) (by omega) (by omega) _ (by rw [show zm_sum ins (zm_o off del cam loc nn) (i + 1) = (zm_sum ins (zm_o off del cam loc nn) i) + 0 from if_pos h3]; exact lv_sub hl [2, 3, 1, 0] rfl)
        · refine lv_aload_n hx hb dM_combined_22 rfl (lv_at hl 0 rfl) ?_
          refine lv_iload hx hb dM_combined_23 (lv_at hl 3 rfl) ?_
          refine zz_call (va_runV (Ts := []) (As := [.int (nI i)]) (own := RM) ⟨hx, hb, hml, hown, fun _ h => nomatch h⟩ (ct_M_offsetOf l (k := i) (by omega) (by first | assumption | exact hn _ (by omega))) (zt_cv hT tc_M_offsetOf tv_M_offsetOf tw_759 ⟨Nat.le_of_ble_eq_true rfl, Nat.le_of_ble_eq_true rfl⟩) (zz_preV (q0 := 0) hT hP hK rfl rfl) rfl rfl hl.1 rfl (lv_room (Nat.le_of_ble_eq_true rfl)) dM_combined_25 ⟨Nat.zero_le _, Nat.zero_le _⟩) ?_
          refine lv_goto (tgt := 32) hx hb dM_combined_28 (by decide) ?_
          refine lv_ladd hx hb dM_combined_32 ?_
          refine lv_lstore_n (lv' := [(2, .long ((zm_sum ins (zm_o off del cam loc nn) i) + (zm_o off del cam loc nn i))), (0, .ref o), (1, .int w), (4, .int (nI i))]) hx hb dM_combined_33 rfl hl (by decide) rfl (fun ls hl => ?_)
          refine lv_iinc (k := 3) (v := nI (i + 1)) (lv' := [(4, .int (nI (i + 1))), (2, .long ((zm_sum ins (zm_o off del cam loc nn) i) + (zm_o off del cam loc nn i))), (0, .ref o), (1, .int w)]) hx hb dM_combined_34 hl rfl (nI_succ _).symm (by decide) rfl (fun ls hl => ?_)
          refine lv_goto (tgt := 5) hx hb dM_combined_37 (by decide) ?_
          exact ih_lp (i + 1) (by omega) (by omega) _ (by rw [show zm_sum ins (zm_o off del cam loc nn) (i + 1) = (zm_sum ins (zm_o off del cam loc nn) i) + (zm_o off del cam loc nn i) from if_neg h3]; exact lv_sub hl [2, 3, 1, 0] rfl)
  exact lp (5 - 0 + 1) 0 (by omega) (Nat.zero_le _) _ (by rw [show zm_sum ins (zm_o off del cam loc nn) 0 = 0 from rfl]; rw [show nI 0 = 0 from rfl]; exact lv_sub hl [2, 3, 1, 0] rfl)
