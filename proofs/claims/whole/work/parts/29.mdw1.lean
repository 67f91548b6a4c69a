/-! The model: small writing methods -/
set_option maxHeartbeats 4000000 in
set_option maxRecDepth 100000 in
theorem ct_M_thrown (l : Launch) {dC : Nat → ClassId} {dI : Nat → Nat → Nat} {cJ cI cB cZ cS : ClassId} {o : Nat} {ad : Nat → Nat} {thr wst : Int32} {loc slw low high : Int64} {pk den rch pol ask str ins : Nat → Int32} {xp rdl rds off del cam : Nat → Int64} {nn : Nat → Nat} : Met l yM_thrown [Cond.code yM_thrown cM_thrown 1 (some .int)] { frames := 0, cells := 0, slots := 0, locals := 0 } (va_Pc [.ref o] (zz_B (dC, dI) vcl (zz_T cJ cI cB cZ cS) (zm_W o ad cI cJ cZ thr loc slw wst pk den rch pol ask xp str rdl rds nn off del cam ins low high))) (zz_Q (.int thr)) 0 0 (fun _ => False) := by
  refine Met.ofW (cc := cM_thrown) (maxL := 1) (ret := (some .int)) (by decide) rfl ?_
  intro p e s m args below meth c s₁ B hml hv
  obtain ⟨rfl, hT, hP, hK⟩ := hv
  have hx := B.exec
  have hb := B.bytes
  have hr := B.returns
  have hlocks := B.notSynchronized
  have hown : s.vm.findClass RM = some m.cls := findClass_of_methodNamed B.named
  have hl := lv_entry ([.ref o]) (n := 1) (Nat.le_of_ble_eq_true rfl)
  rw [lg_entry_eq]
  generalize (lg_sl ([.ref o]) ++ List.replicate (1 - (lg_sl ([.ref o])).length) Slot.unset).toArray = ls at hl ⊢
  have hl : lv_has ls 1 [(0, .ref o)] := hl
  refine lv_aload_n hx hb dM_thrown_0 rfl (lv_at hl 0 rfl) ?_
  refine zz_getM hx hb hT hown hK hP 0 rfl 0 (by decide) tw_617 rfl dM_thrown_1 ?_
  exact zz_iret hx hb hr hlocks dM_thrown_4 (rfl)
set_option maxHeartbeats 4000000 in
set_option maxRecDepth 100000 in
theorem ct_M_local (l : Launch) {dC : Nat → ClassId} {dI : Nat → Nat → Nat} {cJ cI cB cZ cS : ClassId} {sz : Nat} {o : Nat} {ad : Nat → Nat} {thr wst : Int32} {loc slw low high : Int64} {pk den rch pol ask str ins : Nat → Int32} {xp rdl rds off del cam : Nat → Int64} {nn : Nat → Nat}  : Met l yM_local [Cond.code yM_local cM_local 1 (some .long)] { frames := 0, cells := 0, slots := 0, locals := 0 } (va_Pc [.ref o] (zq_B (dC, dI) vcl (zz_T cJ cI cB cZ cS) (zm_W o ad cI cJ cZ thr loc slw wst pk den rch pol ask xp str rdl rds nn off del cam ins low high) sz)) (zq_Q (dC, dI) vcl (some (.long loc)) (zm_W o ad cI cJ cZ thr loc slw wst pk den rch pol ask xp str rdl rds nn off del cam ins low high) (zm_W o ad cI cJ cZ 0 loc slw wst pk den rch pol ask xp str rdl rds nn off del cam ins low high) sz) 0 0 (va_A (zm_W o ad cI cJ cZ thr loc slw wst pk den rch pol ask xp str rdl rds nn off del cam ins low high) sz) := by
  refine Met.ofW (cc := cM_local) (maxL := 1) (ret := (some .long)) (by decide) rfl ?_
  intro p e s m args below meth c s₁ B hml hv
  obtain ⟨rfl, hsz, hT, hP, hK, hD0⟩ := hv
  subst hsz
  have hx := B.exec
  have hb := B.bytes
  have hr := B.returns
  have hlocks := B.notSynchronized
  have hown : s.vm.findClass RM = some m.cls := findClass_of_methodNamed B.named
  have hD := hD0.self (sz := s.heap.size)
  generalize hAe : va_A (zm_W o ad cI cJ cZ thr loc slw wst pk den rch pol ask xp str rdl rds nn off del cam ins low high) s.heap.size = A at hD ⊢
  have hA : ∀ q : Nat, s.heap.size ≤ q → A q := fun q h => by rw [← hAe]; exact Or.inr h
  have hS : va_S A s.heap s.heap [] := va_S.rf
  have hl := lv_entry ([.ref o]) (n := 1) (Nat.le_of_ble_eq_true rfl)
  rw [lg_entry_eq]
  generalize (lg_sl ([.ref o]) ++ List.replicate (1 - (lg_sl ([.ref o])).length) Slot.unset).toArray = ls at hl ⊢
  have hl : lv_has ls 1 [(0, .ref o)] := hl
  refine lv_aload_n hx hb dM_local_0 rfl (lv_at hl 0 rfl) ?_
  refine lv_iconst (v := 0) hx hb dM_local_1 (by decide) ?_
  refine zz_putM (ty := .int) hx hb hT hown hK hP hD hS 0 rfl 0 (by decide) tw_617 rfl (by decide +kernel) rfl rfl (Nat.le_of_ble_eq_true rfl) dM_local_2 (fun H locs hP hD hS => ?_)
  have hP : va_P (dC, dI) vcl (zm_W o ad cI cJ cZ 0 loc slw wst pk den rch pol ask xp str rdl rds nn off del cam ins low high) H := hP
  have hD : va_D A (zm_W o ad cI cJ cZ 0 loc slw wst pk den rch pol ask xp str rdl rds nn off del cam ins low high) := hD
  refine lv_aload_n hx hb dM_local_5 rfl (lv_at hl 0 rfl) ?_
  refine zz_getM hx hb hT hown hK hP 0 rfl 1 (by decide) tw_618 rfl dM_local_6 ?_
  exact zq_lret hx hb hr hlocks dM_local_9 (rfl) hAe hP hD hS
set_option maxHeartbeats 4000000 in
set_option maxRecDepth 100000 in
theorem ct_M_slew (l : Launch) {dC : Nat → ClassId} {dI : Nat → Nat → Nat} {cJ cI cB cZ cS : ClassId} {sz : Nat} {o : Nat} {ad : Nat → Nat} {thr wst : Int32} {loc slw low high : Int64} {pk den rch pol ask str ins : Nat → Int32} {xp rdl rds off del cam : Nat → Int64} {nn : Nat → Nat}  : Met l yM_slew [Cond.code yM_slew cM_slew 1 (some .long)] { frames := 0, cells := 0, slots := 0, locals := 0 } (va_Pc [.ref o] (zq_B (dC, dI) vcl (zz_T cJ cI cB cZ cS) (zm_W o ad cI cJ cZ thr loc slw wst pk den rch pol ask xp str rdl rds nn off del cam ins low high) sz)) (zq_Q (dC, dI) vcl (some (.long slw)) (zm_W o ad cI cJ cZ thr loc slw wst pk den rch pol ask xp str rdl rds nn off del cam ins low high) (zm_W o ad cI cJ cZ 0 loc slw wst pk den rch pol ask xp str rdl rds nn off del cam ins low high) sz) 0 0 (va_A (zm_W o ad cI cJ cZ thr loc slw wst pk den rch pol ask xp str rdl rds nn off del cam ins low high) sz) := by
  refine Met.ofW (cc := cM_slew) (maxL := 1) (ret := (some .long)) (by decide) rfl ?_
  intro p e s m args below meth c s₁ B hml hv
  obtain ⟨rfl, hsz, hT, hP, hK, hD0⟩ := hv
  subst hsz
  have hx := B.exec
  have hb := B.bytes
  have hr := B.returns
  have hlocks := B.notSynchronized
  have hown : s.vm.findClass RM = some m.cls := findClass_of_methodNamed B.named
  have hD := hD0.self (sz := s.heap.size)
  generalize hAe : va_A (zm_W o ad cI cJ cZ thr loc slw wst pk den rch pol ask xp str rdl rds nn off del cam ins low high) s.heap.size = A at hD ⊢
  have hA : ∀ q : Nat, s.heap.size ≤ q → A q := fun q h => by rw [← hAe]; exact Or.inr h
  have hS : va_S A s.heap s.heap [] := va_S.rf
  have hl := lv_entry ([.ref o]) (n := 1) (Nat.le_of_ble_eq_true rfl)
  rw [lg_entry_eq]
  generalize (lg_sl ([.ref o]) ++ List.replicate (1 - (lg_sl ([.ref o])).length) Slot.unset).toArray = ls at hl ⊢
  have hl : lv_has ls 1 [(0, .ref o)] := hl
  refine lv_aload_n hx hb dM_slew_0 rfl (lv_at hl 0 rfl) ?_
  refine lv_iconst (v := 0) hx hb dM_slew_1 (by decide) ?_
  refine zz_putM (ty := .int) hx hb hT hown hK hP hD hS 0 rfl 0 (by decide) tw_617 rfl (by decide +kernel) rfl rfl (Nat.le_of_ble_eq_true rfl) dM_slew_2 (fun H locs hP hD hS => ?_)
  have hP : va_P (dC, dI) vcl (zm_W o ad cI cJ cZ 0 loc slw wst pk den rch pol ask xp str rdl rds nn off del cam ins low high) H := hP
  have hD : va_D A (zm_W o ad cI cJ cZ 0 loc slw wst pk den rch pol ask xp str rdl rds nn off del cam ins low high) := hD
  refine lv_aload_n hx hb dM_slew_5 rfl (lv_at hl 0 rfl) ?_
  refine zz_getM hx hb hT hown hK hP 0 rfl 2 (by decide) tw_619 rfl dM_slew_6 ?_
  exact zq_lret hx hb hr hlocks dM_slew_9 (rfl) hAe hP hD hS
set_option maxHeartbeats 4000000 in
set_option maxRecDepth 100000 in
theorem ct_M_write (l : Launch) {dC : Nat → ClassId} {dI : Nat → Nat → Nat} {cJ cI cB cZ cS : ClassId} {sz : Nat} {o : Nat} {ad : Nat → Nat} {thr wst : Int32} {loc slw low high : Int64} {pk den rch pol ask str ins : Nat → Int32} {xp rdl rds off del cam : Nat → Int64} {nn : Nat → Nat} {u n : Nat} {x : Int64} (hu : u + n ≤ 48) : Met l yM_write [Cond.code yM_write cM_write 6 none] { frames := 0, cells := 0, slots := 0, locals := 0 } (va_Pc [.ref o, .int (nI u), .long x, .int (nI n)] (zq_B (dC, dI) vcl (zz_T cJ cI cB cZ cS) (zm_W o ad cI cJ cZ thr loc slw wst pk den rch pol ask xp str rdl rds nn off del cam ins low high) sz)) (zq_Q (dC, dI) vcl none (zm_W o ad cI cJ cZ thr loc slw wst pk den rch pol ask xp str rdl rds nn off del cam ins low high) (zm_W o ad cI cJ cZ thr loc slw wst (zm_wr pk u x n n) den rch pol ask xp str rdl rds nn off del cam ins low high) sz) 0 0 (va_A (zm_W o ad cI cJ cZ thr loc slw wst pk den rch pol ask xp str rdl rds nn off del cam ins low high) sz) := by
  refine Met.ofW (cc := cM_write) (maxL := 6) (ret := none) (by decide) rfl ?_
  intro p e s m args below meth c s₁ B hml hv
  obtain ⟨rfl, hsz, hT, hP, hK, hD0⟩ := hv
  subst hsz
  have hx := B.exec
  have hb := B.bytes
  have hr := B.returns
  have hlocks := B.notSynchronized
  have hown : s.vm.findClass RM = some m.cls := findClass_of_methodNamed B.named
  have hD := hD0.self (sz := s.heap.size)
  generalize hAe : va_A (zm_W o ad cI cJ cZ thr loc slw wst pk den rch pol ask xp str rdl rds nn off del cam ins low high) s.heap.size = A at hD ⊢
  have hA : ∀ q : Nat, s.heap.size ≤ q → A q := fun q h => by rw [← hAe]; exact Or.inr h
  have hS : va_S A s.heap s.heap [] := va_S.rf
  have hl := lv_entry ([.ref o, .int (nI u), .long x, .int (nI n)]) (n := 6) (Nat.le_of_ble_eq_true rfl)
  rw [lg_entry_eq]
  generalize (lg_sl ([.ref o, .int (nI u), .long x, .int (nI n)]) ++ List.replicate (6 - (lg_sl ([.ref o, .int (nI u), .long x, .int (nI n)])).length) Slot.unset).toArray = ls at hl ⊢
  have hl : lv_has ls 6 [(0, .ref o), (1, .int (nI u)), (2, .long x), (4, .int (nI n))] := hl
  refine lv_iconst (v := 0) hx hb dM_write_0 (by decide) ?_
  refine lv_istore (lv' := [(5, .int 0), (0, .ref o), (1, .int (nI u)), (2, .long x), (4, .int (nI n))]) hx hb dM_write_1 hl (by decide) rfl (fun ls hl => ?_)
  have lp : ∀ (k9 : Nat) (i : Nat) (H : Heap) (locs : List Loc), n - i < k9 → (i ≤ n) → va_P (dC, dI) vcl (zm_W o ad cI cJ cZ thr loc slw wst (zm_wr pk u x n i) den rch pol ask xp str rdl rds nn off del cam ins low high) H → va_D A (zm_W o ad cI cJ cZ thr loc slw wst (zm_wr pk u x n i) den rch pol ask xp str rdl rds nn off del cam ins low high) → va_S A s.heap H locs → ∀ ls : Array Slot, lv_has ls 6 [(0, .ref o), (1, .int (nI u)), (2, .long x), (4, .int (nI n)), (5, .int (nI i))] → W p l e ({ frames := 0, cells := 0, slots := 0, locals := 0 } : Room) s m ([.ref o, .int (nI u), .long x, .int (nI n)] : List Value).toArray below meth c H locs 0 0 (MQ below (zq_Q (dC, dI) vcl none (zm_W o ad cI cJ cZ thr loc slw wst pk den rch pol ask xp str rdl rds nn off del cam ins low high) (zm_W o ad cI cJ cZ thr loc slw wst (zm_wr pk u x n n) den rch pol ask xp str rdl rds nn off del cam ins low high) s.heap.size) ([.ref o, .int (nI u), .long x, .int (nI n)] : List Value).toArray s 0 0 A) (F0 m 3 ls []) := by
    intro k9
    induction k9 with
    | zero => intro i H locs hk9; exact absurd hk9 (Nat.not_lt_zero _)
    | succ k9 ih_lp =>
      intro i H locs hk9 hi hP hD hS ls hl
      refine lv_iload hx hb dM_write_3 (lv_at hl 4 rfl) ?_
      refine lv_iload hx hb dM_write_5 (lv_at hl 3 rfl) ?_
      refine zz_ige (tgt := 42) hx hb dM_write_7 (by decide) (fun h1 => ?_) (fun h1 => ?_)
      · have h1n := mt (zz_ltN (a := i) (b := n) rfl rfl (by omega) (by omega)).mpr h1
        exact zq_vret hx hb hr hlocks dM_write_42 hAe (by rw [show zm_wr pk u x n n = zm_wr pk u x n i from by rw [show i = n from (by omega)]]; exact hP) (by rw [show zm_wr pk u x n n = zm_wr pk u x n i from by rw [show i = n from (by omega)]]; exact hD) hS
      · have h1n := (zz_ltN (a := i) (b := n) rfl rfl (by omega) (by omega)).mp h1
        refine lv_aload_n hx hb dM_write_10 rfl (lv_at hl 0 rfl) ?_
        refine zz_getM hx hb hT hown hK hP 0 rfl 4 (by decide) tw_621 rfl dM_write_11 ?_
        refine lv_iload_n hx hb dM_write_14 rfl (lv_at hl 1 rfl) ?_
        refine lv_iload hx hb dM_write_15 (lv_at hl 4 rfl) ?_
        refine lv_iadd hx hb dM_write_17 ?_
        refine lv_lload_n hx hb dM_write_18 rfl (lv_at hl 2 rfl) ?_
        refine lv_bipush (v := 8) hx hb dM_write_19 (by decide) ?_
        refine lv_iload hx hb dM_write_21 (lv_at hl 3 rfl) ?_
        refine lv_iconst (v := 1) hx hb dM_write_23 (by decide) ?_
        refine lv_isub hx hb dM_write_24 ?_
        refine lv_iload hx hb dM_write_25 (lv_at hl 4 rfl) ?_
        refine lv_isub hx hb dM_write_27 ?_
        refine lv_imul hx hb dM_write_28 ?_
        refine lv_lushr (v := (Int64.toUInt64 x >>> ((Int32.toInt64 (8 * (((nI n) - 1) - (nI i)))).toUInt64 &&& Int64.toUInt64 63)).toInt64) hx hb dM_write_29 rfl ?_
        refine lv_ldc2 (own := RM) (v := 255) hx hb hown (hT.w tw_706) dM_write_30 ?_
        refine lv_land hx hb dM_write_33 ?_
        refine lv_l2i (v := Int64.toInt32 (((Int64.toUInt64 x >>> ((Int32.toInt64 (8 * (((nI n) - 1) - (nI i)))).toUInt64 &&& Int64.toUInt64 63)).toInt64) &&& 255)) hx hb dM_write_34 rfl ?_
        refine zq_iast hx hb hK hP hD hS 1 1 rfl rfl (u + i) (nI_add _ _) (by first | omega | decide | assumption) (by decide) dM_write_35 (fun H locs hP hD hS => ?_)
        have hP : va_P (dC, dI) vcl (zm_W o ad cI cJ cZ thr loc slw wst (upd (zm_wr pk u x n i) (u + i) (Int64.toInt32 (((Int64.toUInt64 x >>> ((Int32.toInt64 (8 * (((nI n) - 1) - (nI i)))).toUInt64 &&& Int64.toUInt64 63)).toInt64) &&& 255))) den rch pol ask xp str rdl rds nn off del cam ins low high) H := hP
        have hD : va_D A (zm_W o ad cI cJ cZ thr loc slw wst (upd (zm_wr pk u x n i) (u + i) (Int64.toInt32 (((Int64.toUInt64 x >>> ((Int32.toInt64 (8 * (((nI n) - 1) - (nI i)))).toUInt64 &&& Int64.toUInt64 63)).toInt64) &&& 255))) den rch pol ask xp str rdl rds nn off del cam ins low high) := hD
        refine lv_iinc (k := 4) (v := nI (i + 1)) (lv' := [(5, .int (nI (i + 1))), (0, .ref o), (1, .int (nI u)), (2, .long x), (4, .int (nI n))]) hx hb dM_write_36 hl rfl (nI_succ _).symm (by decide) rfl (fun ls hl => ?_)
        refine lv_goto (tgt := 3) hx hb dM_write_39 (by decide) ?_
        exact ih_lp (i + 1) _ _ (by omega) (by omega) (by rw [show zm_wr pk u x n (i + 1) = upd (zm_wr pk u x n i) (u + i) (Int64.toInt32 (((Int64.toUInt64 x >>> ((Int32.toInt64 (8 * (((nI n) - 1) - (nI i)))).toUInt64 &&& Int64.toUInt64 63)).toInt64) &&& 255)) from rfl]; exact hP) (by rw [show zm_wr pk u x n (i + 1) = upd (zm_wr pk u x n i) (u + i) (Int64.toInt32 (((Int64.toUInt64 x >>> ((Int32.toInt64 (8 * (((nI n) - 1) - (nI i)))).toUInt64 &&& Int64.toUInt64 63)).toInt64) &&& 255)) from rfl]; exact hD) hS _ (lv_sub hl [1, 2, 3, 4, 0] rfl)
  exact lp (n - 0 + 1) 0 _ _ (by omega) (Nat.zero_le _) (by rw [show zm_wr pk u x n 0 = pk from rfl]; exact hP) (by rw [show zm_wr pk u x n 0 = pk from rfl]; exact hD) hS _ (by rw [show nI 0 = 0 from rfl]; exact lv_sub hl [1, 2, 3, 4, 0] rfl)
set_option maxHeartbeats 4000000 in
set_option maxRecDepth 100000 in
theorem ct_M_run (l : Launch) {dC : Nat → ClassId} {dI : Nat → Nat → Nat} {cJ cI cB cZ cS : ClassId} {sz : Nat} {o : Nat} {ad : Nat → Nat} {thr wst : Int32} {loc slw low high : Int64} {pk den rch pol ask str ins : Nat → Int32} {xp rdl rds off del cam : Nat → Int64} {nn : Nat → Nat} {x : Int64} : Met l yM_run [Cond.code yM_run cM_run 7 none] { frames := 0, cells := 0, slots := 0, locals := 0 } (va_Pc [.ref o, .long x] (zq_B (dC, dI) vcl (zz_T cJ cI cB cZ cS) (zm_W o ad cI cJ cZ thr loc slw wst pk den rch pol ask xp str rdl rds nn off del cam ins low high) sz)) (zq_Q (dC, dI) vcl none (zm_W o ad cI cJ cZ thr loc slw wst pk den rch pol ask xp str rdl rds nn off del cam ins low high) (zm_W o ad cI cJ cZ (zm_rt x) (zm_rl x loc slw) (zm_rs x slw) wst pk den rch pol ask xp str rdl rds nn off del cam ins low high) sz) 0 0 (va_A (zm_W o ad cI cJ cZ thr loc slw wst pk den rch pol ask xp str rdl rds nn off del cam ins low high) sz) := by
  refine Met.ofW (cc := cM_run) (maxL := 7) (ret := none) (by decide) rfl ?_
  intro p e s m args below meth c s₁ B hml hv
  obtain ⟨rfl, hsz, hT, hP, hK, hD0⟩ := hv
  subst hsz
  have hx := B.exec
  have hb := B.bytes
  have hr := B.returns
  have hlocks := B.notSynchronized
  have hown : s.vm.findClass RM = some m.cls := findClass_of_methodNamed B.named
  have hD := hD0.self (sz := s.heap.size)
  generalize hAe : va_A (zm_W o ad cI cJ cZ thr loc slw wst pk den rch pol ask xp str rdl rds nn off del cam ins low high) s.heap.size = A at hD ⊢
  have hA : ∀ q : Nat, s.heap.size ≤ q → A q := fun q h => by rw [← hAe]; exact Or.inr h
  have hS : va_S A s.heap s.heap [] := va_S.rf
  have hl := lv_entry ([.ref o, .long x]) (n := 7) (Nat.le_of_ble_eq_true rfl)
  rw [lg_entry_eq]
  generalize (lg_sl ([.ref o, .long x]) ++ List.replicate (7 - (lg_sl ([.ref o, .long x])).length) Slot.unset).toArray = ls at hl ⊢
  have hl : lv_has ls 7 [(0, .ref o), (1, .long x)] := hl
  refine lv_aload_n hx hb dM_run_0 rfl (lv_at hl 0 rfl) ?_
  refine lv_lload_n hx hb dM_run_1 rfl (lv_at hl 1 rfl) ?_
  refine lv_lconst (v := 0) hx hb dM_run_2 (by decide) ?_
  refine zz_llt (tgt := 15) hx hb dM_run_3 dM_run_4 (by decide) (fun h1 => ?_) (fun h1 => ?_)
  · refine lv_iconst (v := 1) hx hb dM_run_15 (by decide) ?_
    refine lv_goto (tgt := 20) hx hb dM_run_16 (by decide) ?_
    refine zz_putM (ty := .int) hx hb hT hown hK hP hD hS 0 rfl 0 (by decide) tw_617 rfl (by decide +kernel) rfl rfl (Nat.le_of_ble_eq_true rfl) dM_run_20 (fun H locs hP hD hS => ?_)
    have hP : va_P (dC, dI) vcl (zm_W o ad cI cJ cZ 1 loc slw wst pk den rch pol ask xp str rdl rds nn off del cam ins low high) H := hP
    have hD : va_D A (zm_W o ad cI cJ cZ 1 loc slw wst pk den rch pol ask xp str rdl rds nn off del cam ins low high) := hD
    refine lv_aload_n hx hb dM_run_23 rfl (lv_at hl 0 rfl) ?_
    refine zz_getM hx hb hT hown hK hP 0 rfl 0 (by decide) tw_617 rfl dM_run_24 ?_
    refine zz_zle (tgt := 31) hx hb dM_run_27 (by decide) (fun h => absurd h (by decide)) (fun _ => ?_)
    exact zq_vret hx hb hr hlocks dM_run_30 hAe (by rw [show zm_rt x = 1 from if_pos (Or.inl h1)]; rw [show zm_rl x loc slw = loc from if_pos (Or.inl h1)]; rw [show zm_rs x slw = slw from if_pos (Or.inl h1)]; exact hP) (by rw [show zm_rt x = 1 from if_pos (Or.inl h1)]; rw [show zm_rl x loc slw = loc from if_pos (Or.inl h1)]; rw [show zm_rs x slw = slw from if_pos (Or.inl h1)]; exact hD) hS
  · refine lv_lload_n hx hb dM_run_7 rfl (lv_at hl 1 rfl) ?_
    refine lv_ldc2 (own := RM) (v := 1099511627776) hx hb hown (hT.w tw_688) dM_run_8 ?_
    refine zz_lle (tgt := 19) hx hb dM_run_11 dM_run_12 (by decide) (fun h2 => ?_) (fun h2 => ?_)
    · refine lv_iconst (v := 0) hx hb dM_run_19 (by decide) ?_
      refine zz_putM (ty := .int) hx hb hT hown hK hP hD hS 0 rfl 0 (by decide) tw_617 rfl (by decide +kernel) rfl rfl (Nat.le_of_ble_eq_true rfl) dM_run_20 (fun H locs hP hD hS => ?_)
      have hP : va_P (dC, dI) vcl (zm_W o ad cI cJ cZ 0 loc slw wst pk den rch pol ask xp str rdl rds nn off del cam ins low high) H := hP
      have hD : va_D A (zm_W o ad cI cJ cZ 0 loc slw wst pk den rch pol ask xp str rdl rds nn off del cam ins low high) := hD
      refine lv_aload_n hx hb dM_run_23 rfl (lv_at hl 0 rfl) ?_
      refine zz_getM hx hb hT hown hK hP 0 rfl 0 (by decide) tw_617 rfl dM_run_24 ?_
      refine zz_zle (tgt := 31) hx hb dM_run_27 (by decide) (fun _ => ?_) (fun h => absurd h (by decide))
      refine lv_lload_n hx hb dM_run_31 rfl (lv_at hl 1 rfl) ?_
      refine lv_ldc2 (own := RM) (v := 2048) hx hb hown (hT.w tw_689) dM_run_32 ?_
      refine lv_ldiv hx hb dM_run_35 (by decide) ?_
      refine lv_lstore_n (lv' := [(3, .long (x / 2048)), (0, .ref o), (1, .long x)]) hx hb dM_run_36 rfl hl (by decide) rfl (fun ls hl => ?_)
      refine lv_aload_n hx hb dM_run_37 rfl (lv_at hl 1 rfl) ?_
      refine zz_getM hx hb hT hown hK hP 0 rfl 2 (by decide) tw_619 rfl dM_run_38 ?_
      refine lv_lload_n hx hb dM_run_41 rfl (lv_at hl 0 rfl) ?_
      refine zz_lle (tgt := 50) hx hb dM_run_42 dM_run_43 (by decide) (fun h3 => ?_) (fun h3 => ?_)
      · refine lv_aload_n hx hb dM_run_50 rfl (lv_at hl 1 rfl) ?_
        refine zz_getM hx hb hT hown hK hP 0 rfl 2 (by decide) tw_619 rfl dM_run_51 ?_
        refine lv_lload_n hx hb dM_run_54 rfl (lv_at hl 0 rfl) ?_
        refine lv_lneg hx hb dM_run_55 ?_
        refine zz_lge (tgt := 65) hx hb dM_run_56 dM_run_57 (by decide) (fun h4 => ?_) (fun h4 => ?_)
        · refine lv_aload_n hx hb dM_run_65 rfl (lv_at hl 1 rfl) ?_
          refine zz_getM hx hb hT hown hK hP 0 rfl 2 (by decide) tw_619 rfl dM_run_66 ?_
          refine lv_lstore (lv' := [(5, .long slw), (3, .long (x / 2048)), (0, .ref o), (1, .long x)]) hx hb dM_run_69 hl (by decide) rfl (fun ls hl => ?_)
          refine lv_aload_n hx hb dM_run_71 rfl (lv_at hl 2 rfl) ?_
          refine lv_aload_n hx hb dM_run_72 rfl (lv_at hl 2 rfl) ?_
          refine zz_getM hx hb hT hown hK hP 0 rfl 1 (by decide) tw_618 rfl dM_run_73 ?_
          refine lv_lload_n hx hb dM_run_76 rfl (lv_at hl 3 rfl) ?_
          refine lv_ladd hx hb dM_run_77 ?_
          refine lv_lload hx hb dM_run_78 (lv_at hl 0 rfl) ?_
          refine lv_ladd hx hb dM_run_80 ?_
          refine zz_putM (ty := .long) hx hb hT hown hK hP hD hS 0 rfl 1 (by decide) tw_618 rfl (by decide +kernel) rfl rfl (Nat.le_of_ble_eq_true rfl) dM_run_81 (fun H locs hP hD hS => ?_)
          have hP : va_P (dC, dI) vcl (zm_W o ad cI cJ cZ 0 ((loc + x) + slw) slw wst pk den rch pol ask xp str rdl rds nn off del cam ins low high) H := hP
          have hD : va_D A (zm_W o ad cI cJ cZ 0 ((loc + x) + slw) slw wst pk den rch pol ask xp str rdl rds nn off del cam ins low high) := hD
          refine lv_aload_n hx hb dM_run_84 rfl (lv_at hl 2 rfl) ?_
          refine lv_aload_n hx hb dM_run_85 rfl (lv_at hl 2 rfl) ?_
          refine zz_getM hx hb hT hown hK hP 0 rfl 2 (by decide) tw_619 rfl dM_run_86 ?_
          refine lv_lload hx hb dM_run_89 (lv_at hl 0 rfl) ?_
          refine lv_lsub hx hb dM_run_91 ?_
          refine zz_putM (ty := .long) hx hb hT hown hK hP hD hS 0 rfl 2 (by decide) tw_619 rfl (by decide +kernel) rfl rfl (Nat.le_of_ble_eq_true rfl) dM_run_92 (fun H locs hP hD hS => ?_)
          have hP : va_P (dC, dI) vcl (zm_W o ad cI cJ cZ 0 ((loc + x) + slw) (slw - slw) wst pk den rch pol ask xp str rdl rds nn off del cam ins low high) H := hP
          have hD : va_D A (zm_W o ad cI cJ cZ 0 ((loc + x) + slw) (slw - slw) wst pk den rch pol ask xp str rdl rds nn off del cam ins low high) := hD
          exact zq_vret hx hb hr hlocks dM_run_95 hAe (by rw [show zm_rt x = 0 from if_neg (fun q => q.elim h1 h2)]; rw [show zm_rl x loc slw = (loc + x) + slw from (if_neg (fun q => q.elim h1 h2)).trans (congrArg (fun z => (loc + x) + z) (show zm_prt (x / 2048) slw = _ from (if_neg h3).trans (if_neg h4)))]; rw [show zm_rs x slw = slw - slw from (if_neg (fun q => q.elim h1 h2)).trans (congrArg (fun z => slw - z) (show zm_prt (x / 2048) slw = _ from (if_neg h3).trans (if_neg h4)))]; exact hP) (by rw [show zm_rt x = 0 from if_neg (fun q => q.elim h1 h2)]; rw [show zm_rl x loc slw = (loc + x) + slw from (if_neg (fun q => q.elim h1 h2)).trans (congrArg (fun z => (loc + x) + z) (show zm_prt (x / 2048) slw = _ from (if_neg h3).trans (if_neg h4)))]; rw [show zm_rs x slw = slw - slw from (if_neg (fun q => q.elim h1 h2)).trans (congrArg (fun z => slw - z) (show zm_prt (x / 2048) slw = _ from (if_neg h3).trans (if_neg h4)))]; exact hD) hS
        · refine lv_lload_n hx hb dM_run_60 rfl (lv_at hl 0 rfl) ?_
          refine lv_lneg hx hb dM_run_61 ?_
          refine lv_goto (tgt := 69) hx hb dM_run_62 (by decide) ?_
          refine lv_lstore (lv' := [(5, .long (-(x / 2048))), (3, .long (x / 2048)), (0, .ref o), (1, .long x)]) hx hb dM_run_69 hl (by decide) rfl (fun ls hl => ?_)
          refine lv_aload_n hx hb dM_run_71 rfl (lv_at hl 2 rfl) ?_
          refine lv_aload_n hx hb dM_run_72 rfl (lv_at hl 2 rfl) ?_
          refine zz_getM hx hb hT hown hK hP 0 rfl 1 (by decide) tw_618 rfl dM_run_73 ?_
          refine lv_lload_n hx hb dM_run_76 rfl (lv_at hl 3 rfl) ?_
          refine lv_ladd hx hb dM_run_77 ?_
          refine lv_lload hx hb dM_run_78 (lv_at hl 0 rfl) ?_
          refine lv_ladd hx hb dM_run_80 ?_
          refine zz_putM (ty := .long) hx hb hT hown hK hP hD hS 0 rfl 1 (by decide) tw_618 rfl (by decide +kernel) rfl rfl (Nat.le_of_ble_eq_true rfl) dM_run_81 (fun H locs hP hD hS => ?_)
          have hP : va_P (dC, dI) vcl (zm_W o ad cI cJ cZ 0 ((loc + x) + (-(x / 2048))) slw wst pk den rch pol ask xp str rdl rds nn off del cam ins low high) H := hP
          have hD : va_D A (zm_W o ad cI cJ cZ 0 ((loc + x) + (-(x / 2048))) slw wst pk den rch pol ask xp str rdl rds nn off del cam ins low high) := hD
          refine lv_aload_n hx hb dM_run_84 rfl (lv_at hl 2 rfl) ?_
          refine lv_aload_n hx hb dM_run_85 rfl (lv_at hl 2 rfl) ?_
          refine zz_getM hx hb hT hown hK hP 0 rfl 2 (by decide) tw_619 rfl dM_run_86 ?_
          refine lv_lload hx hb dM_run_89 (lv_at hl 0 rfl) ?_
          refine lv_lsub hx hb dM_run_91 ?_
          refine zz_putM (ty := .long) hx hb hT hown hK hP hD hS 0 rfl 2 (by decide) tw_619 rfl (by decide +kernel) rfl rfl (Nat.le_of_ble_eq_true rfl) dM_run_92 (fun H locs hP hD hS => ?_)
          have hP : va_P (dC, dI) vcl (zm_W o ad cI cJ cZ 0 ((loc + x) + (-(x / 2048))) (slw - (-(x / 2048))) wst pk den rch pol ask xp str rdl rds nn off del cam ins low high) H := hP
          have hD : va_D A (zm_W o ad cI cJ cZ 0 ((loc + x) + (-(x / 2048))) (slw - (-(x / 2048))) wst pk den rch pol ask xp str rdl rds nn off del cam ins low high) := hD
          exact zq_vret hx hb hr hlocks dM_run_95 hAe (by rw [show zm_rt x = 0 from if_neg (fun q => q.elim h1 h2)]; rw [show zm_rl x loc slw = (loc + x) + (-(x / 2048)) from (if_neg (fun q => q.elim h1 h2)).trans (congrArg (fun z => (loc + x) + z) (show zm_prt (x / 2048) slw = _ from (if_neg h3).trans (if_pos h4)))]; rw [show zm_rs x slw = slw - (-(x / 2048)) from (if_neg (fun q => q.elim h1 h2)).trans (congrArg (fun z => slw - z) (show zm_prt (x / 2048) slw = _ from (if_neg h3).trans (if_pos h4)))]; exact hP) (by rw [show zm_rt x = 0 from if_neg (fun q => q.elim h1 h2)]; rw [show zm_rl x loc slw = (loc + x) + (-(x / 2048)) from (if_neg (fun q => q.elim h1 h2)).trans (congrArg (fun z => (loc + x) + z) (show zm_prt (x / 2048) slw = _ from (if_neg h3).trans (if_pos h4)))]; rw [show zm_rs x slw = slw - (-(x / 2048)) from (if_neg (fun q => q.elim h1 h2)).trans (congrArg (fun z => slw - z) (show zm_prt (x / 2048) slw = _ from (if_neg h3).trans (if_pos h4)))]; exact hD) hS
      · refine lv_lload_n hx hb dM_run_46 rfl (lv_at hl 0 rfl) ?_
        refine lv_goto (tgt := 69) hx hb dM_run_47 (by decide) ?_
        refine lv_lstore (lv' := [(5, .long (x / 2048)), (3, .long (x / 2048)), (0, .ref o), (1, .long x)]) hx hb dM_run_69 hl (by decide) rfl (fun ls hl => ?_)
        refine lv_aload_n hx hb dM_run_71 rfl (lv_at hl 2 rfl) ?_
        refine lv_aload_n hx hb dM_run_72 rfl (lv_at hl 2 rfl) ?_
        refine zz_getM hx hb hT hown hK hP 0 rfl 1 (by decide) tw_618 rfl dM_run_73 ?_
        refine lv_lload_n hx hb dM_run_76 rfl (lv_at hl 3 rfl) ?_
        refine lv_ladd hx hb dM_run_77 ?_
        refine lv_lload hx hb dM_run_78 (lv_at hl 0 rfl) ?_
        refine lv_ladd hx hb dM_run_80 ?_
        refine zz_putM (ty := .long) hx hb hT hown hK hP hD hS 0 rfl 1 (by decide) tw_618 rfl (by decide +kernel) rfl rfl (Nat.le_of_ble_eq_true rfl) dM_run_81 (fun H locs hP hD hS => ?_)
        have hP : va_P (dC, dI) vcl (zm_W o ad cI cJ cZ 0 ((loc + x) + (x / 2048)) slw wst pk den rch pol ask xp str rdl rds nn off del cam ins low high) H := hP
        have hD : va_D A (zm_W o ad cI cJ cZ 0 ((loc + x) + (x / 2048)) slw wst pk den rch pol ask xp str rdl rds nn off del cam ins low high) := hD
        refine lv_aload_n hx hb dM_run_84 rfl (lv_at hl 2 rfl) ?_
        refine lv_aload_n hx hb dM_run_85 rfl (lv_at hl 2 rfl) ?_
        refine zz_getM hx hb hT hown hK hP 0 rfl 2 (by decide) tw_619 rfl dM_run_86 ?_
        refine lv_lload hx hb dM_run_89 (lv_at hl 0 rfl) ?_
        refine lv_lsub hx hb dM_run_91 ?_
        refine zz_putM (ty := .long) hx hb hT hown hK hP hD hS 0 rfl 2 (by decide) tw_619 rfl (by decide +kernel) rfl rfl (Nat.le_of_ble_eq_true rfl) dM_run_92 (fun H locs hP hD hS => ?_)
        have hP : va_P (dC, dI) vcl (zm_W o ad cI cJ cZ 0 ((loc + x) + (x / 2048)) (slw - (x / 2048)) wst pk den rch pol ask xp str rdl rds nn off del cam ins low high) H := hP
        have hD : va_D A (zm_W o ad cI cJ cZ 0 ((loc + x) + (x / 2048)) (slw - (x / 2048)) wst pk den rch pol ask xp str rdl rds nn off del cam ins low high) := hD
        exact zq_vret hx hb hr hlocks dM_run_95 hAe (by rw [show zm_rt x = 0 from if_neg (fun q => q.elim h1 h2)]; rw [show zm_rl x loc slw = (loc + x) + (x / 2048) from (if_neg (fun q => q.elim h1 h2)).trans (congrArg (fun z => (loc + x) + z) (show zm_prt (x / 2048) slw = _ from if_pos h3))]; rw [show zm_rs x slw = slw - (x / 2048) from (if_neg (fun q => q.elim h1 h2)).trans (congrArg (fun z => slw - z) (show zm_prt (x / 2048) slw = _ from if_pos h3))]; exact hP) (by rw [show zm_rt x = 0 from if_neg (fun q => q.elim h1 h2)]; rw [show zm_rl x loc slw = (loc + x) + (x / 2048) from (if_neg (fun q => q.elim h1 h2)).trans (congrArg (fun z => (loc + x) + z) (show zm_prt (x / 2048) slw = _ from if_pos h3))]; rw [show zm_rs x slw = slw - (x / 2048) from (if_neg (fun q => q.elim h1 h2)).trans (congrArg (fun z => slw - z) (show zm_prt (x / 2048) slw = _ from if_pos h3))]; exact hD) hS
    · refine lv_iconst (v := 1) hx hb dM_run_15 (by decide) ?_
      refine lv_goto (tgt := 20) hx hb dM_run_16 (by decide) ?_
      refine zz_putM (ty := .int) hx hb hT hown hK hP hD hS 0 rfl 0 (by decide) tw_617 rfl (by decide +kernel) rfl rfl (Nat.le_of_ble_eq_true rfl) dM_run_20 (fun H locs hP hD hS => ?_)
      have hP : va_P (dC, dI) vcl (zm_W o ad cI cJ cZ 1 loc slw wst pk den rch pol ask xp str rdl rds nn off del cam ins low high) H := hP
      have hD : va_D A (zm_W o ad cI cJ cZ 1 loc slw wst pk den rch pol ask xp str rdl rds nn off del cam ins low high) := hD
      refine lv_aload_n hx hb dM_run_23 rfl (lv_at hl 0 rfl) ?_
      refine zz_getM hx hb hT hown hK hP 0 rfl 0 (by decide) tw_617 rfl dM_run_24 ?_
      refine zz_zle (tgt := 31) hx hb dM_run_27 (by decide) (fun h => absurd h (by decide)) (fun _ => ?_)
      exact zq_vret hx hb hr hlocks dM_run_30 hAe (by rw [show zm_rt x = 1 from if_pos (Or.inr h2)]; rw [show zm_rl x loc slw = loc from if_pos (Or.inr h2)]; rw [show zm_rs x slw = slw from if_pos (Or.inr h2)]; exact hP) (by rw [show zm_rt x = 1 from if_pos (Or.inr h2)]; rw [show zm_rl x loc slw = loc from if_pos (Or.inr h2)]; rw [show zm_rs x slw = slw from if_pos (Or.inr h2)]; exact hD) hS
