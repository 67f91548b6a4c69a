/-! The model: put, echo, send -/
set_option maxHeartbeats 4000000 in
set_option maxRecDepth 100000 in
theorem ct_M_put (l : Launch) {dC : Nat → ClassId} {dI : Nat → Nat → Nat} {cJ cI cB cZ cS : ClassId} {sz : Nat} {o : Nat} {ad : Nat → Nat} {thr wst : Int32} {loc slw low high : Int64} {pk den rch pol ask str ins : Nat → Int32} {xp rdl rds off del cam : Nat → Int64} {nn : Nat → Nat} {u w : Nat} {x : Int64} (h1w : 1 ≤ w) (hw8 : w ≤ 8) (huw : u + w ≤ 48) : Met l yM_put [Cond.code yM_put cM_put 5 none] { frames := 1, cells := 0, slots := 0, locals := 25 } (va_Pc [.ref o, .int (nI u), .long x, .int (nI w)] (zq_B (dC, dI) vcl (zz_T cJ cI cB cZ cS) (zm_W o ad cI cJ cZ thr loc slw wst pk den rch pol ask xp str rdl rds nn off del cam ins low high) sz)) (zq_Q (dC, dI) vcl none (zm_W o ad cI cJ cZ thr loc slw wst pk den rch pol ask xp str rdl rds nn off del cam ins low high) (zm_W o ad cI cJ cZ 0 loc slw wst (zm_wr pk u x w w) den rch pol ask xp str rdl rds nn off del cam ins low high) sz) 0 0 (va_A (zm_W o ad cI cJ cZ thr loc slw wst pk den rch pol ask xp str rdl rds nn off del cam ins low high) sz) := by
  refine Met.ofW (cc := cM_put) (maxL := 5) (ret := none) (by decide) rfl ?_
  intro p e s m args below meth c s₁ B hml hv
  obtain ⟨rfl, hsz, hT, hP, hK, hD0⟩ := hv
  subst hsz
  have hx := B.exec
  have hb := B.bytes
  have hr := B.returns
  have hlocks := B.notSynchronized
  have hown : s.vm.findClass RM = some m.cls := findClass_of_methodNamed B.named
  have hD := hD0.self (sz := s.heap.size)
  generalize hAe : va_A (zm_W o ad cI cJ cZ thr loc slw wst pk den rch pol ask xp str rdl rds nn off del cam ins low high) s.heap.size = A at hD ⊢
  have hA : ∀ q : Nat, s.heap.size ≤ q → A q := fun q h => by rw [← hAe]; exact Or.inr h
  have hS : va_S A s.heap s.heap [] := va_S.rf
  have hl := lv_entry ([.ref o, .int (nI u), .long x, .int (nI w)]) (n := 5) (Nat.le_of_ble_eq_true rfl)
  rw [lg_entry_eq]
  generalize (lg_sl ([.ref o, .int (nI u), .long x, .int (nI w)]) ++ List.replicate (5 - (lg_sl ([.ref o, .int (nI u), .long x, .int (nI w)])).length) Slot.unset).toArray = ls at hl ⊢
  have hl : lv_has ls 5 [(0, .ref o), (1, .int (nI u)), (2, .long x), (4, .int (nI w))] := hl
  refine lv_aload_n hx hb dM_put_0 rfl (lv_at hl 0 rfl) ?_
  refine lv_iload hx hb dM_put_1 (lv_at hl 3 rfl) ?_
  refine lv_iconst (v := 1) hx hb dM_put_3 (by decide) ?_
  refine zz_ilt (tgt := 14) hx hb dM_put_4 (by decide) (fun h1 => ?_) (fun h1 => ?_)
  · have h1n := (zz_ltN (a := w) (b := 1) rfl rfl (by omega) (by omega)).mp h1
    omega
  · have h1n := mt (zz_ltN (a := w) (b := 1) rfl rfl (by omega) (by omega)).mpr h1
    refine lv_iload hx hb dM_put_7 (lv_at hl 3 rfl) ?_
    refine lv_bipush (v := 8) hx hb dM_put_9 (by decide) ?_
    refine zz_ile (tgt := 18) hx hb dM_put_11 (by decide) (fun h2 => ?_) (fun h2 => ?_)
    · have h2n := mt (zz_ltN (a := 8) (b := w) rfl rfl (by omega) (by omega)).mpr h2
      refine lv_iload_n hx hb dM_put_18 rfl (lv_at hl 1 rfl) ?_
      refine zz_zlt (tgt := 31) hx hb dM_put_19 (by decide) (fun h => absurd ((zz_ltN (a := u) (b := 0) rfl rfl (by omega) (by omega)).mp h) (Nat.not_lt_zero _)) (fun _ => ?_)
      refine lv_iload_n hx hb dM_put_22 rfl (lv_at hl 1 rfl) ?_
      refine lv_bipush (v := 48) hx hb dM_put_23 (by decide) ?_
      refine lv_iload hx hb dM_put_25 (lv_at hl 3 rfl) ?_
      refine lv_isub hx hb dM_put_27 ?_
      refine zz_ti (y := nI (48 - w)) (pk_sub (a := 48) (by omega)) ?_
      refine zz_ile (tgt := 35) hx hb dM_put_28 (by decide) (fun h3 => ?_) (fun h3 => ?_)
      · have h3n := mt (zz_ltN (a := (48 - w)) (b := u) rfl rfl (by omega) (by omega)).mpr h3
        refine lv_iconst (v := 0) hx hb dM_put_35 (by decide) ?_
        refine zz_putM (ty := .int) hx hb hT hown hK hP hD hS 0 rfl 0 (by decide) tw_617 rfl (by decide +kernel) rfl rfl (Nat.le_of_ble_eq_true rfl) dM_put_36 (fun H locs hP hD hS => ?_)
        have hP : va_P (dC, dI) vcl (zm_W o ad cI cJ cZ 0 loc slw wst pk den rch pol ask xp str rdl rds nn off del cam ins low high) H := hP
        have hD : va_D A (zm_W o ad cI cJ cZ 0 loc slw wst pk den rch pol ask xp str rdl rds nn off del cam ins low high) := hD
        refine lv_aload_n hx hb dM_put_39 rfl (lv_at hl 0 rfl) ?_
        refine zz_getM hx hb hT hown hK hP 0 rfl 0 (by decide) tw_617 rfl dM_put_40 ?_
        refine zz_zne (tgt := 54) hx hb dM_put_43 (by decide) (fun h => absurd h (by decide)) (fun _ => ?_)
        refine lv_aload_n hx hb dM_put_46 rfl (lv_at hl 0 rfl) ?_
        refine lv_iload_n hx hb dM_put_47 rfl (lv_at hl 1 rfl) ?_
        refine lv_lload_n hx hb dM_put_48 rfl (lv_at hl 2 rfl) ?_
        refine lv_iload hx hb dM_put_49 (lv_at hl 3 rfl) ?_
        refine zq_call0 (va_runV (Ts := []) (As := [.int (nI u), .long x, .int (nI w)]) (own := RM) ⟨hx, hb, hml, hown, fun _ h => nomatch h⟩ (ct_M_write l (u := u) (n := w) (by first | decide | omega)) (zt_cv hT tc_M_write tv_M_write tw_702 ⟨Nat.le_of_ble_eq_true rfl, Nat.le_of_ble_eq_true rfl⟩) (zq_preV (q0 := 0) hT hP hK hD rfl rfl) rfl rfl hl.1 rfl (lv_room (Nat.le_of_ble_eq_true rfl)) dM_put_51 ⟨Nat.zero_le _, Nat.zero_le _⟩) hP hD hS hA (fun H locs hP hD hS => ?_)
        have hP : va_P (dC, dI) vcl (zm_W o ad cI cJ cZ 0 loc slw wst (zm_wr pk u x w w) den rch pol ask xp str rdl rds nn off del cam ins low high) H := hP
        have hD : va_D A (zm_W o ad cI cJ cZ 0 loc slw wst (zm_wr pk u x w w) den rch pol ask xp str rdl rds nn off del cam ins low high) := hD
        refine W.eq (g2 := F0 m 54 ls []) rfl ?_
        exact zq_vret hx hb hr hlocks dM_put_54 hAe hP hD hS
      · have h3n := (zz_ltN (a := (48 - w)) (b := u) rfl rfl (by omega) (by omega)).mp h3
        omega
    · have h2n := (zz_ltN (a := 8) (b := w) rfl rfl (by omega) (by omega)).mp h2
      omega
set_option maxHeartbeats 4000000 in
set_option maxRecDepth 100000 in
theorem ct_M_put_bad (l : Launch) {dC : Nat → ClassId} {dI : Nat → Nat → Nat} {cJ cI cB cZ cS : ClassId} {sz : Nat} {o : Nat} {ad : Nat → Nat} {thr wst : Int32} {loc slw low high : Int64} {pk den rch pol ask str ins : Nat → Int32} {xp rdl rds off del cam : Nat → Int64} {nn : Nat → Nat} {x z : Int32} {y : Int64} (hbad : ¬ zm_pt x z = 0) : Met l yM_put [Cond.code yM_put cM_put 5 none] { frames := 1, cells := 0, slots := 0, locals := 25 } (va_Pc [.ref o, .int x, .long y, .int z] (zq_B (dC, dI) vcl (zz_T cJ cI cB cZ cS) (zm_W o ad cI cJ cZ thr loc slw wst pk den rch pol ask xp str rdl rds nn off del cam ins low high) sz)) (zq_Q (dC, dI) vcl none (zm_W o ad cI cJ cZ thr loc slw wst pk den rch pol ask xp str rdl rds nn off del cam ins low high) (zm_W o ad cI cJ cZ (zm_pt x z) loc slw wst pk den rch pol ask xp str rdl rds nn off del cam ins low high) sz) 0 0 (va_A (zm_W o ad cI cJ cZ thr loc slw wst pk den rch pol ask xp str rdl rds nn off del cam ins low high) sz) := by
  refine Met.ofW (cc := cM_put) (maxL := 5) (ret := none) (by decide) rfl ?_
  intro p e s m args below meth c s₁ B hml hv
  obtain ⟨rfl, hsz, hT, hP, hK, hD0⟩ := hv
  subst hsz
  have hx := B.exec
  have hb := B.bytes
  have hr := B.returns
  have hlocks := B.notSynchronized
  have hown : s.vm.findClass RM = some m.cls := findClass_of_methodNamed B.named
  have hD := hD0.self (sz := s.heap.size)
  generalize hAe : va_A (zm_W o ad cI cJ cZ thr loc slw wst pk den rch pol ask xp str rdl rds nn off del cam ins low high) s.heap.size = A at hD ⊢
  have hA : ∀ q : Nat, s.heap.size ≤ q → A q := fun q h => by rw [← hAe]; exact Or.inr h
  have hS : va_S A s.heap s.heap [] := va_S.rf
  have hl := lv_entry ([.ref o, .int x, .long y, .int z]) (n := 5) (Nat.le_of_ble_eq_true rfl)
  rw [lg_entry_eq]
  generalize (lg_sl ([.ref o, .int x, .long y, .int z]) ++ List.replicate (5 - (lg_sl ([.ref o, .int x, .long y, .int z])).length) Slot.unset).toArray = ls at hl ⊢
  have hl : lv_has ls 5 [(0, .ref o), (1, .int x), (2, .long y), (4, .int z)] := hl
  refine lv_aload_n hx hb dM_put_0 rfl (lv_at hl 0 rfl) ?_
  refine lv_iload hx hb dM_put_1 (lv_at hl 3 rfl) ?_
  refine lv_iconst (v := 1) hx hb dM_put_3 (by decide) ?_
  refine zz_ilt (tgt := 14) hx hb dM_put_4 (by decide) (fun h1 => ?_) (fun h1 => ?_)
  · refine lv_iconst (v := 1) hx hb dM_put_14 (by decide) ?_
    refine lv_goto (tgt := 36) hx hb dM_put_15 (by decide) ?_
    refine zz_putM (ty := .int) hx hb hT hown hK hP hD hS 0 rfl 0 (by decide) tw_617 rfl (by decide +kernel) rfl rfl (Nat.le_of_ble_eq_true rfl) dM_put_36 (fun H locs hP hD hS => ?_)
    have hP : va_P (dC, dI) vcl (zm_W o ad cI cJ cZ 1 loc slw wst pk den rch pol ask xp str rdl rds nn off del cam ins low high) H := hP
    have hD : va_D A (zm_W o ad cI cJ cZ 1 loc slw wst pk den rch pol ask xp str rdl rds nn off del cam ins low high) := hD
    refine lv_aload_n hx hb dM_put_39 rfl (lv_at hl 0 rfl) ?_
    refine zz_getM hx hb hT hown hK hP 0 rfl 0 (by decide) tw_617 rfl dM_put_40 ?_
    refine zz_zne (tgt := 54) hx hb dM_put_43 (by decide) (fun _ => ?_) (fun h => absurd h (by decide))
    exact zq_vret hx hb hr hlocks dM_put_54 hAe (by rw [show zm_pt x z = 1 from if_pos (Or.inl h1)]; exact hP) (by rw [show zm_pt x z = 1 from if_pos (Or.inl h1)]; exact hD) hS
  · refine lv_iload hx hb dM_put_7 (lv_at hl 3 rfl) ?_
    refine lv_bipush (v := 8) hx hb dM_put_9 (by decide) ?_
    refine zz_ile (tgt := 18) hx hb dM_put_11 (by decide) (fun h2 => ?_) (fun h2 => ?_)
    · refine lv_iload_n hx hb dM_put_18 rfl (lv_at hl 1 rfl) ?_
      refine zz_zlt (tgt := 31) hx hb dM_put_19 (by decide) (fun h3 => ?_) (fun h3 => ?_)
      · refine lv_iconst (v := 2) hx hb dM_put_31 (by decide) ?_
        refine lv_goto (tgt := 36) hx hb dM_put_32 (by decide) ?_
        refine zz_putM (ty := .int) hx hb hT hown hK hP hD hS 0 rfl 0 (by decide) tw_617 rfl (by decide +kernel) rfl rfl (Nat.le_of_ble_eq_true rfl) dM_put_36 (fun H locs hP hD hS => ?_)
        have hP : va_P (dC, dI) vcl (zm_W o ad cI cJ cZ 2 loc slw wst pk den rch pol ask xp str rdl rds nn off del cam ins low high) H := hP
        have hD : va_D A (zm_W o ad cI cJ cZ 2 loc slw wst pk den rch pol ask xp str rdl rds nn off del cam ins low high) := hD
        refine lv_aload_n hx hb dM_put_39 rfl (lv_at hl 0 rfl) ?_
        refine zz_getM hx hb hT hown hK hP 0 rfl 0 (by decide) tw_617 rfl dM_put_40 ?_
        refine zz_zne (tgt := 54) hx hb dM_put_43 (by decide) (fun _ => ?_) (fun h => absurd h (by decide))
        exact zq_vret hx hb hr hlocks dM_put_54 hAe (by rw [show zm_pt x z = 2 from (if_neg (fun q => q.elim h1 h2)).trans (if_pos (Or.inl h3))]; exact hP) (by rw [show zm_pt x z = 2 from (if_neg (fun q => q.elim h1 h2)).trans (if_pos (Or.inl h3))]; exact hD) hS
      · refine lv_iload_n hx hb dM_put_22 rfl (lv_at hl 1 rfl) ?_
        refine lv_bipush (v := 48) hx hb dM_put_23 (by decide) ?_
        refine lv_iload hx hb dM_put_25 (lv_at hl 3 rfl) ?_
        refine lv_isub hx hb dM_put_27 ?_
        refine zz_ile (tgt := 35) hx hb dM_put_28 (by decide) (fun h4 => ?_) (fun h4 => ?_)
        · refine lv_iconst (v := 0) hx hb dM_put_35 (by decide) ?_
          refine zz_putM (ty := .int) hx hb hT hown hK hP hD hS 0 rfl 0 (by decide) tw_617 rfl (by decide +kernel) rfl rfl (Nat.le_of_ble_eq_true rfl) dM_put_36 (fun H locs hP hD hS => ?_)
          have hP : va_P (dC, dI) vcl (zm_W o ad cI cJ cZ 0 loc slw wst pk den rch pol ask xp str rdl rds nn off del cam ins low high) H := hP
          have hD : va_D A (zm_W o ad cI cJ cZ 0 loc slw wst pk den rch pol ask xp str rdl rds nn off del cam ins low high) := hD
          refine lv_aload_n hx hb dM_put_39 rfl (lv_at hl 0 rfl) ?_
          refine zz_getM hx hb hT hown hK hP 0 rfl 0 (by decide) tw_617 rfl dM_put_40 ?_
          refine zz_zne (tgt := 54) hx hb dM_put_43 (by decide) (fun h => absurd h (by decide)) (fun _ => ?_)
          exact absurd (show zm_pt x z = 0 from (if_neg (fun q => q.elim h1 h2)).trans (if_neg (fun q => q.elim h3 h4))) hbad
        · refine lv_iconst (v := 2) hx hb dM_put_31 (by decide) ?_
          refine lv_goto (tgt := 36) hx hb dM_put_32 (by decide) ?_
          refine zz_putM (ty := .int) hx hb hT hown hK hP hD hS 0 rfl 0 (by decide) tw_617 rfl (by decide +kernel) rfl rfl (Nat.le_of_ble_eq_true rfl) dM_put_36 (fun H locs hP hD hS => ?_)
          have hP : va_P (dC, dI) vcl (zm_W o ad cI cJ cZ 2 loc slw wst pk den rch pol ask xp str rdl rds nn off del cam ins low high) H := hP
          have hD : va_D A (zm_W o ad cI cJ cZ 2 loc slw wst pk den rch pol ask xp str rdl rds nn off del cam ins low high) := hD
          refine lv_aload_n hx hb dM_put_39 rfl (lv_at hl 0 rfl) ?_
          refine zz_getM hx hb hT hown hK hP 0 rfl 0 (by decide) tw_617 rfl dM_put_40 ?_
          refine zz_zne (tgt := 54) hx hb dM_put_43 (by decide) (fun _ => ?_) (fun h => absurd h (by decide))
          exact zq_vret hx hb hr hlocks dM_put_54 hAe (by rw [show zm_pt x z = 2 from (if_neg (fun q => q.elim h1 h2)).trans (if_pos (Or.inr h4))]; exact hP) (by rw [show zm_pt x z = 2 from (if_neg (fun q => q.elim h1 h2)).trans (if_pos (Or.inr h4))]; exact hD) hS
    · refine lv_iconst (v := 1) hx hb dM_put_14 (by decide) ?_
      refine lv_goto (tgt := 36) hx hb dM_put_15 (by decide) ?_
      refine zz_putM (ty := .int) hx hb hT hown hK hP hD hS 0 rfl 0 (by decide) tw_617 rfl (by decide +kernel) rfl rfl (Nat.le_of_ble_eq_true rfl) dM_put_36 (fun H locs hP hD hS => ?_)
      have hP : va_P (dC, dI) vcl (zm_W o ad cI cJ cZ 1 loc slw wst pk den rch pol ask xp str rdl rds nn off del cam ins low high) H := hP
      have hD : va_D A (zm_W o ad cI cJ cZ 1 loc slw wst pk den rch pol ask xp str rdl rds nn off del cam ins low high) := hD
      refine lv_aload_n hx hb dM_put_39 rfl (lv_at hl 0 rfl) ?_
      refine zz_getM hx hb hT hown hK hP 0 rfl 0 (by decide) tw_617 rfl dM_put_40 ?_
      refine zz_zne (tgt := 54) hx hb dM_put_43 (by decide) (fun _ => ?_) (fun h => absurd h (by decide))
      exact zq_vret hx hb hr hlocks dM_put_54 hAe (by rw [show zm_pt x z = 1 from if_pos (Or.inr h2)]; exact hP) (by rw [show zm_pt x z = 1 from if_pos (Or.inr h2)]; exact hD) hS
set_option maxHeartbeats 4000000 in
set_option maxRecDepth 100000 in
theorem ct_M_echo_no (l : Launch) {dC : Nat → ClassId} {dI : Nat → Nat → Nat} {cJ cI cB cZ cS : ClassId} {sz : Nat} {o : Nat} {ad : Nat → Nat} {thr wst : Int32} {loc slw low high : Int64} {pk den rch pol ask str ins : Nat → Int32} {xp rdl rds off del cam : Nat → Int64} {nn : Nat → Nat} {y z : Int64} {x : Int32} (hx9 : zm_isv x = 0) : Met l yM_echo [Cond.code yM_echo cM_echo 6 none] { frames := 1, cells := 0, slots := 0, locals := 25 } (va_Pc [.ref o, .int x, .long y, .long z] (zq_B (dC, dI) vcl (zz_T cJ cI cB cZ cS) (zm_W o ad cI cJ cZ thr loc slw wst pk den rch pol ask xp str rdl rds nn off del cam ins low high) sz)) (zq_Q (dC, dI) vcl none (zm_W o ad cI cJ cZ thr loc slw wst pk den rch pol ask xp str rdl rds nn off del cam ins low high) (zm_W o ad cI cJ cZ 1 loc slw wst pk den rch pol ask xp str rdl rds nn off del cam ins low high) sz) 0 0 (va_A (zm_W o ad cI cJ cZ thr loc slw wst pk den rch pol ask xp str rdl rds nn off del cam ins low high) sz) := by
  refine Met.ofW (cc := cM_echo) (maxL := 6) (ret := none) (by decide) rfl ?_
  intro p e s m args below meth c s₁ B hml hv
  obtain ⟨rfl, hsz, hT, hP, hK, hD0⟩ := hv
  subst hsz
  have hx := B.exec
  have hb := B.bytes
  have hr := B.returns
  have hlocks := B.notSynchronized
  have hown : s.vm.findClass RM = some m.cls := findClass_of_methodNamed B.named
  have hD := hD0.self (sz := s.heap.size)
  generalize hAe : va_A (zm_W o ad cI cJ cZ thr loc slw wst pk den rch pol ask xp str rdl rds nn off del cam ins low high) s.heap.size = A at hD ⊢
  have hA : ∀ q : Nat, s.heap.size ≤ q → A q := fun q h => by rw [← hAe]; exact Or.inr h
  have hS : va_S A s.heap s.heap [] := va_S.rf
  have hl := lv_entry ([.ref o, .int x, .long y, .long z]) (n := 6) (Nat.le_of_ble_eq_true rfl)
  rw [lg_entry_eq]
  generalize (lg_sl ([.ref o, .int x, .long y, .long z]) ++ List.replicate (6 - (lg_sl ([.ref o, .int x, .long y, .long z])).length) Slot.unset).toArray = ls at hl ⊢
  have hl : lv_has ls 6 [(0, .ref o), (1, .int x), (2, .long y), (4, .long z)] := hl
  refine lv_aload_n hx hb dM_echo_0 rfl (lv_at hl 0 rfl) ?_
  refine lv_iload_n hx hb dM_echo_1 rfl (lv_at hl 1 rfl) ?_
  refine zz_call (va_runS (Ts := []) (As := [.int x]) (own := RM) ⟨hx, hb, hml, hown, fun _ h => nomatch h⟩ (ct_M_isServer l) (zt_cs hT tc_M_isServer ts_M_isServer tw_711 ⟨Nat.le_of_ble_eq_true rfl, Nat.le_of_ble_eq_true rfl⟩) (zz_pre0 hT) rfl rfl hl.1 rfl (lv_room (Nat.le_of_ble_eq_true rfl)) dM_echo_2 ⟨Nat.zero_le _, Nat.zero_le _⟩) ?_
  refine zz_ti (y := 0) (hx9) ?_
  refine zz_zne (tgt := 12) hx hb dM_echo_5 (by decide) (fun h => absurd h (by decide)) (fun _ => ?_)
  refine lv_iconst (v := 1) hx hb dM_echo_8 (by decide) ?_
  refine lv_goto (tgt := 26) hx hb dM_echo_9 (by decide) ?_
  refine zz_putM (ty := .int) hx hb hT hown hK hP hD hS 0 rfl 0 (by decide) tw_617 rfl (by decide +kernel) rfl rfl (Nat.le_of_ble_eq_true rfl) dM_echo_26 (fun H locs hP hD hS => ?_)
  have hP : va_P (dC, dI) vcl (zm_W o ad cI cJ cZ 1 loc slw wst pk den rch pol ask xp str rdl rds nn off del cam ins low high) H := hP
  have hD : va_D A (zm_W o ad cI cJ cZ 1 loc slw wst pk den rch pol ask xp str rdl rds nn off del cam ins low high) := hD
  refine lv_aload_n hx hb dM_echo_29 rfl (lv_at hl 0 rfl) ?_
  refine zz_getM hx hb hT hown hK hP 0 rfl 0 (by decide) tw_617 rfl dM_echo_30 ?_
  refine zz_zle (tgt := 37) hx hb dM_echo_33 (by decide) (fun h => absurd h (by decide)) (fun _ => ?_)
  exact zq_vret hx hb hr hlocks dM_echo_36 hAe hP hD hS
set_option maxHeartbeats 4000000 in
set_option maxRecDepth 100000 in
theorem ct_M_echo_ns (l : Launch) {dC : Nat → ClassId} {dI : Nat → Nat → Nat} {cJ cI cB cZ cS : ClassId} {sz : Nat} {o : Nat} {ad : Nat → Nat} {thr wst : Int32} {loc slw low high : Int64} {pk den rch pol ask str ins : Nat → Int32} {xp rdl rds off del cam : Nat → Int64} {nn : Nat → Nat} {y z : Int64} {k : Nat} (hk : k < 5) (ha : ask k = 0) : Met l yM_echo [Cond.code yM_echo cM_echo 6 none] { frames := 1, cells := 0, slots := 0, locals := 25 } (va_Pc [.ref o, .int (nI k), .long y, .long z] (zq_B (dC, dI) vcl (zz_T cJ cI cB cZ cS) (zm_W o ad cI cJ cZ thr loc slw wst pk den rch pol ask xp str rdl rds nn off del cam ins low high) sz)) (zq_Q (dC, dI) vcl none (zm_W o ad cI cJ cZ thr loc slw wst pk den rch pol ask xp str rdl rds nn off del cam ins low high) (zm_W o ad cI cJ cZ 2 loc slw wst pk den rch pol ask xp str rdl rds nn off del cam ins low high) sz) 0 0 (va_A (zm_W o ad cI cJ cZ thr loc slw wst pk den rch pol ask xp str rdl rds nn off del cam ins low high) sz) := by
  refine Met.ofW (cc := cM_echo) (maxL := 6) (ret := none) (by decide) rfl ?_
  intro p e s m args below meth c s₁ B hml hv
  obtain ⟨rfl, hsz, hT, hP, hK, hD0⟩ := hv
  subst hsz
  have hx := B.exec
  have hb := B.bytes
  have hr := B.returns
  have hlocks := B.notSynchronized
  have hown : s.vm.findClass RM = some m.cls := findClass_of_methodNamed B.named
  have hD := hD0.self (sz := s.heap.size)
  generalize hAe : va_A (zm_W o ad cI cJ cZ thr loc slw wst pk den rch pol ask xp str rdl rds nn off del cam ins low high) s.heap.size = A at hD ⊢
  have hA : ∀ q : Nat, s.heap.size ≤ q → A q := fun q h => by rw [← hAe]; exact Or.inr h
  have hS : va_S A s.heap s.heap [] := va_S.rf
  have hl := lv_entry ([.ref o, .int (nI k), .long y, .long z]) (n := 6) (Nat.le_of_ble_eq_true rfl)
  rw [lg_entry_eq]
  generalize (lg_sl ([.ref o, .int (nI k), .long y, .long z]) ++ List.replicate (6 - (lg_sl ([.ref o, .int (nI k), .long y, .long z])).length) Slot.unset).toArray = ls at hl ⊢
  have hl : lv_has ls 6 [(0, .ref o), (1, .int (nI k)), (2, .long y), (4, .long z)] := hl
  refine lv_aload_n hx hb dM_echo_0 rfl (lv_at hl 0 rfl) ?_
  refine lv_iload_n hx hb dM_echo_1 rfl (lv_at hl 1 rfl) ?_
  refine zz_call (va_runS (Ts := []) (As := [.int (nI k)]) (own := RM) ⟨hx, hb, hml, hown, fun _ h => nomatch h⟩ (ct_M_isServer l) (zt_cs hT tc_M_isServer ts_M_isServer tw_711 ⟨Nat.le_of_ble_eq_true rfl, Nat.le_of_ble_eq_true rfl⟩) (zz_pre0 hT) rfl rfl hl.1 rfl (lv_room (Nat.le_of_ble_eq_true rfl)) dM_echo_2 ⟨Nat.zero_le _, Nat.zero_le _⟩) ?_
  refine zz_ti (y := 1) (zm_isv_k hk) ?_
  refine zz_zne (tgt := 12) hx hb dM_echo_5 (by decide) (fun _ => ?_) (fun h => absurd h (by decide))
  refine lv_aload_n hx hb dM_echo_12 rfl (lv_at hl 0 rfl) ?_
  refine zz_getM hx hb hT hown hK hP 0 rfl 8 (by decide) tw_625 rfl dM_echo_13 ?_
  refine lv_iload_n hx hb dM_echo_16 rfl (lv_at hl 1 rfl) ?_
  refine zz_zald hx hb hK hP 5 3 rfl rfl k rfl (by first | omega | decide | assumption) (by decide) dM_echo_17 ?_
  refine zz_zne (tgt := 25) hx hb dM_echo_18 (by decide) (fun h1 => ?_) (fun h1 => ?_)
  · exact absurd ha h1
  · refine lv_iconst (v := 2) hx hb dM_echo_21 (by decide) ?_
    refine lv_goto (tgt := 26) hx hb dM_echo_22 (by decide) ?_
    refine zz_putM (ty := .int) hx hb hT hown hK hP hD hS 0 rfl 0 (by decide) tw_617 rfl (by decide +kernel) rfl rfl (Nat.le_of_ble_eq_true rfl) dM_echo_26 (fun H locs hP hD hS => ?_)
    have hP : va_P (dC, dI) vcl (zm_W o ad cI cJ cZ 2 loc slw wst pk den rch pol ask xp str rdl rds nn off del cam ins low high) H := hP
    have hD : va_D A (zm_W o ad cI cJ cZ 2 loc slw wst pk den rch pol ask xp str rdl rds nn off del cam ins low high) := hD
    refine lv_aload_n hx hb dM_echo_29 rfl (lv_at hl 0 rfl) ?_
    refine zz_getM hx hb hT hown hK hP 0 rfl 0 (by decide) tw_617 rfl dM_echo_30 ?_
    refine zz_zle (tgt := 37) hx hb dM_echo_33 (by decide) (fun h => absurd h (by decide)) (fun _ => ?_)
    exact zq_vret hx hb hr hlocks dM_echo_36 hAe hP hD hS
set_option maxHeartbeats 4000000 in
set_option maxRecDepth 100000 in
theorem ct_M_echo (l : Launch) {dC : Nat → ClassId} {dI : Nat → Nat → Nat} {cJ cI cB cZ cS : ClassId} {sz : Nat} {o : Nat} {ad : Nat → Nat} {thr wst : Int32} {loc slw low high : Int64} {pk den rch pol ask str ins : Nat → Int32} {xp rdl rds off del cam : Nat → Int64} {nn : Nat → Nat} {y z : Int64} {k : Nat} (hk : k < 5) (ha : ¬ ask k = 0) : Met l yM_echo [Cond.code yM_echo cM_echo 6 none] { frames := 1, cells := 0, slots := 0, locals := 25 } (va_Pc [.ref o, .int (nI k), .long y, .long z] (zq_B (dC, dI) vcl (zz_T cJ cI cB cZ cS) (zm_W o ad cI cJ cZ thr loc slw wst pk den rch pol ask xp str rdl rds nn off del cam ins low high) sz)) (zq_Q (dC, dI) vcl none (zm_W o ad cI cJ cZ thr loc slw wst pk den rch pol ask xp str rdl rds nn off del cam ins low high) (zm_W o ad cI cJ cZ 0 loc slw wst (zm_ech pk (xp k) ((xp k) + y) (loc + z)) den rch pol ask xp str rdl rds nn off del cam ins low high) sz) 0 0 (va_A (zm_W o ad cI cJ cZ thr loc slw wst pk den rch pol ask xp str rdl rds nn off del cam ins low high) sz) := by
  refine Met.ofW (cc := cM_echo) (maxL := 6) (ret := none) (by decide) rfl ?_
  intro p e s m args below meth c s₁ B hml hv
  obtain ⟨rfl, hsz, hT, hP, hK, hD0⟩ := hv
  subst hsz
  have hx := B.exec
  have hb := B.bytes
  have hr := B.returns
  have hlocks := B.notSynchronized
  have hown : s.vm.findClass RM = some m.cls := findClass_of_methodNamed B.named
  have hD := hD0.self (sz := s.heap.size)
  generalize hAe : va_A (zm_W o ad cI cJ cZ thr loc slw wst pk den rch pol ask xp str rdl rds nn off del cam ins low high) s.heap.size = A at hD ⊢
  have hA : ∀ q : Nat, s.heap.size ≤ q → A q := fun q h => by rw [← hAe]; exact Or.inr h
  have hS : va_S A s.heap s.heap [] := va_S.rf
  have hl := lv_entry ([.ref o, .int (nI k), .long y, .long z]) (n := 6) (Nat.le_of_ble_eq_true rfl)
  rw [lg_entry_eq]
  generalize (lg_sl ([.ref o, .int (nI k), .long y, .long z]) ++ List.replicate (6 - (lg_sl ([.ref o, .int (nI k), .long y, .long z])).length) Slot.unset).toArray = ls at hl ⊢
  have hl : lv_has ls 6 [(0, .ref o), (1, .int (nI k)), (2, .long y), (4, .long z)] := hl
  refine lv_aload_n hx hb dM_echo_0 rfl (lv_at hl 0 rfl) ?_
  refine lv_iload_n hx hb dM_echo_1 rfl (lv_at hl 1 rfl) ?_
  refine zz_call (va_runS (Ts := []) (As := [.int (nI k)]) (own := RM) ⟨hx, hb, hml, hown, fun _ h => nomatch h⟩ (ct_M_isServer l) (zt_cs hT tc_M_isServer ts_M_isServer tw_711 ⟨Nat.le_of_ble_eq_true rfl, Nat.le_of_ble_eq_true rfl⟩) (zz_pre0 hT) rfl rfl hl.1 rfl (lv_room (Nat.le_of_ble_eq_true rfl)) dM_echo_2 ⟨Nat.zero_le _, Nat.zero_le _⟩) ?_
  refine zz_ti (y := 1) (zm_isv_k hk) ?_
  refine zz_zne (tgt := 12) hx hb dM_echo_5 (by decide) (fun _ => ?_) (fun h => absurd h (by decide))
  refine lv_aload_n hx hb dM_echo_12 rfl (lv_at hl 0 rfl) ?_
  refine zz_getM hx hb hT hown hK hP 0 rfl 8 (by decide) tw_625 rfl dM_echo_13 ?_
  refine lv_iload_n hx hb dM_echo_16 rfl (lv_at hl 1 rfl) ?_
  refine zz_zald hx hb hK hP 5 3 rfl rfl k rfl (by first | omega | decide | assumption) (by decide) dM_echo_17 ?_
  refine zz_zne (tgt := 25) hx hb dM_echo_18 (by decide) (fun h1 => ?_) (fun h1 => ?_)
  · refine lv_iconst (v := 0) hx hb dM_echo_25 (by decide) ?_
    refine zz_putM (ty := .int) hx hb hT hown hK hP hD hS 0 rfl 0 (by decide) tw_617 rfl (by decide +kernel) rfl rfl (Nat.le_of_ble_eq_true rfl) dM_echo_26 (fun H locs hP hD hS => ?_)
    have hP : va_P (dC, dI) vcl (zm_W o ad cI cJ cZ 0 loc slw wst pk den rch pol ask xp str rdl rds nn off del cam ins low high) H := hP
    have hD : va_D A (zm_W o ad cI cJ cZ 0 loc slw wst pk den rch pol ask xp str rdl rds nn off del cam ins low high) := hD
    refine lv_aload_n hx hb dM_echo_29 rfl (lv_at hl 0 rfl) ?_
    refine zz_getM hx hb hT hown hK hP 0 rfl 0 (by decide) tw_617 rfl dM_echo_30 ?_
    refine zz_zle (tgt := 37) hx hb dM_echo_33 (by decide) (fun _ => ?_) (fun h => absurd h (by decide))
    refine lv_aload_n hx hb dM_echo_37 rfl (lv_at hl 0 rfl) ?_
    refine zz_getM hx hb hT hown hK hP 0 rfl 4 (by decide) tw_621 rfl dM_echo_38 ?_
    refine lv_iconst (v := 0) hx hb dM_echo_41 (by decide) ?_
    refine lv_bipush (v := 36) hx hb dM_echo_42 (by decide) ?_
    refine zq_iast hx hb hK hP hD hS 1 1 rfl rfl 0 rfl (by first | omega | decide | assumption) (by decide) dM_echo_44 (fun H locs hP hD hS => ?_)
    have hP : va_P (dC, dI) vcl (zm_W o ad cI cJ cZ 0 loc slw wst (upd pk 0 36) den rch pol ask xp str rdl rds nn off del cam ins low high) H := hP
    have hD : va_D A (zm_W o ad cI cJ cZ 0 loc slw wst (upd pk 0 36) den rch pol ask xp str rdl rds nn off del cam ins low high) := hD
    refine lv_aload_n hx hb dM_echo_45 rfl (lv_at hl 0 rfl) ?_
    refine lv_bipush (v := 24) hx hb dM_echo_46 (by decide) ?_
    refine lv_aload_n hx hb dM_echo_48 rfl (lv_at hl 0 rfl) ?_
    refine zz_getM hx hb hT hown hK hP 0 rfl 9 (by decide) tw_626 rfl dM_echo_49 ?_
    refine lv_iload_n hx hb dM_echo_52 rfl (lv_at hl 1 rfl) ?_
    refine zz_lald hx hb hK hP 6 0 rfl rfl k rfl (by first | omega | decide | assumption) (by decide) dM_echo_53 ?_
    refine lv_bipush (v := 8) hx hb dM_echo_54 (by decide) ?_
    refine zq_call0 (va_runV (Ts := []) (As := [.int 24, .long (xp k), .int 8]) (own := RM) ⟨hx, hb, hml, hown, fun _ h => nomatch h⟩ (ct_M_write l (u := 24) (n := 8) (by first | decide | omega)) (zt_cv hT tc_M_write tv_M_write tw_702 ⟨Nat.le_of_ble_eq_true rfl, Nat.le_of_ble_eq_true rfl⟩) (zq_preV (q0 := 0) hT hP hK hD rfl rfl) rfl rfl hl.1 rfl (lv_room (Nat.le_of_ble_eq_true rfl)) dM_echo_56 ⟨Nat.zero_le _, Nat.zero_le _⟩) hP hD hS hA (fun H locs hP hD hS => ?_)
    have hP : va_P (dC, dI) vcl (zm_W o ad cI cJ cZ 0 loc slw wst (zm_wr (upd pk 0 36) 24 (xp k) 8 8) den rch pol ask xp str rdl rds nn off del cam ins low high) H := hP
    have hD : va_D A (zm_W o ad cI cJ cZ 0 loc slw wst (zm_wr (upd pk 0 36) 24 (xp k) 8 8) den rch pol ask xp str rdl rds nn off del cam ins low high) := hD
    refine W.eq (g2 := F0 m 59 ls []) rfl ?_
    refine lv_aload_n hx hb dM_echo_59 rfl (lv_at hl 0 rfl) ?_
    refine lv_bipush (v := 32) hx hb dM_echo_60 (by decide) ?_
    refine lv_aload_n hx hb dM_echo_62 rfl (lv_at hl 0 rfl) ?_
    refine zz_getM hx hb hT hown hK hP 0 rfl 9 (by decide) tw_626 rfl dM_echo_63 ?_
    refine lv_iload_n hx hb dM_echo_66 rfl (lv_at hl 1 rfl) ?_
    refine zz_lald hx hb hK hP 6 0 rfl rfl k rfl (by first | omega | decide | assumption) (by decide) dM_echo_67 ?_
    refine lv_lload_n hx hb dM_echo_68 rfl (lv_at hl 2 rfl) ?_
    refine lv_ladd hx hb dM_echo_69 ?_
    refine lv_bipush (v := 8) hx hb dM_echo_70 (by decide) ?_
    refine zq_call0 (va_runV (Ts := []) (As := [.int 32, .long ((xp k) + y), .int 8]) (own := RM) ⟨hx, hb, hml, hown, fun _ h => nomatch h⟩ (ct_M_write l (u := 32) (n := 8) (by first | decide | omega)) (zt_cv hT tc_M_write tv_M_write tw_702 ⟨Nat.le_of_ble_eq_true rfl, Nat.le_of_ble_eq_true rfl⟩) (zq_preV (q0 := 0) hT hP hK hD rfl rfl) rfl rfl hl.1 rfl (lv_room (Nat.le_of_ble_eq_true rfl)) dM_echo_72 ⟨Nat.zero_le _, Nat.zero_le _⟩) hP hD hS hA (fun H locs hP hD hS => ?_)
    have hP : va_P (dC, dI) vcl (zm_W o ad cI cJ cZ 0 loc slw wst (zm_wr (zm_wr (upd pk 0 36) 24 (xp k) 8 8) 32 ((xp k) + y) 8 8) den rch pol ask xp str rdl rds nn off del cam ins low high) H := hP
    have hD : va_D A (zm_W o ad cI cJ cZ 0 loc slw wst (zm_wr (zm_wr (upd pk 0 36) 24 (xp k) 8 8) 32 ((xp k) + y) 8 8) den rch pol ask xp str rdl rds nn off del cam ins low high) := hD
    refine W.eq (g2 := F0 m 75 ls []) rfl ?_
    refine lv_aload_n hx hb dM_echo_75 rfl (lv_at hl 0 rfl) ?_
    refine lv_bipush (v := 40) hx hb dM_echo_76 (by decide) ?_
    refine lv_aload_n hx hb dM_echo_78 rfl (lv_at hl 0 rfl) ?_
    refine zz_getM hx hb hT hown hK hP 0 rfl 1 (by decide) tw_618 rfl dM_echo_79 ?_
    refine lv_lload hx hb dM_echo_82 (lv_at hl 3 rfl) ?_
    refine lv_ladd hx hb dM_echo_84 ?_
    refine lv_bipush (v := 8) hx hb dM_echo_85 (by decide) ?_
    refine zq_call0 (va_runV (Ts := []) (As := [.int 40, .long (loc + z), .int 8]) (own := RM) ⟨hx, hb, hml, hown, fun _ h => nomatch h⟩ (ct_M_write l (u := 40) (n := 8) (by first | decide | omega)) (zt_cv hT tc_M_write tv_M_write tw_702 ⟨Nat.le_of_ble_eq_true rfl, Nat.le_of_ble_eq_true rfl⟩) (zq_preV (q0 := 0) hT hP hK hD rfl rfl) rfl rfl hl.1 rfl (lv_room (Nat.le_of_ble_eq_true rfl)) dM_echo_87 ⟨Nat.zero_le _, Nat.zero_le _⟩) hP hD hS hA (fun H locs hP hD hS => ?_)
    have hP : va_P (dC, dI) vcl (zm_W o ad cI cJ cZ 0 loc slw wst (zm_wr (zm_wr (zm_wr (upd pk 0 36) 24 (xp k) 8 8) 32 ((xp k) + y) 8 8) 40 (loc + z) 8 8) den rch pol ask xp str rdl rds nn off del cam ins low high) H := hP
    have hD : va_D A (zm_W o ad cI cJ cZ 0 loc slw wst (zm_wr (zm_wr (zm_wr (upd pk 0 36) 24 (xp k) 8 8) 32 ((xp k) + y) 8 8) 40 (loc + z) 8 8) den rch pol ask xp str rdl rds nn off del cam ins low high) := hD
    refine W.eq (g2 := F0 m 90 ls []) rfl ?_
    exact zq_vret hx hb hr hlocks dM_echo_90 hAe (by rw [show zm_ech pk (xp k) ((xp k) + y) (loc + z) = zm_wr (zm_wr (zm_wr (upd pk 0 36) 24 (xp k) 8 8) 32 ((xp k) + y) 8 8) 40 (loc + z) 8 8 from rfl]; exact hP) (by rw [show zm_ech pk (xp k) ((xp k) + y) (loc + z) = zm_wr (zm_wr (zm_wr (upd pk 0 36) 24 (xp k) 8 8) 32 ((xp k) + y) 8 8) 40 (loc + z) 8 8 from rfl]; exact hD) hS
  · exact absurd h1 ha
set_option maxHeartbeats 4000000 in
set_option maxRecDepth 100000 in
theorem ct_M_send_no (l : Launch) {dC : Nat → ClassId} {dI : Nat → Nat → Nat} {cJ cI cB cZ cS : ClassId} {sz : Nat} {o : Nat} {ad : Nat → Nat} {thr wst : Int32} {loc slw low high : Int64} {pk den rch pol ask str ins : Nat → Int32} {xp rdl rds off del cam : Nat → Int64} {nn : Nat → Nat} {x : Int32} (hx9 : zm_isv x = 0) : Met l yM_send [Cond.code yM_send cM_send 2 (some .long)] { frames := 1, cells := 0, slots := 0, locals := 20 } (va_Pc [.ref o, .int x] (zq_B (dC, dI) vcl (zz_T cJ cI cB cZ cS) (zm_W o ad cI cJ cZ thr loc slw wst pk den rch pol ask xp str rdl rds nn off del cam ins low high) sz)) (zq_Q (dC, dI) vcl (some (.long 0)) (zm_W o ad cI cJ cZ thr loc slw wst pk den rch pol ask xp str rdl rds nn off del cam ins low high) (zm_W o ad cI cJ cZ 1 loc slw wst pk den rch pol ask xp str rdl rds nn off del cam ins low high) sz) 0 0 (va_A (zm_W o ad cI cJ cZ thr loc slw wst pk den rch pol ask xp str rdl rds nn off del cam ins low high) sz) := by
  refine Met.ofW (cc := cM_send) (maxL := 2) (ret := (some .long)) (by decide) rfl ?_
  intro p e s m args below meth c s₁ B hml hv
  obtain ⟨rfl, hsz, hT, hP, hK, hD0⟩ := hv
  subst hsz
  have hx := B.exec
  have hb := B.bytes
  have hr := B.returns
  have hlocks := B.notSynchronized
  have hown : s.vm.findClass RM = some m.cls := findClass_of_methodNamed B.named
  have hD := hD0.self (sz := s.heap.size)
  generalize hAe : va_A (zm_W o ad cI cJ cZ thr loc slw wst pk den rch pol ask xp str rdl rds nn off del cam ins low high) s.heap.size = A at hD ⊢
  have hA : ∀ q : Nat, s.heap.size ≤ q → A q := fun q h => by rw [← hAe]; exact Or.inr h
  have hS : va_S A s.heap s.heap [] := va_S.rf
  have hl := lv_entry ([.ref o, .int x]) (n := 2) (Nat.le_of_ble_eq_true rfl)
  rw [lg_entry_eq]
  generalize (lg_sl ([.ref o, .int x]) ++ List.replicate (2 - (lg_sl ([.ref o, .int x])).length) Slot.unset).toArray = ls at hl ⊢
  have hl : lv_has ls 2 [(0, .ref o), (1, .int x)] := hl
  refine lv_aload_n hx hb dM_send_0 rfl (lv_at hl 0 rfl) ?_
  refine lv_iload_n hx hb dM_send_1 rfl (lv_at hl 1 rfl) ?_
  refine zz_call (va_runS (Ts := []) (As := [.int x]) (own := RM) ⟨hx, hb, hml, hown, fun _ h => nomatch h⟩ (ct_M_isServer l) (zt_cs hT tc_M_isServer ts_M_isServer tw_711 ⟨Nat.le_of_ble_eq_true rfl, Nat.le_of_ble_eq_true rfl⟩) (zz_pre0 hT) rfl rfl hl.1 rfl (lv_room (Nat.le_of_ble_eq_true rfl)) dM_send_2 ⟨Nat.zero_le _, Nat.zero_le _⟩) ?_
  refine zz_ti (y := 0) (hx9) ?_
  refine zz_zne (tgt := 12) hx hb dM_send_5 (by decide) (fun h => absurd h (by decide)) (fun _ => ?_)
  refine lv_iconst (v := 1) hx hb dM_send_8 (by decide) ?_
  refine lv_goto (tgt := 26) hx hb dM_send_9 (by decide) ?_
  refine zz_putM (ty := .int) hx hb hT hown hK hP hD hS 0 rfl 0 (by decide) tw_617 rfl (by decide +kernel) rfl rfl (Nat.le_of_ble_eq_true rfl) dM_send_26 (fun H locs hP hD hS => ?_)
  have hP : va_P (dC, dI) vcl (zm_W o ad cI cJ cZ 1 loc slw wst pk den rch pol ask xp str rdl rds nn off del cam ins low high) H := hP
  have hD : va_D A (zm_W o ad cI cJ cZ 1 loc slw wst pk den rch pol ask xp str rdl rds nn off del cam ins low high) := hD
  refine lv_aload_n hx hb dM_send_29 rfl (lv_at hl 0 rfl) ?_
  refine zz_getM hx hb hT hown hK hP 0 rfl 0 (by decide) tw_617 rfl dM_send_30 ?_
  refine zz_zle (tgt := 38) hx hb dM_send_33 (by decide) (fun h => absurd h (by decide)) (fun _ => ?_)
  refine lv_lconst (v := 0) hx hb dM_send_36 (by decide) ?_
  exact zq_lret hx hb hr hlocks dM_send_37 (rfl) hAe hP hD hS
set_option maxHeartbeats 4000000 in
set_option maxRecDepth 100000 in
theorem ct_M_send_dn (l : Launch) {dC : Nat → ClassId} {dI : Nat → Nat → Nat} {cJ cI cB cZ cS : ClassId} {sz : Nat} {o : Nat} {ad : Nat → Nat} {thr wst : Int32} {loc slw low high : Int64} {pk den rch pol ask str ins : Nat → Int32} {xp rdl rds off del cam : Nat → Int64} {nn : Nat → Nat} {k : Nat} (hk : k < 5) (hd : ¬ den k = 0) : Met l yM_send [Cond.code yM_send cM_send 2 (some .long)] { frames := 1, cells := 0, slots := 0, locals := 20 } (va_Pc [.ref o, .int (nI k)] (zq_B (dC, dI) vcl (zz_T cJ cI cB cZ cS) (zm_W o ad cI cJ cZ thr loc slw wst pk den rch pol ask xp str rdl rds nn off del cam ins low high) sz)) (zq_Q (dC, dI) vcl (some (.long 0)) (zm_W o ad cI cJ cZ thr loc slw wst pk den rch pol ask xp str rdl rds nn off del cam ins low high) (zm_W o ad cI cJ cZ 2 loc slw wst pk den rch pol ask xp str rdl rds nn off del cam ins low high) sz) 0 0 (va_A (zm_W o ad cI cJ cZ thr loc slw wst pk den rch pol ask xp str rdl rds nn off del cam ins low high) sz) := by
  refine Met.ofW (cc := cM_send) (maxL := 2) (ret := (some .long)) (by decide) rfl ?_
  intro p e s m args below meth c s₁ B hml hv
  obtain ⟨rfl, hsz, hT, hP, hK, hD0⟩ := hv
  subst hsz
  have hx := B.exec
  have hb := B.bytes
  have hr := B.returns
  have hlocks := B.notSynchronized
  have hown : s.vm.findClass RM = some m.cls := findClass_of_methodNamed B.named
  have hD := hD0.self (sz := s.heap.size)
  generalize hAe : va_A (zm_W o ad cI cJ cZ thr loc slw wst pk den rch pol ask xp str rdl rds nn off del cam ins low high) s.heap.size = A at hD ⊢
  have hA : ∀ q : Nat, s.heap.size ≤ q → A q := fun q h => by rw [← hAe]; exact Or.inr h
  have hS : va_S A s.heap s.heap [] := va_S.rf
  have hl := lv_entry ([.ref o, .int (nI k)]) (n := 2) (Nat.le_of_ble_eq_true rfl)
  rw [lg_entry_eq]
  generalize (lg_sl ([.ref o, .int (nI k)]) ++ List.replicate (2 - (lg_sl ([.ref o, .int (nI k)])).length) Slot.unset).toArray = ls at hl ⊢
  have hl : lv_has ls 2 [(0, .ref o), (1, .int (nI k))] := hl
  refine lv_aload_n hx hb dM_send_0 rfl (lv_at hl 0 rfl) ?_
  refine lv_iload_n hx hb dM_send_1 rfl (lv_at hl 1 rfl) ?_
  refine zz_call (va_runS (Ts := []) (As := [.int (nI k)]) (own := RM) ⟨hx, hb, hml, hown, fun _ h => nomatch h⟩ (ct_M_isServer l) (zt_cs hT tc_M_isServer ts_M_isServer tw_711 ⟨Nat.le_of_ble_eq_true rfl, Nat.le_of_ble_eq_true rfl⟩) (zz_pre0 hT) rfl rfl hl.1 rfl (lv_room (Nat.le_of_ble_eq_true rfl)) dM_send_2 ⟨Nat.zero_le _, Nat.zero_le _⟩) ?_
  refine zz_ti (y := 1) (zm_isv_k hk) ?_
  refine zz_zne (tgt := 12) hx hb dM_send_5 (by decide) (fun _ => ?_) (fun h => absurd h (by decide))
  refine lv_aload_n hx hb dM_send_12 rfl (lv_at hl 0 rfl) ?_
  refine zz_getM hx hb hT hown hK hP 0 rfl 5 (by decide) tw_622 rfl dM_send_13 ?_
  refine lv_iload_n hx hb dM_send_16 rfl (lv_at hl 1 rfl) ?_
  refine zz_zald hx hb hK hP 2 3 rfl rfl k rfl (by first | omega | decide | assumption) (by decide) dM_send_17 ?_
  refine zz_zeq (tgt := 25) hx hb dM_send_18 (by decide) (fun h1 => ?_) (fun h1 => ?_)
  · exact absurd h1 hd
  · refine lv_iconst (v := 2) hx hb dM_send_21 (by decide) ?_
    refine lv_goto (tgt := 26) hx hb dM_send_22 (by decide) ?_
    refine zz_putM (ty := .int) hx hb hT hown hK hP hD hS 0 rfl 0 (by decide) tw_617 rfl (by decide +kernel) rfl rfl (Nat.le_of_ble_eq_true rfl) dM_send_26 (fun H locs hP hD hS => ?_)
    have hP : va_P (dC, dI) vcl (zm_W o ad cI cJ cZ 2 loc slw wst pk den rch pol ask xp str rdl rds nn off del cam ins low high) H := hP
    have hD : va_D A (zm_W o ad cI cJ cZ 2 loc slw wst pk den rch pol ask xp str rdl rds nn off del cam ins low high) := hD
    refine lv_aload_n hx hb dM_send_29 rfl (lv_at hl 0 rfl) ?_
    refine zz_getM hx hb hT hown hK hP 0 rfl 0 (by decide) tw_617 rfl dM_send_30 ?_
    refine zz_zle (tgt := 38) hx hb dM_send_33 (by decide) (fun h => absurd h (by decide)) (fun _ => ?_)
    refine lv_lconst (v := 0) hx hb dM_send_36 (by decide) ?_
    exact zq_lret hx hb hr hlocks dM_send_37 (rfl) hAe hP hD hS
set_option maxHeartbeats 4000000 in
set_option maxRecDepth 100000 in
theorem ct_M_send (l : Launch) {dC : Nat → ClassId} {dI : Nat → Nat → Nat} {cJ cI cB cZ cS : ClassId} {sz : Nat} {o : Nat} {ad : Nat → Nat} {thr wst : Int32} {loc slw low high : Int64} {pk den rch pol ask str ins : Nat → Int32} {xp rdl rds off del cam : Nat → Int64} {nn : Nat → Nat} {k : Nat} (hk : k < 5) (hd : den k = 0) : Met l yM_send [Cond.code yM_send cM_send 2 (some .long)] { frames := 1, cells := 0, slots := 0, locals := 20 } (va_Pc [.ref o, .int (nI k)] (zq_B (dC, dI) vcl (zz_T cJ cI cB cZ cS) (zm_W o ad cI cJ cZ thr loc slw wst pk den rch pol ask xp str rdl rds nn off del cam ins low high) sz)) (zq_Q (dC, dI) vcl (some (.long loc)) (zm_W o ad cI cJ cZ thr loc slw wst pk den rch pol ask xp str rdl rds nn off del cam ins low high) (zm_W o ad cI cJ cZ 0 loc slw wst pk den (upd rch k (zs_r2 (rch k))) pol (upd ask k 1) (vp_updL xp k loc) str rdl rds nn off del cam ins low high) sz) 0 0 (va_A (zm_W o ad cI cJ cZ thr loc slw wst pk den rch pol ask xp str rdl rds nn off del cam ins low high) sz) := by
  refine Met.ofW (cc := cM_send) (maxL := 2) (ret := (some .long)) (by decide) rfl ?_
  intro p e s m args below meth c s₁ B hml hv
  obtain ⟨rfl, hsz, hT, hP, hK, hD0⟩ := hv
  subst hsz
  have hx := B.exec
  have hb := B.bytes
  have hr := B.returns
  have hlocks := B.notSynchronized
  have hown : s.vm.findClass RM = some m.cls := findClass_of_methodNamed B.named
  have hD := hD0.self (sz := s.heap.size)
  generalize hAe : va_A (zm_W o ad cI cJ cZ thr loc slw wst pk den rch pol ask xp str rdl rds nn off del cam ins low high) s.heap.size = A at hD ⊢
  have hA : ∀ q : Nat, s.heap.size ≤ q → A q := fun q h => by rw [← hAe]; exact Or.inr h
  have hS : va_S A s.heap s.heap [] := va_S.rf
  have hl := lv_entry ([.ref o, .int (nI k)]) (n := 2) (Nat.le_of_ble_eq_true rfl)
  rw [lg_entry_eq]
  generalize (lg_sl ([.ref o, .int (nI k)]) ++ List.replicate (2 - (lg_sl ([.ref o, .int (nI k)])).length) Slot.unset).toArray = ls at hl ⊢
  have hl : lv_has ls 2 [(0, .ref o), (1, .int (nI k))] := hl
  refine lv_aload_n hx hb dM_send_0 rfl (lv_at hl 0 rfl) ?_
  refine lv_iload_n hx hb dM_send_1 rfl (lv_at hl 1 rfl) ?_
  refine zz_call (va_runS (Ts := []) (As := [.int (nI k)]) (own := RM) ⟨hx, hb, hml, hown, fun _ h => nomatch h⟩ (ct_M_isServer l) (zt_cs hT tc_M_isServer ts_M_isServer tw_711 ⟨Nat.le_of_ble_eq_true rfl, Nat.le_of_ble_eq_true rfl⟩) (zz_pre0 hT) rfl rfl hl.1 rfl (lv_room (Nat.le_of_ble_eq_true rfl)) dM_send_2 ⟨Nat.zero_le _, Nat.zero_le _⟩) ?_
  refine zz_ti (y := 1) (zm_isv_k hk) ?_
  refine zz_zne (tgt := 12) hx hb dM_send_5 (by decide) (fun _ => ?_) (fun h => absurd h (by decide))
  refine lv_aload_n hx hb dM_send_12 rfl (lv_at hl 0 rfl) ?_
  refine zz_getM hx hb hT hown hK hP 0 rfl 5 (by decide) tw_622 rfl dM_send_13 ?_
  refine lv_iload_n hx hb dM_send_16 rfl (lv_at hl 1 rfl) ?_
  refine zz_zald hx hb hK hP 2 3 rfl rfl k rfl (by first | omega | decide | assumption) (by decide) dM_send_17 ?_
  refine zz_zeq (tgt := 25) hx hb dM_send_18 (by decide) (fun h1 => ?_) (fun h1 => ?_)
  · refine lv_iconst (v := 0) hx hb dM_send_25 (by decide) ?_
    refine zz_putM (ty := .int) hx hb hT hown hK hP hD hS 0 rfl 0 (by decide) tw_617 rfl (by decide +kernel) rfl rfl (Nat.le_of_ble_eq_true rfl) dM_send_26 (fun H locs hP hD hS => ?_)
    have hP : va_P (dC, dI) vcl (zm_W o ad cI cJ cZ 0 loc slw wst pk den rch pol ask xp str rdl rds nn off del cam ins low high) H := hP
    have hD : va_D A (zm_W o ad cI cJ cZ 0 loc slw wst pk den rch pol ask xp str rdl rds nn off del cam ins low high) := hD
    refine lv_aload_n hx hb dM_send_29 rfl (lv_at hl 0 rfl) ?_
    refine zz_getM hx hb hT hown hK hP 0 rfl 0 (by decide) tw_617 rfl dM_send_30 ?_
    refine zz_zle (tgt := 38) hx hb dM_send_33 (by decide) (fun _ => ?_) (fun h => absurd h (by decide))
    refine lv_aload_n hx hb dM_send_38 rfl (lv_at hl 0 rfl) ?_
    refine zz_getM hx hb hT hown hK hP 0 rfl 6 (by decide) tw_623 rfl dM_send_39 ?_
    refine lv_iload_n hx hb dM_send_42 rfl (lv_at hl 1 rfl) ?_
    refine lv_aload_n hx hb dM_send_43 rfl (lv_at hl 0 rfl) ?_
    refine zz_getM hx hb hT hown hK hP 0 rfl 6 (by decide) tw_623 rfl dM_send_44 ?_
    refine lv_iload_n hx hb dM_send_47 rfl (lv_at hl 1 rfl) ?_
    refine zz_iald hx hb hK hP 3 1 rfl rfl k rfl (by first | omega | decide | assumption) (by decide) dM_send_48 ?_
    refine lv_iconst (v := 2) hx hb dM_send_49 (by decide) ?_
    refine lv_imul hx hb dM_send_50 ?_
    refine lv_sipush (v := 256) hx hb dM_send_51 (by decide) ?_
    refine lv_irem hx hb dM_send_54 (by decide) ?_
    refine zq_iast hx hb hK hP hD hS 3 1 rfl rfl k rfl (by first | omega | decide | assumption) (by decide) dM_send_55 (fun H locs hP hD hS => ?_)
    have hP : va_P (dC, dI) vcl (zm_W o ad cI cJ cZ 0 loc slw wst pk den (upd rch k (((rch k) * 2) - ((rch k) * 2) / 256 * 256)) pol ask xp str rdl rds nn off del cam ins low high) H := hP
    have hD : va_D A (zm_W o ad cI cJ cZ 0 loc slw wst pk den (upd rch k (((rch k) * 2) - ((rch k) * 2) / 256 * 256)) pol ask xp str rdl rds nn off del cam ins low high) := hD
    refine lv_aload_n hx hb dM_send_56 rfl (lv_at hl 0 rfl) ?_
    refine zz_getM hx hb hT hown hK hP 0 rfl 8 (by decide) tw_625 rfl dM_send_57 ?_
    refine lv_iload_n hx hb dM_send_60 rfl (lv_at hl 1 rfl) ?_
    refine lv_iconst (v := 1) hx hb dM_send_61 (by decide) ?_
    refine zq_zast hx hb hK hP hD hS 5 3 rfl rfl k rfl (by first | omega | decide | assumption) (by decide) rfl dM_send_62 (fun H locs hP hD hS => ?_)
    have hP : va_P (dC, dI) vcl (zm_W o ad cI cJ cZ 0 loc slw wst pk den (upd rch k (((rch k) * 2) - ((rch k) * 2) / 256 * 256)) pol (upd ask k 1) xp str rdl rds nn off del cam ins low high) H := hP
    have hD : va_D A (zm_W o ad cI cJ cZ 0 loc slw wst pk den (upd rch k (((rch k) * 2) - ((rch k) * 2) / 256 * 256)) pol (upd ask k 1) xp str rdl rds nn off del cam ins low high) := hD
    refine lv_aload_n hx hb dM_send_63 rfl (lv_at hl 0 rfl) ?_
    refine zz_getM hx hb hT hown hK hP 0 rfl 9 (by decide) tw_626 rfl dM_send_64 ?_
    refine lv_iload_n hx hb dM_send_67 rfl (lv_at hl 1 rfl) ?_
    refine lv_aload_n hx hb dM_send_68 rfl (lv_at hl 0 rfl) ?_
    refine zz_getM hx hb hT hown hK hP 0 rfl 1 (by decide) tw_618 rfl dM_send_69 ?_
    refine zq_last hx hb hK hP hD hS 6 0 rfl rfl k rfl (by first | omega | decide | assumption) (by decide) dM_send_72 (fun H locs hP hD hS => ?_)
    have hP : va_P (dC, dI) vcl (zm_W o ad cI cJ cZ 0 loc slw wst pk den (upd rch k (((rch k) * 2) - ((rch k) * 2) / 256 * 256)) pol (upd ask k 1) (vp_updL xp k loc) str rdl rds nn off del cam ins low high) H := hP
    have hD : va_D A (zm_W o ad cI cJ cZ 0 loc slw wst pk den (upd rch k (((rch k) * 2) - ((rch k) * 2) / 256 * 256)) pol (upd ask k 1) (vp_updL xp k loc) str rdl rds nn off del cam ins low high) := hD
    refine lv_aload_n hx hb dM_send_73 rfl (lv_at hl 0 rfl) ?_
    refine zz_getM hx hb hT hown hK hP 0 rfl 1 (by decide) tw_618 rfl dM_send_74 ?_
    exact zq_lret hx hb hr hlocks dM_send_77 (rfl) hAe (by rw [show upd rch k (zs_r2 (rch k)) = upd rch k (((rch k) * 2) - ((rch k) * 2) / 256 * 256) from rfl]; exact hP) (by rw [show upd rch k (zs_r2 (rch k)) = upd rch k (((rch k) * 2) - ((rch k) * 2) / 256 * 256) from rfl]; exact hD) hS
  · exact absurd hd h1
