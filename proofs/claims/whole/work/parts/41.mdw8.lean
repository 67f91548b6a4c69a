/-! The model: receive -/
set_option maxHeartbeats 4000000 in
set_option maxRecDepth 100000 in
theorem ct_M_receive_no (l : Launch) {dC : Nat → ClassId} {dI : Nat → Nat → Nat} {cJ cI cB cZ cS : ClassId} {sz : Nat} {o : Nat} {ad : Nat → Nat} {thr wst : Int32} {loc slw low high : Int64} {pk den rch pol ask str ins : Nat → Int32} {xp rdl rds off del cam : Nat → Int64} {nn : Nat → Nat} {x : Int32} (hx9 : zm_isv x = 0) : Met l yM_receive [Cond.code yM_receive cM_receive 16 (some .int)] { frames := 2, cells := 0, slots := 0, locals := 48 } (va_Pc [.ref o, .int x] (zq_B (dC, dI) vcl (zz_T cJ cI cB cZ cS) (zm_W o ad cI cJ cZ thr loc slw wst pk den rch pol ask xp str rdl rds nn off del cam ins low high) sz)) (zq_Q (dC, dI) vcl (some (.int 0)) (zm_W o ad cI cJ cZ thr loc slw wst pk den rch pol ask xp str rdl rds nn off del cam ins low high) (zm_W o ad cI cJ cZ 1 loc slw wst pk den rch pol ask xp str rdl rds nn off del cam ins low high) sz) 0 0 (va_A (zm_W o ad cI cJ cZ thr loc slw wst pk den rch pol ask xp str rdl rds nn off del cam ins low high) sz) := by
  refine Met.ofW (cc := cM_receive) (maxL := 16) (ret := (some .int)) (by decide) rfl ?_
  intro p e s m args below meth c s₁ B hml hv
  obtain ⟨rfl, hsz, hT, hP, hK, hD0⟩ := hv
  subst hsz
  have hx := B.exec
  have hb := B.bytes
  have hr := B.returns
  have hlocks := B.notSynchronized
  have hown : s.vm.findClass RM = some m.cls := findClass_of_methodNamed B.named
  have hD := hD0.self (sz := s.heap.size)
  generalize hAe : va_A (zm_W o ad cI cJ cZ thr loc slw wst pk den rch pol ask xp str rdl rds nn off del cam ins low high) s.heap.size = A at hD ⊢
  have hA : ∀ q : Nat, s.heap.size ≤ q → A q := fun q h => by rw [← hAe]; exact Or.inr h
  have hS : va_S A s.heap s.heap [] := va_S.rf
  have hl := lv_entry ([.ref o, .int x]) (n := 16) (Nat.le_of_ble_eq_true rfl)
  rw [lg_entry_eq]
  generalize (lg_sl ([.ref o, .int x]) ++ List.replicate (16 - (lg_sl ([.ref o, .int x])).length) Slot.unset).toArray = ls at hl ⊢
  have hl : lv_has ls 16 [(0, .ref o), (1, .int x)] := hl
  refine lv_aload_n hx hb dM_receive_0 rfl (lv_at hl 0 rfl) ?_
  refine zz_getM hx hb hT hown hK hP 0 rfl 4 (by decide) tw_621 rfl dM_receive_1 ?_
  refine lv_iconst (v := 0) hx hb dM_receive_4 (by decide) ?_
  refine zz_iald hx hb hK hP 1 1 rfl rfl 0 rfl (by first | omega | decide | assumption) (by decide) dM_receive_5 ?_
  refine lv_bipush (v := 8) hx hb dM_receive_6 (by decide) ?_
  refine lv_idiv hx hb dM_receive_8 (by decide) ?_
  refine lv_bipush (v := 8) hx hb dM_receive_9 (by decide) ?_
  refine lv_irem hx hb dM_receive_11 (by decide) ?_
  refine lv_iconst (v := 4) hx hb dM_receive_12 (by decide) ?_
  refine zz_ine (tgt := 46) hx hb dM_receive_13 (by decide) (fun h1 => ?_) (fun h1 => ?_)
  · refine lv_iconst (v := 0) hx hb dM_receive_46 (by decide) ?_
    refine lv_istore_n (lv' := [(2, .int 0), (0, .ref o), (1, .int x)]) hx hb dM_receive_47 rfl hl (by decide) rfl (fun ls hl => ?_)
    refine lv_aload_n hx hb dM_receive_48 rfl (lv_at hl 1 rfl) ?_
    refine lv_iload_n hx hb dM_receive_49 rfl (lv_at hl 2 rfl) ?_
    refine zz_call (va_runS (Ts := []) (As := [.int x]) (own := RM) ⟨hx, hb, hml, hown, fun _ h => nomatch h⟩ (ct_M_isServer l) (zt_cs hT tc_M_isServer ts_M_isServer tw_711 ⟨Nat.le_of_ble_eq_true rfl, Nat.le_of_ble_eq_true rfl⟩) (zz_pre0 hT) rfl rfl hl.1 rfl (lv_room (Nat.le_of_ble_eq_true rfl)) dM_receive_50 ⟨Nat.zero_le _, Nat.zero_le _⟩) ?_
    refine zz_ti (y := 0) (hx9) ?_
    refine zz_zne (tgt := 60) hx hb dM_receive_53 (by decide) (fun h => absurd h (by decide)) (fun _ => ?_)
    refine lv_iconst (v := 1) hx hb dM_receive_56 (by decide) ?_
    refine lv_goto (tgt := 109) hx hb dM_receive_57 (by decide) ?_
    refine zz_putM (ty := .int) hx hb hT hown hK hP hD hS 0 rfl 0 (by decide) tw_617 rfl (by decide +kernel) rfl rfl (Nat.le_of_ble_eq_true rfl) dM_receive_109 (fun H locs hP hD hS => ?_)
    have hP : va_P (dC, dI) vcl (zm_W o ad cI cJ cZ 1 loc slw wst pk den rch pol ask xp str rdl rds nn off del cam ins low high) H := hP
    have hD : va_D A (zm_W o ad cI cJ cZ 1 loc slw wst pk den rch pol ask xp str rdl rds nn off del cam ins low high) := hD
    refine lv_aload_n hx hb dM_receive_112 rfl (lv_at hl 1 rfl) ?_
    refine zz_getM hx hb hT hown hK hP 0 rfl 0 (by decide) tw_617 rfl dM_receive_113 ?_
    refine zz_zle (tgt := 121) hx hb dM_receive_116 (by decide) (fun h => absurd h (by decide)) (fun _ => ?_)
    refine lv_iconst (v := 0) hx hb dM_receive_119 (by decide) ?_
    exact zq_iret hx hb hr hlocks dM_receive_120 (rfl) hAe hP hD hS
  · refine lv_aload_n hx hb dM_receive_16 rfl (lv_at hl 0 rfl) ?_
    refine zz_getM hx hb hT hown hK hP 0 rfl 4 (by decide) tw_621 rfl dM_receive_17 ?_
    refine lv_iconst (v := 0) hx hb dM_receive_20 (by decide) ?_
    refine zz_iald hx hb hK hP 1 1 rfl rfl 0 rfl (by first | omega | decide | assumption) (by decide) dM_receive_21 ?_
    refine lv_bipush (v := 8) hx hb dM_receive_22 (by decide) ?_
    refine lv_irem hx hb dM_receive_24 (by decide) ?_
    refine lv_iconst (v := 4) hx hb dM_receive_25 (by decide) ?_
    refine zz_ine (tgt := 46) hx hb dM_receive_26 (by decide) (fun h2 => ?_) (fun h2 => ?_)
    · refine lv_iconst (v := 0) hx hb dM_receive_46 (by decide) ?_
      refine lv_istore_n (lv' := [(2, .int 0), (0, .ref o), (1, .int x)]) hx hb dM_receive_47 rfl hl (by decide) rfl (fun ls hl => ?_)
      refine lv_aload_n hx hb dM_receive_48 rfl (lv_at hl 1 rfl) ?_
      refine lv_iload_n hx hb dM_receive_49 rfl (lv_at hl 2 rfl) ?_
      refine zz_call (va_runS (Ts := []) (As := [.int x]) (own := RM) ⟨hx, hb, hml, hown, fun _ h => nomatch h⟩ (ct_M_isServer l) (zt_cs hT tc_M_isServer ts_M_isServer tw_711 ⟨Nat.le_of_ble_eq_true rfl, Nat.le_of_ble_eq_true rfl⟩) (zz_pre0 hT) rfl rfl hl.1 rfl (lv_room (Nat.le_of_ble_eq_true rfl)) dM_receive_50 ⟨Nat.zero_le _, Nat.zero_le _⟩) ?_
      refine zz_ti (y := 0) (hx9) ?_
      refine zz_zne (tgt := 60) hx hb dM_receive_53 (by decide) (fun h => absurd h (by decide)) (fun _ => ?_)
      refine lv_iconst (v := 1) hx hb dM_receive_56 (by decide) ?_
      refine lv_goto (tgt := 109) hx hb dM_receive_57 (by decide) ?_
      refine zz_putM (ty := .int) hx hb hT hown hK hP hD hS 0 rfl 0 (by decide) tw_617 rfl (by decide +kernel) rfl rfl (Nat.le_of_ble_eq_true rfl) dM_receive_109 (fun H locs hP hD hS => ?_)
      have hP : va_P (dC, dI) vcl (zm_W o ad cI cJ cZ 1 loc slw wst pk den rch pol ask xp str rdl rds nn off del cam ins low high) H := hP
      have hD : va_D A (zm_W o ad cI cJ cZ 1 loc slw wst pk den rch pol ask xp str rdl rds nn off del cam ins low high) := hD
      refine lv_aload_n hx hb dM_receive_112 rfl (lv_at hl 1 rfl) ?_
      refine zz_getM hx hb hT hown hK hP 0 rfl 0 (by decide) tw_617 rfl dM_receive_113 ?_
      refine zz_zle (tgt := 121) hx hb dM_receive_116 (by decide) (fun h => absurd h (by decide)) (fun _ => ?_)
      refine lv_iconst (v := 0) hx hb dM_receive_119 (by decide) ?_
      exact zq_iret hx hb hr hlocks dM_receive_120 (rfl) hAe hP hD hS
    · refine lv_aload_n hx hb dM_receive_29 rfl (lv_at hl 0 rfl) ?_
      refine lv_bipush (v := 40) hx hb dM_receive_30 (by decide) ?_
      refine lv_bipush (v := 8) hx hb dM_receive_32 (by decide) ?_
      refine zz_call (va_runV (Ts := []) (As := [.int 40, .int 8]) (own := RM) ⟨hx, hb, hml, hown, fun _ h => nomatch h⟩ (ct_M_read l (u := 40) (n := 8) (by first | decide | omega)) (zt_cv hT tc_M_read tv_M_read tw_722 ⟨Nat.le_of_ble_eq_true rfl, Nat.le_of_ble_eq_true rfl⟩) (zz_preV (q0 := 0) hT hP hK rfl rfl) rfl rfl hl.1 rfl (lv_room (Nat.le_of_ble_eq_true rfl)) dM_receive_34 ⟨Nat.zero_le _, Nat.zero_le _⟩) ?_
      refine lv_lconst (v := 0) hx hb dM_receive_37 (by decide) ?_
      refine zz_leq (tgt := 46) hx hb dM_receive_38 dM_receive_39 (by decide) (fun h3 => ?_) (fun h3 => ?_)
      · refine lv_iconst (v := 0) hx hb dM_receive_46 (by decide) ?_
        refine lv_istore_n (lv' := [(2, .int 0), (0, .ref o), (1, .int x)]) hx hb dM_receive_47 rfl hl (by decide) rfl (fun ls hl => ?_)
        refine lv_aload_n hx hb dM_receive_48 rfl (lv_at hl 1 rfl) ?_
        refine lv_iload_n hx hb dM_receive_49 rfl (lv_at hl 2 rfl) ?_
        refine zz_call (va_runS (Ts := []) (As := [.int x]) (own := RM) ⟨hx, hb, hml, hown, fun _ h => nomatch h⟩ (ct_M_isServer l) (zt_cs hT tc_M_isServer ts_M_isServer tw_711 ⟨Nat.le_of_ble_eq_true rfl, Nat.le_of_ble_eq_true rfl⟩) (zz_pre0 hT) rfl rfl hl.1 rfl (lv_room (Nat.le_of_ble_eq_true rfl)) dM_receive_50 ⟨Nat.zero_le _, Nat.zero_le _⟩) ?_
        refine zz_ti (y := 0) (hx9) ?_
        refine zz_zne (tgt := 60) hx hb dM_receive_53 (by decide) (fun h => absurd h (by decide)) (fun _ => ?_)
        refine lv_iconst (v := 1) hx hb dM_receive_56 (by decide) ?_
        refine lv_goto (tgt := 109) hx hb dM_receive_57 (by decide) ?_
        refine zz_putM (ty := .int) hx hb hT hown hK hP hD hS 0 rfl 0 (by decide) tw_617 rfl (by decide +kernel) rfl rfl (Nat.le_of_ble_eq_true rfl) dM_receive_109 (fun H locs hP hD hS => ?_)
        have hP : va_P (dC, dI) vcl (zm_W o ad cI cJ cZ 1 loc slw wst pk den rch pol ask xp str rdl rds nn off del cam ins low high) H := hP
        have hD : va_D A (zm_W o ad cI cJ cZ 1 loc slw wst pk den rch pol ask xp str rdl rds nn off del cam ins low high) := hD
        refine lv_aload_n hx hb dM_receive_112 rfl (lv_at hl 1 rfl) ?_
        refine zz_getM hx hb hT hown hK hP 0 rfl 0 (by decide) tw_617 rfl dM_receive_113 ?_
        refine zz_zle (tgt := 121) hx hb dM_receive_116 (by decide) (fun h => absurd h (by decide)) (fun _ => ?_)
        refine lv_iconst (v := 0) hx hb dM_receive_119 (by decide) ?_
        exact zq_iret hx hb hr hlocks dM_receive_120 (rfl) hAe hP hD hS
      · refine lv_iconst (v := 1) hx hb dM_receive_42 (by decide) ?_
        refine lv_goto (tgt := 47) hx hb dM_receive_43 (by decide) ?_
        refine lv_istore_n (lv' := [(2, .int 1), (0, .ref o), (1, .int x)]) hx hb dM_receive_47 rfl hl (by decide) rfl (fun ls hl => ?_)
        refine lv_aload_n hx hb dM_receive_48 rfl (lv_at hl 1 rfl) ?_
        refine lv_iload_n hx hb dM_receive_49 rfl (lv_at hl 2 rfl) ?_
        refine zz_call (va_runS (Ts := []) (As := [.int x]) (own := RM) ⟨hx, hb, hml, hown, fun _ h => nomatch h⟩ (ct_M_isServer l) (zt_cs hT tc_M_isServer ts_M_isServer tw_711 ⟨Nat.le_of_ble_eq_true rfl, Nat.le_of_ble_eq_true rfl⟩) (zz_pre0 hT) rfl rfl hl.1 rfl (lv_room (Nat.le_of_ble_eq_true rfl)) dM_receive_50 ⟨Nat.zero_le _, Nat.zero_le _⟩) ?_
        refine zz_ti (y := 0) (hx9) ?_
        refine zz_zne (tgt := 60) hx hb dM_receive_53 (by decide) (fun h => absurd h (by decide)) (fun _ => ?_)
        refine lv_iconst (v := 1) hx hb dM_receive_56 (by decide) ?_
        refine lv_goto (tgt := 109) hx hb dM_receive_57 (by decide) ?_
        refine zz_putM (ty := .int) hx hb hT hown hK hP hD hS 0 rfl 0 (by decide) tw_617 rfl (by decide +kernel) rfl rfl (Nat.le_of_ble_eq_true rfl) dM_receive_109 (fun H locs hP hD hS => ?_)
        have hP : va_P (dC, dI) vcl (zm_W o ad cI cJ cZ 1 loc slw wst pk den rch pol ask xp str rdl rds nn off del cam ins low high) H := hP
        have hD : va_D A (zm_W o ad cI cJ cZ 1 loc slw wst pk den rch pol ask xp str rdl rds nn off del cam ins low high) := hD
        refine lv_aload_n hx hb dM_receive_112 rfl (lv_at hl 1 rfl) ?_
        refine zz_getM hx hb hT hown hK hP 0 rfl 0 (by decide) tw_617 rfl dM_receive_113 ?_
        refine zz_zle (tgt := 121) hx hb dM_receive_116 (by decide) (fun h => absurd h (by decide)) (fun _ => ?_)
        refine lv_iconst (v := 0) hx hb dM_receive_119 (by decide) ?_
        exact zq_iret hx hb hr hlocks dM_receive_120 (rfl) hAe hP hD hS
set_option maxHeartbeats 4000000 in
set_option maxRecDepth 100000 in
theorem ct_M_receive_na (l : Launch) {dC : Nat → ClassId} {dI : Nat → Nat → Nat} {cJ cI cB cZ cS : ClassId} {sz : Nat} {o : Nat} {ad : Nat → Nat} {thr wst : Int32} {loc slw low high : Int64} {pk den rch pol ask str ins : Nat → Int32} {xp rdl rds off del cam : Nat → Int64} {nn : Nat → Nat} {k : Nat} (hk : k < 5) (hna : ¬ ((((pk 0) / 8) - ((pk 0) / 8) / 8 * 8 = 4 ∧ (pk 0) - (pk 0) / 8 * 8 = 4) ∧ ¬ zm_rd pk 40 8 = 0)) : Met l yM_receive [Cond.code yM_receive cM_receive 16 (some .int)] { frames := 2, cells := 0, slots := 0, locals := 48 } (va_Pc [.ref o, .int (nI k)] (zq_B (dC, dI) vcl (zz_T cJ cI cB cZ cS) (zm_W o ad cI cJ cZ thr loc slw wst pk den rch pol ask xp str rdl rds nn off del cam ins low high) sz)) (zq_Q (dC, dI) vcl (some (.int 0)) (zm_W o ad cI cJ cZ thr loc slw wst pk den rch pol ask xp str rdl rds nn off del cam ins low high) (zm_W o ad cI cJ cZ 2 loc slw wst pk den rch pol ask xp str rdl rds nn off del cam ins low high) sz) 0 0 (va_A (zm_W o ad cI cJ cZ thr loc slw wst pk den rch pol ask xp str rdl rds nn off del cam ins low high) sz) := by
  refine Met.ofW (cc := cM_receive) (maxL := 16) (ret := (some .int)) (by decide) rfl ?_
  intro p e s m args below meth c s₁ B hml hv
  obtain ⟨rfl, hsz, hT, hP, hK, hD0⟩ := hv
  subst hsz
  have hx := B.exec
  have hb := B.bytes
  have hr := B.returns
  have hlocks := B.notSynchronized
  have hown : s.vm.findClass RM = some m.cls := findClass_of_methodNamed B.named
  have hD := hD0.self (sz := s.heap.size)
  generalize hAe : va_A (zm_W o ad cI cJ cZ thr loc slw wst pk den rch pol ask xp str rdl rds nn off del cam ins low high) s.heap.size = A at hD ⊢
  have hA : ∀ q : Nat, s.heap.size ≤ q → A q := fun q h => by rw [← hAe]; exact Or.inr h
  have hS : va_S A s.heap s.heap [] := va_S.rf
  have hl := lv_entry ([.ref o, .int (nI k)]) (n := 16) (Nat.le_of_ble_eq_true rfl)
  rw [lg_entry_eq]
  generalize (lg_sl ([.ref o, .int (nI k)]) ++ List.replicate (16 - (lg_sl ([.ref o, .int (nI k)])).length) Slot.unset).toArray = ls at hl ⊢
  have hl : lv_has ls 16 [(0, .ref o), (1, .int (nI k))] := hl
  refine lv_aload_n hx hb dM_receive_0 rfl (lv_at hl 0 rfl) ?_
  refine zz_getM hx hb hT hown hK hP 0 rfl 4 (by decide) tw_621 rfl dM_receive_1 ?_
  refine lv_iconst (v := 0) hx hb dM_receive_4 (by decide) ?_
  refine zz_iald hx hb hK hP 1 1 rfl rfl 0 rfl (by first | omega | decide | assumption) (by decide) dM_receive_5 ?_
  refine lv_bipush (v := 8) hx hb dM_receive_6 (by decide) ?_
  refine lv_idiv hx hb dM_receive_8 (by decide) ?_
  refine lv_bipush (v := 8) hx hb dM_receive_9 (by decide) ?_
  refine lv_irem hx hb dM_receive_11 (by decide) ?_
  refine lv_iconst (v := 4) hx hb dM_receive_12 (by decide) ?_
  refine zz_ine (tgt := 46) hx hb dM_receive_13 (by decide) (fun h1 => ?_) (fun h1 => ?_)
  · refine lv_iconst (v := 0) hx hb dM_receive_46 (by decide) ?_
    refine lv_istore_n (lv' := [(2, .int 0), (0, .ref o), (1, .int (nI k))]) hx hb dM_receive_47 rfl hl (by decide) rfl (fun ls hl => ?_)
    refine lv_aload_n hx hb dM_receive_48 rfl (lv_at hl 1 rfl) ?_
    refine lv_iload_n hx hb dM_receive_49 rfl (lv_at hl 2 rfl) ?_
    refine zz_call (va_runS (Ts := []) (As := [.int (nI k)]) (own := RM) ⟨hx, hb, hml, hown, fun _ h => nomatch h⟩ (ct_M_isServer l) (zt_cs hT tc_M_isServer ts_M_isServer tw_711 ⟨Nat.le_of_ble_eq_true rfl, Nat.le_of_ble_eq_true rfl⟩) (zz_pre0 hT) rfl rfl hl.1 rfl (lv_room (Nat.le_of_ble_eq_true rfl)) dM_receive_50 ⟨Nat.zero_le _, Nat.zero_le _⟩) ?_
    refine zz_ti (y := 1) (zm_isv_k hk) ?_
    refine zz_zne (tgt := 60) hx hb dM_receive_53 (by decide) (fun _ => ?_) (fun h => absurd h (by decide))
    refine lv_iload_n hx hb dM_receive_60 rfl (lv_at hl 0 rfl) ?_
    refine zz_zne (tgt := 68) hx hb dM_receive_61 (by decide) (fun h => absurd h (by decide)) (fun _ => ?_)
    refine lv_iconst (v := 2) hx hb dM_receive_64 (by decide) ?_
    refine lv_goto (tgt := 109) hx hb dM_receive_65 (by decide) ?_
    refine zz_putM (ty := .int) hx hb hT hown hK hP hD hS 0 rfl 0 (by decide) tw_617 rfl (by decide +kernel) rfl rfl (Nat.le_of_ble_eq_true rfl) dM_receive_109 (fun H locs hP hD hS => ?_)
    have hP : va_P (dC, dI) vcl (zm_W o ad cI cJ cZ 2 loc slw wst pk den rch pol ask xp str rdl rds nn off del cam ins low high) H := hP
    have hD : va_D A (zm_W o ad cI cJ cZ 2 loc slw wst pk den rch pol ask xp str rdl rds nn off del cam ins low high) := hD
    refine lv_aload_n hx hb dM_receive_112 rfl (lv_at hl 1 rfl) ?_
    refine zz_getM hx hb hT hown hK hP 0 rfl 0 (by decide) tw_617 rfl dM_receive_113 ?_
    refine zz_zle (tgt := 121) hx hb dM_receive_116 (by decide) (fun h => absurd h (by decide)) (fun _ => ?_)
    refine lv_iconst (v := 0) hx hb dM_receive_119 (by decide) ?_
    exact zq_iret hx hb hr hlocks dM_receive_120 (rfl) hAe hP hD hS
  · refine lv_aload_n hx hb dM_receive_16 rfl (lv_at hl 0 rfl) ?_
    refine zz_getM hx hb hT hown hK hP 0 rfl 4 (by decide) tw_621 rfl dM_receive_17 ?_
    refine lv_iconst (v := 0) hx hb dM_receive_20 (by decide) ?_
    refine zz_iald hx hb hK hP 1 1 rfl rfl 0 rfl (by first | omega | decide | assumption) (by decide) dM_receive_21 ?_
    refine lv_bipush (v := 8) hx hb dM_receive_22 (by decide) ?_
    refine lv_irem hx hb dM_receive_24 (by decide) ?_
    refine lv_iconst (v := 4) hx hb dM_receive_25 (by decide) ?_
    refine zz_ine (tgt := 46) hx hb dM_receive_26 (by decide) (fun h2 => ?_) (fun h2 => ?_)
    · refine lv_iconst (v := 0) hx hb dM_receive_46 (by decide) ?_
      refine lv_istore_n (lv' := [(2, .int 0), (0, .ref o), (1, .int (nI k))]) hx hb dM_receive_47 rfl hl (by decide) rfl (fun ls hl => ?_)
      refine lv_aload_n hx hb dM_receive_48 rfl (lv_at hl 1 rfl) ?_
      refine lv_iload_n hx hb dM_receive_49 rfl (lv_at hl 2 rfl) ?_
      refine zz_call (va_runS (Ts := []) (As := [.int (nI k)]) (own := RM) ⟨hx, hb, hml, hown, fun _ h => nomatch h⟩ (ct_M_isServer l) (zt_cs hT tc_M_isServer ts_M_isServer tw_711 ⟨Nat.le_of_ble_eq_true rfl, Nat.le_of_ble_eq_true rfl⟩) (zz_pre0 hT) rfl rfl hl.1 rfl (lv_room (Nat.le_of_ble_eq_true rfl)) dM_receive_50 ⟨Nat.zero_le _, Nat.zero_le _⟩) ?_
      refine zz_ti (y := 1) (zm_isv_k hk) ?_
      refine zz_zne (tgt := 60) hx hb dM_receive_53 (by decide) (fun _ => ?_) (fun h => absurd h (by decide))
      refine lv_iload_n hx hb dM_receive_60 rfl (lv_at hl 0 rfl) ?_
      refine zz_zne (tgt := 68) hx hb dM_receive_61 (by decide) (fun h => absurd h (by decide)) (fun _ => ?_)
      refine lv_iconst (v := 2) hx hb dM_receive_64 (by decide) ?_
      refine lv_goto (tgt := 109) hx hb dM_receive_65 (by decide) ?_
      refine zz_putM (ty := .int) hx hb hT hown hK hP hD hS 0 rfl 0 (by decide) tw_617 rfl (by decide +kernel) rfl rfl (Nat.le_of_ble_eq_true rfl) dM_receive_109 (fun H locs hP hD hS => ?_)
      have hP : va_P (dC, dI) vcl (zm_W o ad cI cJ cZ 2 loc slw wst pk den rch pol ask xp str rdl rds nn off del cam ins low high) H := hP
      have hD : va_D A (zm_W o ad cI cJ cZ 2 loc slw wst pk den rch pol ask xp str rdl rds nn off del cam ins low high) := hD
      refine lv_aload_n hx hb dM_receive_112 rfl (lv_at hl 1 rfl) ?_
      refine zz_getM hx hb hT hown hK hP 0 rfl 0 (by decide) tw_617 rfl dM_receive_113 ?_
      refine zz_zle (tgt := 121) hx hb dM_receive_116 (by decide) (fun h => absurd h (by decide)) (fun _ => ?_)
      refine lv_iconst (v := 0) hx hb dM_receive_119 (by decide) ?_
      exact zq_iret hx hb hr hlocks dM_receive_120 (rfl) hAe hP hD hS
    · refine lv_aload_n hx hb dM_receive_29 rfl (lv_at hl 0 rfl) ?_
      refine lv_bipush (v := 40) hx hb dM_receive_30 (by decide) ?_
      refine lv_bipush (v := 8) hx hb dM_receive_32 (by decide) ?_
      refine zz_call (va_runV (Ts := []) (As := [.int 40, .int 8]) (own := RM) ⟨hx, hb, hml, hown, fun _ h => nomatch h⟩ (ct_M_read l (u := 40) (n := 8) (by first | decide | omega)) (zt_cv hT tc_M_read tv_M_read tw_722 ⟨Nat.le_of_ble_eq_true rfl, Nat.le_of_ble_eq_true rfl⟩) (zz_preV (q0 := 0) hT hP hK rfl rfl) rfl rfl hl.1 rfl (lv_room (Nat.le_of_ble_eq_true rfl)) dM_receive_34 ⟨Nat.zero_le _, Nat.zero_le _⟩) ?_
      refine lv_lconst (v := 0) hx hb dM_receive_37 (by decide) ?_
      refine zz_leq (tgt := 46) hx hb dM_receive_38 dM_receive_39 (by decide) (fun h3 => ?_) (fun h3 => ?_)
      · refine lv_iconst (v := 0) hx hb dM_receive_46 (by decide) ?_
        refine lv_istore_n (lv' := [(2, .int 0), (0, .ref o), (1, .int (nI k))]) hx hb dM_receive_47 rfl hl (by decide) rfl (fun ls hl => ?_)
        refine lv_aload_n hx hb dM_receive_48 rfl (lv_at hl 1 rfl) ?_
        refine lv_iload_n hx hb dM_receive_49 rfl (lv_at hl 2 rfl) ?_
        refine zz_call (va_runS (Ts := []) (As := [.int (nI k)]) (own := RM) ⟨hx, hb, hml, hown, fun _ h => nomatch h⟩ (ct_M_isServer l) (zt_cs hT tc_M_isServer ts_M_isServer tw_711 ⟨Nat.le_of_ble_eq_true rfl, Nat.le_of_ble_eq_true rfl⟩) (zz_pre0 hT) rfl rfl hl.1 rfl (lv_room (Nat.le_of_ble_eq_true rfl)) dM_receive_50 ⟨Nat.zero_le _, Nat.zero_le _⟩) ?_
        refine zz_ti (y := 1) (zm_isv_k hk) ?_
        refine zz_zne (tgt := 60) hx hb dM_receive_53 (by decide) (fun _ => ?_) (fun h => absurd h (by decide))
        refine lv_iload_n hx hb dM_receive_60 rfl (lv_at hl 0 rfl) ?_
        refine zz_zne (tgt := 68) hx hb dM_receive_61 (by decide) (fun h => absurd h (by decide)) (fun _ => ?_)
        refine lv_iconst (v := 2) hx hb dM_receive_64 (by decide) ?_
        refine lv_goto (tgt := 109) hx hb dM_receive_65 (by decide) ?_
        refine zz_putM (ty := .int) hx hb hT hown hK hP hD hS 0 rfl 0 (by decide) tw_617 rfl (by decide +kernel) rfl rfl (Nat.le_of_ble_eq_true rfl) dM_receive_109 (fun H locs hP hD hS => ?_)
        have hP : va_P (dC, dI) vcl (zm_W o ad cI cJ cZ 2 loc slw wst pk den rch pol ask xp str rdl rds nn off del cam ins low high) H := hP
        have hD : va_D A (zm_W o ad cI cJ cZ 2 loc slw wst pk den rch pol ask xp str rdl rds nn off del cam ins low high) := hD
        refine lv_aload_n hx hb dM_receive_112 rfl (lv_at hl 1 rfl) ?_
        refine zz_getM hx hb hT hown hK hP 0 rfl 0 (by decide) tw_617 rfl dM_receive_113 ?_
        refine zz_zle (tgt := 121) hx hb dM_receive_116 (by decide) (fun h => absurd h (by decide)) (fun _ => ?_)
        refine lv_iconst (v := 0) hx hb dM_receive_119 (by decide) ?_
        exact zq_iret hx hb hr hlocks dM_receive_120 (rfl) hAe hP hD hS
      · exact absurd ⟨⟨h1, h2⟩, h3⟩ hna
set_option maxHeartbeats 4000000 in
set_option maxRecDepth 100000 in
theorem ct_M_receive_st (l : Launch) {dC : Nat → ClassId} {dI : Nat → Nat → Nat} {cJ cI cB cZ cS : ClassId} {sz : Nat} {o : Nat} {ad : Nat → Nat} {thr wst : Int32} {loc slw low high : Int64} {pk den rch pol ask str ins : Nat → Int32} {xp rdl rds off del cam : Nat → Int64} {nn : Nat → Nat} {k : Nat} (hk : k < 5) (ha1 : ((pk 0) / 8) - ((pk 0) / 8) / 8 * 8 = 4) (ha2 : (pk 0) - (pk 0) / 8 * 8 = 4) (ha3 : ¬ zm_rd pk 40 8 = 0) (hst : ¬ (den k = 0 ∧ ¬ ask k = 0 ∧ xp k = zm_rd pk 24 8)) : Met l yM_receive [Cond.code yM_receive cM_receive 16 (some .int)] { frames := 2, cells := 0, slots := 0, locals := 48 } (va_Pc [.ref o, .int (nI k)] (zq_B (dC, dI) vcl (zz_T cJ cI cB cZ cS) (zm_W o ad cI cJ cZ thr loc slw wst pk den rch pol ask xp str rdl rds nn off del cam ins low high) sz)) (zq_Q (dC, dI) vcl (some (.int 0)) (zm_W o ad cI cJ cZ thr loc slw wst pk den rch pol ask xp str rdl rds nn off del cam ins low high) (zm_W o ad cI cJ cZ 3 loc slw wst pk den rch pol ask xp str rdl rds nn off del cam ins low high) sz) 0 0 (va_A (zm_W o ad cI cJ cZ thr loc slw wst pk den rch pol ask xp str rdl rds nn off del cam ins low high) sz) := by
  refine Met.ofW (cc := cM_receive) (maxL := 16) (ret := (some .int)) (by decide) rfl ?_
  intro p e s m args below meth c s₁ B hml hv
  obtain ⟨rfl, hsz, hT, hP, hK, hD0⟩ := hv
  subst hsz
  have hx := B.exec
  have hb := B.bytes
  have hr := B.returns
  have hlocks := B.notSynchronized
  have hown : s.vm.findClass RM = some m.cls := findClass_of_methodNamed B.named
  have hD := hD0.self (sz := s.heap.size)
  generalize hAe : va_A (zm_W o ad cI cJ cZ thr loc slw wst pk den rch pol ask xp str rdl rds nn off del cam ins low high) s.heap.size = A at hD ⊢
  have hA : ∀ q : Nat, s.heap.size ≤ q → A q := fun q h => by rw [← hAe]; exact Or.inr h
  have hS : va_S A s.heap s.heap [] := va_S.rf
  have hl := lv_entry ([.ref o, .int (nI k)]) (n := 16) (Nat.le_of_ble_eq_true rfl)
  rw [lg_entry_eq]
  generalize (lg_sl ([.ref o, .int (nI k)]) ++ List.replicate (16 - (lg_sl ([.ref o, .int (nI k)])).length) Slot.unset).toArray = ls at hl ⊢
  have hl : lv_has ls 16 [(0, .ref o), (1, .int (nI k))] := hl
  refine lv_aload_n hx hb dM_receive_0 rfl (lv_at hl 0 rfl) ?_
  refine zz_getM hx hb hT hown hK hP 0 rfl 4 (by decide) tw_621 rfl dM_receive_1 ?_
  refine lv_iconst (v := 0) hx hb dM_receive_4 (by decide) ?_
  refine zz_iald hx hb hK hP 1 1 rfl rfl 0 rfl (by first | omega | decide | assumption) (by decide) dM_receive_5 ?_
  refine lv_bipush (v := 8) hx hb dM_receive_6 (by decide) ?_
  refine lv_idiv hx hb dM_receive_8 (by decide) ?_
  refine lv_bipush (v := 8) hx hb dM_receive_9 (by decide) ?_
  refine lv_irem hx hb dM_receive_11 (by decide) ?_
  refine lv_iconst (v := 4) hx hb dM_receive_12 (by decide) ?_
  refine zz_ine (tgt := 46) hx hb dM_receive_13 (by decide) (fun h1 => ?_) (fun h1 => ?_)
  · exact absurd ha1 h1
  · refine lv_aload_n hx hb dM_receive_16 rfl (lv_at hl 0 rfl) ?_
    refine zz_getM hx hb hT hown hK hP 0 rfl 4 (by decide) tw_621 rfl dM_receive_17 ?_
    refine lv_iconst (v := 0) hx hb dM_receive_20 (by decide) ?_
    refine zz_iald hx hb hK hP 1 1 rfl rfl 0 rfl (by first | omega | decide | assumption) (by decide) dM_receive_21 ?_
    refine lv_bipush (v := 8) hx hb dM_receive_22 (by decide) ?_
    refine lv_irem hx hb dM_receive_24 (by decide) ?_
    refine lv_iconst (v := 4) hx hb dM_receive_25 (by decide) ?_
    refine zz_ine (tgt := 46) hx hb dM_receive_26 (by decide) (fun h2 => ?_) (fun h2 => ?_)
    · exact absurd ha2 h2
    · refine lv_aload_n hx hb dM_receive_29 rfl (lv_at hl 0 rfl) ?_
      refine lv_bipush (v := 40) hx hb dM_receive_30 (by decide) ?_
      refine lv_bipush (v := 8) hx hb dM_receive_32 (by decide) ?_
      refine zz_call (va_runV (Ts := []) (As := [.int 40, .int 8]) (own := RM) ⟨hx, hb, hml, hown, fun _ h => nomatch h⟩ (ct_M_read l (u := 40) (n := 8) (by first | decide | omega)) (zt_cv hT tc_M_read tv_M_read tw_722 ⟨Nat.le_of_ble_eq_true rfl, Nat.le_of_ble_eq_true rfl⟩) (zz_preV (q0 := 0) hT hP hK rfl rfl) rfl rfl hl.1 rfl (lv_room (Nat.le_of_ble_eq_true rfl)) dM_receive_34 ⟨Nat.zero_le _, Nat.zero_le _⟩) ?_
      refine lv_lconst (v := 0) hx hb dM_receive_37 (by decide) ?_
      refine zz_leq (tgt := 46) hx hb dM_receive_38 dM_receive_39 (by decide) (fun h3 => ?_) (fun h3 => ?_)
      · exact absurd h3 ha3
      · refine lv_iconst (v := 1) hx hb dM_receive_42 (by decide) ?_
        refine lv_goto (tgt := 47) hx hb dM_receive_43 (by decide) ?_
        refine lv_istore_n (lv' := [(2, .int 1), (0, .ref o), (1, .int (nI k))]) hx hb dM_receive_47 rfl hl (by decide) rfl (fun ls hl => ?_)
        refine lv_aload_n hx hb dM_receive_48 rfl (lv_at hl 1 rfl) ?_
        refine lv_iload_n hx hb dM_receive_49 rfl (lv_at hl 2 rfl) ?_
        refine zz_call (va_runS (Ts := []) (As := [.int (nI k)]) (own := RM) ⟨hx, hb, hml, hown, fun _ h => nomatch h⟩ (ct_M_isServer l) (zt_cs hT tc_M_isServer ts_M_isServer tw_711 ⟨Nat.le_of_ble_eq_true rfl, Nat.le_of_ble_eq_true rfl⟩) (zz_pre0 hT) rfl rfl hl.1 rfl (lv_room (Nat.le_of_ble_eq_true rfl)) dM_receive_50 ⟨Nat.zero_le _, Nat.zero_le _⟩) ?_
        refine zz_ti (y := 1) (zm_isv_k hk) ?_
        refine zz_zne (tgt := 60) hx hb dM_receive_53 (by decide) (fun _ => ?_) (fun h => absurd h (by decide))
        refine lv_iload_n hx hb dM_receive_60 rfl (lv_at hl 0 rfl) ?_
        refine zz_zne (tgt := 68) hx hb dM_receive_61 (by decide) (fun _ => ?_) (fun h => absurd h (by decide))
        refine lv_aload_n hx hb dM_receive_68 rfl (lv_at hl 1 rfl) ?_
        refine zz_getM hx hb hT hown hK hP 0 rfl 5 (by decide) tw_622 rfl dM_receive_69 ?_
        refine lv_iload_n hx hb dM_receive_72 rfl (lv_at hl 2 rfl) ?_
        refine zz_zald hx hb hK hP 2 3 rfl rfl k rfl (by first | omega | decide | assumption) (by decide) dM_receive_73 ?_
        refine zz_zne (tgt := 104) hx hb dM_receive_74 (by decide) (fun h4 => ?_) (fun h4 => ?_)
        · refine lv_iconst (v := 3) hx hb dM_receive_104 (by decide) ?_
          refine lv_goto (tgt := 109) hx hb dM_receive_105 (by decide) ?_
          refine zz_putM (ty := .int) hx hb hT hown hK hP hD hS 0 rfl 0 (by decide) tw_617 rfl (by decide +kernel) rfl rfl (Nat.le_of_ble_eq_true rfl) dM_receive_109 (fun H locs hP hD hS => ?_)
          have hP : va_P (dC, dI) vcl (zm_W o ad cI cJ cZ 3 loc slw wst pk den rch pol ask xp str rdl rds nn off del cam ins low high) H := hP
          have hD : va_D A (zm_W o ad cI cJ cZ 3 loc slw wst pk den rch pol ask xp str rdl rds nn off del cam ins low high) := hD
          refine lv_aload_n hx hb dM_receive_112 rfl (lv_at hl 1 rfl) ?_
          refine zz_getM hx hb hT hown hK hP 0 rfl 0 (by decide) tw_617 rfl dM_receive_113 ?_
          refine zz_zle (tgt := 121) hx hb dM_receive_116 (by decide) (fun h => absurd h (by decide)) (fun _ => ?_)
          refine lv_iconst (v := 0) hx hb dM_receive_119 (by decide) ?_
          exact zq_iret hx hb hr hlocks dM_receive_120 (rfl) hAe hP hD hS
        · refine lv_aload_n hx hb dM_receive_77 rfl (lv_at hl 1 rfl) ?_
          refine zz_getM hx hb hT hown hK hP 0 rfl 8 (by decide) tw_625 rfl dM_receive_78 ?_
          refine lv_iload_n hx hb dM_receive_81 rfl (lv_at hl 2 rfl) ?_
          refine zz_zald hx hb hK hP 5 3 rfl rfl k rfl (by first | omega | decide | assumption) (by decide) dM_receive_82 ?_
          refine zz_zeq (tgt := 104) hx hb dM_receive_83 (by decide) (fun h5 => ?_) (fun h5 => ?_)
          · refine lv_iconst (v := 3) hx hb dM_receive_104 (by decide) ?_
            refine lv_goto (tgt := 109) hx hb dM_receive_105 (by decide) ?_
            refine zz_putM (ty := .int) hx hb hT hown hK hP hD hS 0 rfl 0 (by decide) tw_617 rfl (by decide +kernel) rfl rfl (Nat.le_of_ble_eq_true rfl) dM_receive_109 (fun H locs hP hD hS => ?_)
            have hP : va_P (dC, dI) vcl (zm_W o ad cI cJ cZ 3 loc slw wst pk den rch pol ask xp str rdl rds nn off del cam ins low high) H := hP
            have hD : va_D A (zm_W o ad cI cJ cZ 3 loc slw wst pk den rch pol ask xp str rdl rds nn off del cam ins low high) := hD
            refine lv_aload_n hx hb dM_receive_112 rfl (lv_at hl 1 rfl) ?_
            refine zz_getM hx hb hT hown hK hP 0 rfl 0 (by decide) tw_617 rfl dM_receive_113 ?_
            refine zz_zle (tgt := 121) hx hb dM_receive_116 (by decide) (fun h => absurd h (by decide)) (fun _ => ?_)
            refine lv_iconst (v := 0) hx hb dM_receive_119 (by decide) ?_
            exact zq_iret hx hb hr hlocks dM_receive_120 (rfl) hAe hP hD hS
          · refine lv_aload_n hx hb dM_receive_86 rfl (lv_at hl 1 rfl) ?_
            refine zz_getM hx hb hT hown hK hP 0 rfl 9 (by decide) tw_626 rfl dM_receive_87 ?_
            refine lv_iload_n hx hb dM_receive_90 rfl (lv_at hl 2 rfl) ?_
            refine zz_lald hx hb hK hP 6 0 rfl rfl k rfl (by first | omega | decide | assumption) (by decide) dM_receive_91 ?_
            refine lv_aload_n hx hb dM_receive_92 rfl (lv_at hl 1 rfl) ?_
            refine lv_bipush (v := 24) hx hb dM_receive_93 (by decide) ?_
            refine lv_bipush (v := 8) hx hb dM_receive_95 (by decide) ?_
            refine zz_call (va_runV (Ts := []) (As := [.int 24, .int 8]) (own := RM) ⟨hx, hb, hml, hown, fun _ h => nomatch h⟩ (ct_M_read l (u := 24) (n := 8) (by first | decide | omega)) (zt_cv hT tc_M_read tv_M_read tw_722 ⟨Nat.le_of_ble_eq_true rfl, Nat.le_of_ble_eq_true rfl⟩) (zz_preV (q0 := 0) hT hP hK rfl rfl) rfl rfl hl.1 rfl (lv_room (Nat.le_of_ble_eq_true rfl)) dM_receive_97 ⟨Nat.zero_le _, Nat.zero_le _⟩) ?_
            refine zz_leq (tgt := 108) hx hb dM_receive_100 dM_receive_101 (by decide) (fun h6 => ?_) (fun h6 => ?_)
            · exact absurd ⟨h4, h5, h6⟩ hst
            · refine lv_iconst (v := 3) hx hb dM_receive_104 (by decide) ?_
              refine lv_goto (tgt := 109) hx hb dM_receive_105 (by decide) ?_
              refine zz_putM (ty := .int) hx hb hT hown hK hP hD hS 0 rfl 0 (by decide) tw_617 rfl (by decide +kernel) rfl rfl (Nat.le_of_ble_eq_true rfl) dM_receive_109 (fun H locs hP hD hS => ?_)
              have hP : va_P (dC, dI) vcl (zm_W o ad cI cJ cZ 3 loc slw wst pk den rch pol ask xp str rdl rds nn off del cam ins low high) H := hP
              have hD : va_D A (zm_W o ad cI cJ cZ 3 loc slw wst pk den rch pol ask xp str rdl rds nn off del cam ins low high) := hD
              refine lv_aload_n hx hb dM_receive_112 rfl (lv_at hl 1 rfl) ?_
              refine zz_getM hx hb hT hown hK hP 0 rfl 0 (by decide) tw_617 rfl dM_receive_113 ?_
              refine zz_zle (tgt := 121) hx hb dM_receive_116 (by decide) (fun h => absurd h (by decide)) (fun _ => ?_)
              refine lv_iconst (v := 0) hx hb dM_receive_119 (by decide) ?_
              exact zq_iret hx hb hr hlocks dM_receive_120 (rfl) hAe hP hD hS
set_option maxHeartbeats 4000000 in
set_option maxRecDepth 100000 in
theorem ct_M_receive_kis (l : Launch) {dC : Nat → ClassId} {dI : Nat → Nat → Nat} {cJ cI cB cZ cS : ClassId} {sz : Nat} {o : Nat} {ad : Nat → Nat} {thr wst : Int32} {loc slw low high : Int64} {pk den rch pol ask str ins : Nat → Int32} {xp rdl rds off del cam : Nat → Int64} {nn : Nat → Nat} {k : Nat} (hk : k < 5) (ha1 : ((pk 0) / 8) - ((pk 0) / 8) / 8 * 8 = 4) (ha2 : (pk 0) - (pk 0) / 8 * 8 = 4) (ha3 : ¬ zm_rd pk 40 8 = 0) (hd0 : den k = 0) (hd1 : ¬ ask k = 0) (hd2 : xp k = zm_rd pk 24 8) (hs0 : pk 1 = 0) : Met l yM_receive [Cond.code yM_receive cM_receive 16 (some .int)] { frames := 2, cells := 0, slots := 0, locals := 48 } (va_Pc [.ref o, .int (nI k)] (zq_B (dC, dI) vcl (zz_T cJ cI cB cZ cS) (zm_W o ad cI cJ cZ thr loc slw wst pk den rch pol ask xp str rdl rds nn off del cam ins low high) sz)) (zq_Q (dC, dI) vcl (some (.int 2)) (zm_W o ad cI cJ cZ thr loc slw wst pk den rch pol ask xp str rdl rds nn off del cam ins low high) (zm_W o ad cI cJ cZ 0 loc slw wst pk (zm_kd den (zm_rd pk 12 4) k) rch (zm_kp pol (zm_rd pk 12 4) k) (upd ask k 0) xp str rdl rds nn off del cam ins low high) sz) 0 0 (va_A (zm_W o ad cI cJ cZ thr loc slw wst pk den rch pol ask xp str rdl rds nn off del cam ins low high) sz) := by
  refine Met.ofW (cc := cM_receive) (maxL := 16) (ret := (some .int)) (by decide) rfl ?_
  intro p e s m args below meth c s₁ B hml hv
  obtain ⟨rfl, hsz, hT, hP, hK, hD0⟩ := hv
  subst hsz
  have hx := B.exec
  have hb := B.bytes
  have hr := B.returns
  have hlocks := B.notSynchronized
  have hown : s.vm.findClass RM = some m.cls := findClass_of_methodNamed B.named
  have hD := hD0.self (sz := s.heap.size)
  generalize hAe : va_A (zm_W o ad cI cJ cZ thr loc slw wst pk den rch pol ask xp str rdl rds nn off del cam ins low high) s.heap.size = A at hD ⊢
  have hA : ∀ q : Nat, s.heap.size ≤ q → A q := fun q h => by rw [← hAe]; exact Or.inr h
  have hS : va_S A s.heap s.heap [] := va_S.rf
  have hl := lv_entry ([.ref o, .int (nI k)]) (n := 16) (Nat.le_of_ble_eq_true rfl)
  rw [lg_entry_eq]
  generalize (lg_sl ([.ref o, .int (nI k)]) ++ List.replicate (16 - (lg_sl ([.ref o, .int (nI k)])).length) Slot.unset).toArray = ls at hl ⊢
  have hl : lv_has ls 16 [(0, .ref o), (1, .int (nI k))] := hl
  refine lv_aload_n hx hb dM_receive_0 rfl (lv_at hl 0 rfl) ?_
  refine zz_getM hx hb hT hown hK hP 0 rfl 4 (by decide) tw_621 rfl dM_receive_1 ?_
  refine lv_iconst (v := 0) hx hb dM_receive_4 (by decide) ?_
  refine zz_iald hx hb hK hP 1 1 rfl rfl 0 rfl (by first | omega | decide | assumption) (by decide) dM_receive_5 ?_
  refine lv_bipush (v := 8) hx hb dM_receive_6 (by decide) ?_
  refine lv_idiv hx hb dM_receive_8 (by decide) ?_
  refine lv_bipush (v := 8) hx hb dM_receive_9 (by decide) ?_
  refine lv_irem hx hb dM_receive_11 (by decide) ?_
  refine lv_iconst (v := 4) hx hb dM_receive_12 (by decide) ?_
  refine zz_ine (tgt := 46) hx hb dM_receive_13 (by decide) (fun h1 => ?_) (fun h1 => ?_)
  · exact absurd ha1 h1
  · refine lv_aload_n hx hb dM_receive_16 rfl (lv_at hl 0 rfl) ?_
    refine zz_getM hx hb hT hown hK hP 0 rfl 4 (by decide) tw_621 rfl dM_receive_17 ?_
    refine lv_iconst (v := 0) hx hb dM_receive_20 (by decide) ?_
    refine zz_iald hx hb hK hP 1 1 rfl rfl 0 rfl (by first | omega | decide | assumption) (by decide) dM_receive_21 ?_
    refine lv_bipush (v := 8) hx hb dM_receive_22 (by decide) ?_
    refine lv_irem hx hb dM_receive_24 (by decide) ?_
    refine lv_iconst (v := 4) hx hb dM_receive_25 (by decide) ?_
    refine zz_ine (tgt := 46) hx hb dM_receive_26 (by decide) (fun h2 => ?_) (fun h2 => ?_)
    · exact absurd ha2 h2
    · refine lv_aload_n hx hb dM_receive_29 rfl (lv_at hl 0 rfl) ?_
      refine lv_bipush (v := 40) hx hb dM_receive_30 (by decide) ?_
      refine lv_bipush (v := 8) hx hb dM_receive_32 (by decide) ?_
      refine zz_call (va_runV (Ts := []) (As := [.int 40, .int 8]) (own := RM) ⟨hx, hb, hml, hown, fun _ h => nomatch h⟩ (ct_M_read l (u := 40) (n := 8) (by first | decide | omega)) (zt_cv hT tc_M_read tv_M_read tw_722 ⟨Nat.le_of_ble_eq_true rfl, Nat.le_of_ble_eq_true rfl⟩) (zz_preV (q0 := 0) hT hP hK rfl rfl) rfl rfl hl.1 rfl (lv_room (Nat.le_of_ble_eq_true rfl)) dM_receive_34 ⟨Nat.zero_le _, Nat.zero_le _⟩) ?_
      refine lv_lconst (v := 0) hx hb dM_receive_37 (by decide) ?_
      refine zz_leq (tgt := 46) hx hb dM_receive_38 dM_receive_39 (by decide) (fun h3 => ?_) (fun h3 => ?_)
      · exact absurd h3 ha3
      · refine lv_iconst (v := 1) hx hb dM_receive_42 (by decide) ?_
        refine lv_goto (tgt := 47) hx hb dM_receive_43 (by decide) ?_
        refine lv_istore_n (lv' := [(2, .int 1), (0, .ref o), (1, .int (nI k))]) hx hb dM_receive_47 rfl hl (by decide) rfl (fun ls hl => ?_)
        refine lv_aload_n hx hb dM_receive_48 rfl (lv_at hl 1 rfl) ?_
        refine lv_iload_n hx hb dM_receive_49 rfl (lv_at hl 2 rfl) ?_
        refine zz_call (va_runS (Ts := []) (As := [.int (nI k)]) (own := RM) ⟨hx, hb, hml, hown, fun _ h => nomatch h⟩ (ct_M_isServer l) (zt_cs hT tc_M_isServer ts_M_isServer tw_711 ⟨Nat.le_of_ble_eq_true rfl, Nat.le_of_ble_eq_true rfl⟩) (zz_pre0 hT) rfl rfl hl.1 rfl (lv_room (Nat.le_of_ble_eq_true rfl)) dM_receive_50 ⟨Nat.zero_le _, Nat.zero_le _⟩) ?_
        refine zz_ti (y := 1) (zm_isv_k hk) ?_
        refine zz_zne (tgt := 60) hx hb dM_receive_53 (by decide) (fun _ => ?_) (fun h => absurd h (by decide))
        refine lv_iload_n hx hb dM_receive_60 rfl (lv_at hl 0 rfl) ?_
        refine zz_zne (tgt := 68) hx hb dM_receive_61 (by decide) (fun _ => ?_) (fun h => absurd h (by decide))
        refine lv_aload_n hx hb dM_receive_68 rfl (lv_at hl 1 rfl) ?_
        refine zz_getM hx hb hT hown hK hP 0 rfl 5 (by decide) tw_622 rfl dM_receive_69 ?_
        refine lv_iload_n hx hb dM_receive_72 rfl (lv_at hl 2 rfl) ?_
        refine zz_zald hx hb hK hP 2 3 rfl rfl k rfl (by first | omega | decide | assumption) (by decide) dM_receive_73 ?_
        refine zz_zne (tgt := 104) hx hb dM_receive_74 (by decide) (fun h4 => ?_) (fun h4 => ?_)
        · exact absurd hd0 h4
        · refine lv_aload_n hx hb dM_receive_77 rfl (lv_at hl 1 rfl) ?_
          refine zz_getM hx hb hT hown hK hP 0 rfl 8 (by decide) tw_625 rfl dM_receive_78 ?_
          refine lv_iload_n hx hb dM_receive_81 rfl (lv_at hl 2 rfl) ?_
          refine zz_zald hx hb hK hP 5 3 rfl rfl k rfl (by first | omega | decide | assumption) (by decide) dM_receive_82 ?_
          refine zz_zeq (tgt := 104) hx hb dM_receive_83 (by decide) (fun h5 => ?_) (fun h5 => ?_)
          · exact absurd h5 hd1
          · refine lv_aload_n hx hb dM_receive_86 rfl (lv_at hl 1 rfl) ?_
            refine zz_getM hx hb hT hown hK hP 0 rfl 9 (by decide) tw_626 rfl dM_receive_87 ?_
            refine lv_iload_n hx hb dM_receive_90 rfl (lv_at hl 2 rfl) ?_
            refine zz_lald hx hb hK hP 6 0 rfl rfl k rfl (by first | omega | decide | assumption) (by decide) dM_receive_91 ?_
            refine lv_aload_n hx hb dM_receive_92 rfl (lv_at hl 1 rfl) ?_
            refine lv_bipush (v := 24) hx hb dM_receive_93 (by decide) ?_
            refine lv_bipush (v := 8) hx hb dM_receive_95 (by decide) ?_
            refine zz_call (va_runV (Ts := []) (As := [.int 24, .int 8]) (own := RM) ⟨hx, hb, hml, hown, fun _ h => nomatch h⟩ (ct_M_read l (u := 24) (n := 8) (by first | decide | omega)) (zt_cv hT tc_M_read tv_M_read tw_722 ⟨Nat.le_of_ble_eq_true rfl, Nat.le_of_ble_eq_true rfl⟩) (zz_preV (q0 := 0) hT hP hK rfl rfl) rfl rfl hl.1 rfl (lv_room (Nat.le_of_ble_eq_true rfl)) dM_receive_97 ⟨Nat.zero_le _, Nat.zero_le _⟩) ?_
            refine zz_leq (tgt := 108) hx hb dM_receive_100 dM_receive_101 (by decide) (fun h6 => ?_) (fun h6 => ?_)
            · refine lv_iconst (v := 0) hx hb dM_receive_108 (by decide) ?_
              refine zz_putM (ty := .int) hx hb hT hown hK hP hD hS 0 rfl 0 (by decide) tw_617 rfl (by decide +kernel) rfl rfl (Nat.le_of_ble_eq_true rfl) dM_receive_109 (fun H locs hP hD hS => ?_)
              have hP : va_P (dC, dI) vcl (zm_W o ad cI cJ cZ 0 loc slw wst pk den rch pol ask xp str rdl rds nn off del cam ins low high) H := hP
              have hD : va_D A (zm_W o ad cI cJ cZ 0 loc slw wst pk den rch pol ask xp str rdl rds nn off del cam ins low high) := hD
              refine lv_aload_n hx hb dM_receive_112 rfl (lv_at hl 1 rfl) ?_
              refine zz_getM hx hb hT hown hK hP 0 rfl 0 (by decide) tw_617 rfl dM_receive_113 ?_
              refine zz_zle (tgt := 121) hx hb dM_receive_116 (by decide) (fun _ => ?_) (fun h => absurd h (by decide))
              refine lv_aload_n hx hb dM_receive_121 rfl (lv_at hl 1 rfl) ?_
              refine zz_getM hx hb hT hown hK hP 0 rfl 9 (by decide) tw_626 rfl dM_receive_122 ?_
              refine lv_iload_n hx hb dM_receive_125 rfl (lv_at hl 2 rfl) ?_
              refine zz_lald hx hb hK hP 6 0 rfl rfl k rfl (by first | omega | decide | assumption) (by decide) dM_receive_126 ?_
              refine lv_lstore_n (lv' := [(3, .long (xp k)), (2, .int 1), (0, .ref o), (1, .int (nI k))]) hx hb dM_receive_127 rfl hl (by decide) rfl (fun ls hl => ?_)
              refine lv_aload_n hx hb dM_receive_128 rfl (lv_at hl 2 rfl) ?_
              refine zz_getM hx hb hT hown hK hP 0 rfl 8 (by decide) tw_625 rfl dM_receive_129 ?_
              refine lv_iload_n hx hb dM_receive_132 rfl (lv_at hl 3 rfl) ?_
              refine lv_iconst (v := 0) hx hb dM_receive_133 (by decide) ?_
              refine zq_zast hx hb hK hP hD hS 5 3 rfl rfl k rfl (by first | omega | decide | assumption) (by decide) rfl dM_receive_134 (fun H locs hP hD hS => ?_)
              have hP : va_P (dC, dI) vcl (zm_W o ad cI cJ cZ 0 loc slw wst pk den rch pol (upd ask k 0) xp str rdl rds nn off del cam ins low high) H := hP
              have hD : va_D A (zm_W o ad cI cJ cZ 0 loc slw wst pk den rch pol (upd ask k 0) xp str rdl rds nn off del cam ins low high) := hD
              refine lv_aload_n hx hb dM_receive_135 rfl (lv_at hl 2 rfl) ?_
              refine zz_getM hx hb hT hown hK hP 0 rfl 4 (by decide) tw_621 rfl dM_receive_136 ?_
              refine lv_iconst (v := 1) hx hb dM_receive_139 (by decide) ?_
              refine zz_iald hx hb hK hP 1 1 rfl rfl 1 rfl (by first | omega | decide | assumption) (by decide) dM_receive_140 ?_
              refine zz_zne (tgt := 150) hx hb dM_receive_141 (by decide) (fun h7 => ?_) (fun h7 => ?_)
              · exact absurd hs0 h7
              · refine lv_aload_n hx hb dM_receive_144 rfl (lv_at hl 2 rfl) ?_
                refine lv_iload_n hx hb dM_receive_145 rfl (lv_at hl 3 rfl) ?_
                refine zq_call0 (va_runV (Ts := []) (As := [.int (nI k)]) (own := RM) ⟨hx, hb, hml, hown, fun _ h => nomatch h⟩ (ct_M_kiss l hk) (zt_cv hT tc_M_kiss tv_M_kiss tw_726 ⟨Nat.le_of_ble_eq_true rfl, Nat.le_of_ble_eq_true rfl⟩) (zq_preV (q0 := 0) hT hP hK hD rfl rfl) rfl rfl hl.1 rfl (lv_room (Nat.le_of_ble_eq_true rfl)) dM_receive_146 ⟨Nat.zero_le _, Nat.zero_le _⟩) hP hD hS hA (fun H locs hP hD hS => ?_)
                have hP : va_P (dC, dI) vcl (zm_W o ad cI cJ cZ 0 loc slw wst pk (zm_kd den (zm_rd pk 12 4) k) rch (zm_kp pol (zm_rd pk 12 4) k) (upd ask k 0) xp str rdl rds nn off del cam ins low high) H := hP
                have hD : va_D A (zm_W o ad cI cJ cZ 0 loc slw wst pk (zm_kd den (zm_rd pk 12 4) k) rch (zm_kp pol (zm_rd pk 12 4) k) (upd ask k 0) xp str rdl rds nn off del cam ins low high) := hD
                refine W.eq (g2 := F0 m 149 ls [.int 2]) rfl ?_
                exact zq_iret hx hb hr hlocks dM_receive_149 (rfl) hAe hP hD hS
            · exact absurd hd2 h6
set_option maxHeartbeats 4000000 in
set_option maxRecDepth 100000 in
theorem ct_M_receive_uns (l : Launch) {dC : Nat → ClassId} {dI : Nat → Nat → Nat} {cJ cI cB cZ cS : ClassId} {sz : Nat} {o : Nat} {ad : Nat → Nat} {thr wst : Int32} {loc slw low high : Int64} {pk den rch pol ask str ins : Nat → Int32} {xp rdl rds off del cam : Nat → Int64} {nn : Nat → Nat} {k : Nat} (hk : k < 5) (ha1 : ((pk 0) / 8) - ((pk 0) / 8) / 8 * 8 = 4) (ha2 : (pk 0) - (pk 0) / 8 * 8 = 4) (ha3 : ¬ zm_rd pk 40 8 = 0) (hd0 : den k = 0) (hd1 : ¬ ask k = 0) (hd2 : xp k = zm_rd pk 24 8) (hs0 : ¬ pk 1 = 0) (hu : (pk 0) / 64 = 3 ∨ 15 < pk 1) : Met l yM_receive [Cond.code yM_receive cM_receive 16 (some .int)] { frames := 2, cells := 0, slots := 0, locals := 48 } (va_Pc [.ref o, .int (nI k)] (zq_B (dC, dI) vcl (zz_T cJ cI cB cZ cS) (zm_W o ad cI cJ cZ thr loc slw wst pk den rch pol ask xp str rdl rds nn off del cam ins low high) sz)) (zq_Q (dC, dI) vcl (some (.int 1)) (zm_W o ad cI cJ cZ thr loc slw wst pk den rch pol ask xp str rdl rds nn off del cam ins low high) (zm_W o ad cI cJ cZ 0 loc slw wst pk den rch pol (upd ask k 0) xp str rdl rds nn off del cam ins low high) sz) 0 0 (va_A (zm_W o ad cI cJ cZ thr loc slw wst pk den rch pol ask xp str rdl rds nn off del cam ins low high) sz) := by
  refine Met.ofW (cc := cM_receive) (maxL := 16) (ret := (some .int)) (by decide) rfl ?_
  intro p e s m args below meth c s₁ B hml hv
  obtain ⟨rfl, hsz, hT, hP, hK, hD0⟩ := hv
  subst hsz
  have hx := B.exec
  have hb := B.bytes
  have hr := B.returns
  have hlocks := B.notSynchronized
  have hown : s.vm.findClass RM = some m.cls := findClass_of_methodNamed B.named
  have hD := hD0.self (sz := s.heap.size)
  generalize hAe : va_A (zm_W o ad cI cJ cZ thr loc slw wst pk den rch pol ask xp str rdl rds nn off del cam ins low high) s.heap.size = A at hD ⊢
  have hA : ∀ q : Nat, s.heap.size ≤ q → A q := fun q h => by rw [← hAe]; exact Or.inr h
  have hS : va_S A s.heap s.heap [] := va_S.rf
  have hl := lv_entry ([.ref o, .int (nI k)]) (n := 16) (Nat.le_of_ble_eq_true rfl)
  rw [lg_entry_eq]
  generalize (lg_sl ([.ref o, .int (nI k)]) ++ List.replicate (16 - (lg_sl ([.ref o, .int (nI k)])).length) Slot.unset).toArray = ls at hl ⊢
  have hl : lv_has ls 16 [(0, .ref o), (1, .int (nI k))] := hl
  refine lv_aload_n hx hb dM_receive_0 rfl (lv_at hl 0 rfl) ?_
  refine zz_getM hx hb hT hown hK hP 0 rfl 4 (by decide) tw_621 rfl dM_receive_1 ?_
  refine lv_iconst (v := 0) hx hb dM_receive_4 (by decide) ?_
  refine zz_iald hx hb hK hP 1 1 rfl rfl 0 rfl (by first | omega | decide | assumption) (by decide) dM_receive_5 ?_
  refine lv_bipush (v := 8) hx hb dM_receive_6 (by decide) ?_
  refine lv_idiv hx hb dM_receive_8 (by decide) ?_
  refine lv_bipush (v := 8) hx hb dM_receive_9 (by decide) ?_
  refine lv_irem hx hb dM_receive_11 (by decide) ?_
  refine lv_iconst (v := 4) hx hb dM_receive_12 (by decide) ?_
  refine zz_ine (tgt := 46) hx hb dM_receive_13 (by decide) (fun h1 => ?_) (fun h1 => ?_)
  · exact absurd ha1 h1
  · refine lv_aload_n hx hb dM_receive_16 rfl (lv_at hl 0 rfl) ?_
    refine zz_getM hx hb hT hown hK hP 0 rfl 4 (by decide) tw_621 rfl dM_receive_17 ?_
    refine lv_iconst (v := 0) hx hb dM_receive_20 (by decide) ?_
    refine zz_iald hx hb hK hP 1 1 rfl rfl 0 rfl (by first | omega | decide | assumption) (by decide) dM_receive_21 ?_
    refine lv_bipush (v := 8) hx hb dM_receive_22 (by decide) ?_
    refine lv_irem hx hb dM_receive_24 (by decide) ?_
    refine lv_iconst (v := 4) hx hb dM_receive_25 (by decide) ?_
    refine zz_ine (tgt := 46) hx hb dM_receive_26 (by decide) (fun h2 => ?_) (fun h2 => ?_)
    · exact absurd ha2 h2
    · refine lv_aload_n hx hb dM_receive_29 rfl (lv_at hl 0 rfl) ?_
      refine lv_bipush (v := 40) hx hb dM_receive_30 (by decide) ?_
      refine lv_bipush (v := 8) hx hb dM_receive_32 (by decide) ?_
      refine zz_call (va_runV (Ts := []) (As := [.int 40, .int 8]) (own := RM) ⟨hx, hb, hml, hown, fun _ h => nomatch h⟩ (ct_M_read l (u := 40) (n := 8) (by first | decide | omega)) (zt_cv hT tc_M_read tv_M_read tw_722 ⟨Nat.le_of_ble_eq_true rfl, Nat.le_of_ble_eq_true rfl⟩) (zz_preV (q0 := 0) hT hP hK rfl rfl) rfl rfl hl.1 rfl (lv_room (Nat.le_of_ble_eq_true rfl)) dM_receive_34 ⟨Nat.zero_le _, Nat.zero_le _⟩) ?_
      refine lv_lconst (v := 0) hx hb dM_receive_37 (by decide) ?_
      refine zz_leq (tgt := 46) hx hb dM_receive_38 dM_receive_39 (by decide) (fun h3 => ?_) (fun h3 => ?_)
      · exact absurd h3 ha3
      · refine lv_iconst (v := 1) hx hb dM_receive_42 (by decide) ?_
        refine lv_goto (tgt := 47) hx hb dM_receive_43 (by decide) ?_
        refine lv_istore_n (lv' := [(2, .int 1), (0, .ref o), (1, .int (nI k))]) hx hb dM_receive_47 rfl hl (by decide) rfl (fun ls hl => ?_)
        refine lv_aload_n hx hb dM_receive_48 rfl (lv_at hl 1 rfl) ?_
        refine lv_iload_n hx hb dM_receive_49 rfl (lv_at hl 2 rfl) ?_
        refine zz_call (va_runS (Ts := []) (As := [.int (nI k)]) (own := RM) ⟨hx, hb, hml, hown, fun _ h => nomatch h⟩ (ct_M_isServer l) (zt_cs hT tc_M_isServer ts_M_isServer tw_711 ⟨Nat.le_of_ble_eq_true rfl, Nat.le_of_ble_eq_true rfl⟩) (zz_pre0 hT) rfl rfl hl.1 rfl (lv_room (Nat.le_of_ble_eq_true rfl)) dM_receive_50 ⟨Nat.zero_le _, Nat.zero_le _⟩) ?_
        refine zz_ti (y := 1) (zm_isv_k hk) ?_
        refine zz_zne (tgt := 60) hx hb dM_receive_53 (by decide) (fun _ => ?_) (fun h => absurd h (by decide))
        refine lv_iload_n hx hb dM_receive_60 rfl (lv_at hl 0 rfl) ?_
        refine zz_zne (tgt := 68) hx hb dM_receive_61 (by decide) (fun _ => ?_) (fun h => absurd h (by decide))
        refine lv_aload_n hx hb dM_receive_68 rfl (lv_at hl 1 rfl) ?_
        refine zz_getM hx hb hT hown hK hP 0 rfl 5 (by decide) tw_622 rfl dM_receive_69 ?_
        refine lv_iload_n hx hb dM_receive_72 rfl (lv_at hl 2 rfl) ?_
        refine zz_zald hx hb hK hP 2 3 rfl rfl k rfl (by first | omega | decide | assumption) (by decide) dM_receive_73 ?_
        refine zz_zne (tgt := 104) hx hb dM_receive_74 (by decide) (fun h4 => ?_) (fun h4 => ?_)
        · exact absurd hd0 h4
        · refine lv_aload_n hx hb dM_receive_77 rfl (lv_at hl 1 rfl) ?_
          refine zz_getM hx hb hT hown hK hP 0 rfl 8 (by decide) tw_625 rfl dM_receive_78 ?_
          refine lv_iload_n hx hb dM_receive_81 rfl (lv_at hl 2 rfl) ?_
          refine zz_zald hx hb hK hP 5 3 rfl rfl k rfl (by first | omega | decide | assumption) (by decide) dM_receive_82 ?_
          refine zz_zeq (tgt := 104) hx hb dM_receive_83 (by decide) (fun h5 => ?_) (fun h5 => ?_)
          · exact absurd h5 hd1
          · refine lv_aload_n hx hb dM_receive_86 rfl (lv_at hl 1 rfl) ?_
            refine zz_getM hx hb hT hown hK hP 0 rfl 9 (by decide) tw_626 rfl dM_receive_87 ?_
            refine lv_iload_n hx hb dM_receive_90 rfl (lv_at hl 2 rfl) ?_
            refine zz_lald hx hb hK hP 6 0 rfl rfl k rfl (by first | omega | decide | assumption) (by decide) dM_receive_91 ?_
            refine lv_aload_n hx hb dM_receive_92 rfl (lv_at hl 1 rfl) ?_
            refine lv_bipush (v := 24) hx hb dM_receive_93 (by decide) ?_
            refine lv_bipush (v := 8) hx hb dM_receive_95 (by decide) ?_
            refine zz_call (va_runV (Ts := []) (As := [.int 24, .int 8]) (own := RM) ⟨hx, hb, hml, hown, fun _ h => nomatch h⟩ (ct_M_read l (u := 24) (n := 8) (by first | decide | omega)) (zt_cv hT tc_M_read tv_M_read tw_722 ⟨Nat.le_of_ble_eq_true rfl, Nat.le_of_ble_eq_true rfl⟩) (zz_preV (q0 := 0) hT hP hK rfl rfl) rfl rfl hl.1 rfl (lv_room (Nat.le_of_ble_eq_true rfl)) dM_receive_97 ⟨Nat.zero_le _, Nat.zero_le _⟩) ?_
            refine zz_leq (tgt := 108) hx hb dM_receive_100 dM_receive_101 (by decide) (fun h6 => ?_) (fun h6 => ?_)
            · refine lv_iconst (v := 0) hx hb dM_receive_108 (by decide) ?_
              refine zz_putM (ty := .int) hx hb hT hown hK hP hD hS 0 rfl 0 (by decide) tw_617 rfl (by decide +kernel) rfl rfl (Nat.le_of_ble_eq_true rfl) dM_receive_109 (fun H locs hP hD hS => ?_)
              have hP : va_P (dC, dI) vcl (zm_W o ad cI cJ cZ 0 loc slw wst pk den rch pol ask xp str rdl rds nn off del cam ins low high) H := hP
              have hD : va_D A (zm_W o ad cI cJ cZ 0 loc slw wst pk den rch pol ask xp str rdl rds nn off del cam ins low high) := hD
              refine lv_aload_n hx hb dM_receive_112 rfl (lv_at hl 1 rfl) ?_
              refine zz_getM hx hb hT hown hK hP 0 rfl 0 (by decide) tw_617 rfl dM_receive_113 ?_
              refine zz_zle (tgt := 121) hx hb dM_receive_116 (by decide) (fun _ => ?_) (fun h => absurd h (by decide))
              refine lv_aload_n hx hb dM_receive_121 rfl (lv_at hl 1 rfl) ?_
              refine zz_getM hx hb hT hown hK hP 0 rfl 9 (by decide) tw_626 rfl dM_receive_122 ?_
              refine lv_iload_n hx hb dM_receive_125 rfl (lv_at hl 2 rfl) ?_
              refine zz_lald hx hb hK hP 6 0 rfl rfl k rfl (by first | omega | decide | assumption) (by decide) dM_receive_126 ?_
              refine lv_lstore_n (lv' := [(3, .long (xp k)), (2, .int 1), (0, .ref o), (1, .int (nI k))]) hx hb dM_receive_127 rfl hl (by decide) rfl (fun ls hl => ?_)
              refine lv_aload_n hx hb dM_receive_128 rfl (lv_at hl 2 rfl) ?_
              refine zz_getM hx hb hT hown hK hP 0 rfl 8 (by decide) tw_625 rfl dM_receive_129 ?_
              refine lv_iload_n hx hb dM_receive_132 rfl (lv_at hl 3 rfl) ?_
              refine lv_iconst (v := 0) hx hb dM_receive_133 (by decide) ?_
              refine zq_zast hx hb hK hP hD hS 5 3 rfl rfl k rfl (by first | omega | decide | assumption) (by decide) rfl dM_receive_134 (fun H locs hP hD hS => ?_)
              have hP : va_P (dC, dI) vcl (zm_W o ad cI cJ cZ 0 loc slw wst pk den rch pol (upd ask k 0) xp str rdl rds nn off del cam ins low high) H := hP
              have hD : va_D A (zm_W o ad cI cJ cZ 0 loc slw wst pk den rch pol (upd ask k 0) xp str rdl rds nn off del cam ins low high) := hD
              refine lv_aload_n hx hb dM_receive_135 rfl (lv_at hl 2 rfl) ?_
              refine zz_getM hx hb hT hown hK hP 0 rfl 4 (by decide) tw_621 rfl dM_receive_136 ?_
              refine lv_iconst (v := 1) hx hb dM_receive_139 (by decide) ?_
              refine zz_iald hx hb hK hP 1 1 rfl rfl 1 rfl (by first | omega | decide | assumption) (by decide) dM_receive_140 ?_
              refine zz_zne (tgt := 150) hx hb dM_receive_141 (by decide) (fun h7 => ?_) (fun h7 => ?_)
              · refine lv_aload_n hx hb dM_receive_150 rfl (lv_at hl 2 rfl) ?_
                refine zz_getM hx hb hT hown hK hP 0 rfl 4 (by decide) tw_621 rfl dM_receive_151 ?_
                refine lv_iconst (v := 0) hx hb dM_receive_154 (by decide) ?_
                refine zz_iald hx hb hK hP 1 1 rfl rfl 0 rfl (by first | omega | decide | assumption) (by decide) dM_receive_155 ?_
                refine lv_bipush (v := 64) hx hb dM_receive_156 (by decide) ?_
                refine lv_idiv hx hb dM_receive_158 (by decide) ?_
                refine lv_iconst (v := 3) hx hb dM_receive_159 (by decide) ?_
                refine zz_ieq (tgt := 174) hx hb dM_receive_160 (by decide) (fun h8 => ?_) (fun h8 => ?_)
                · refine lv_iconst (v := 1) hx hb dM_receive_174 (by decide) ?_
                  exact zq_iret hx hb hr hlocks dM_receive_175 (rfl) hAe hP hD hS
                · refine lv_aload_n hx hb dM_receive_163 rfl (lv_at hl 2 rfl) ?_
                  refine zz_getM hx hb hT hown hK hP 0 rfl 4 (by decide) tw_621 rfl dM_receive_164 ?_
                  refine lv_iconst (v := 1) hx hb dM_receive_167 (by decide) ?_
                  refine zz_iald hx hb hK hP 1 1 rfl rfl 1 rfl (by first | omega | decide | assumption) (by decide) dM_receive_168 ?_
                  refine lv_bipush (v := 15) hx hb dM_receive_169 (by decide) ?_
                  refine zz_ile (tgt := 176) hx hb dM_receive_171 (by decide) (fun h9 => ?_) (fun h9 => ?_)
                  · exact absurd hu (fun q => q.elim h8 h9)
                  · refine lv_iconst (v := 1) hx hb dM_receive_174 (by decide) ?_
                    exact zq_iret hx hb hr hlocks dM_receive_175 (rfl) hAe hP hD hS
              · exact absurd h7 hs0
            · exact absurd hd2 h6
set_option maxHeartbeats 4000000 in
set_option maxRecDepth 100000 in
theorem ct_M_receive_wld (l : Launch) {dC : Nat → ClassId} {dI : Nat → Nat → Nat} {cJ cI cB cZ cS : ClassId} {sz : Nat} {o : Nat} {ad : Nat → Nat} {thr wst : Int32} {loc slw low high : Int64} {pk den rch pol ask str ins : Nat → Int32} {xp rdl rds off del cam : Nat → Int64} {nn : Nat → Nat} {k : Nat} (hk : k < 5) (ha1 : ((pk 0) / 8) - ((pk 0) / 8) / 8 * 8 = 4) (ha2 : (pk 0) - (pk 0) / 8 * 8 = 4) (ha3 : ¬ zm_rd pk 40 8 = 0) (hd0 : den k = 0) (hd1 : ¬ ask k = 0) (hd2 : xp k = zm_rd pk 24 8) (hs0 : ¬ pk 1 = 0) (hu : ¬ ((pk 0) / 64 = 3 ∨ 15 < pk 1)) (hwi : zm_half ((zm_rd pk 32 8) - (xp k)) ((zm_rd pk 40 8) - loc) < -1152921504606846976 ∨ 1152921504606846976 < zm_half ((zm_rd pk 32 8) - (xp k)) ((zm_rd pk 40 8) - loc) ∨ 1152921504606846976 < zm_dly ((loc - (xp k)) - ((zm_rd pk 40 8) - (zm_rd pk 32 8)))) : Met l yM_receive [Cond.code yM_receive cM_receive 16 (some .int)] { frames := 2, cells := 0, slots := 0, locals := 48 } (va_Pc [.ref o, .int (nI k)] (zq_B (dC, dI) vcl (zz_T cJ cI cB cZ cS) (zm_W o ad cI cJ cZ thr loc slw wst pk den rch pol ask xp str rdl rds nn off del cam ins low high) sz)) (zq_Q (dC, dI) vcl (some (.int 3)) (zm_W o ad cI cJ cZ thr loc slw wst pk den rch pol ask xp str rdl rds nn off del cam ins low high) (zm_W o ad cI cJ cZ 0 loc slw wst pk den rch pol (upd ask k 0) xp str rdl rds nn off del cam ins low high) sz) 0 0 (va_A (zm_W o ad cI cJ cZ thr loc slw wst pk den rch pol ask xp str rdl rds nn off del cam ins low high) sz) := by
  refine Met.ofW (cc := cM_receive) (maxL := 16) (ret := (some .int)) (by decide) rfl ?_
  intro p e s m args below meth c s₁ B hml hv
  obtain ⟨rfl, hsz, hT, hP, hK, hD0⟩ := hv
  subst hsz
  have hx := B.exec
  have hb := B.bytes
  have hr := B.returns
  have hlocks := B.notSynchronized
  have hown : s.vm.findClass RM = some m.cls := findClass_of_methodNamed B.named
  have hD := hD0.self (sz := s.heap.size)
  generalize hAe : va_A (zm_W o ad cI cJ cZ thr loc slw wst pk den rch pol ask xp str rdl rds nn off del cam ins low high) s.heap.size = A at hD ⊢
  have hA : ∀ q : Nat, s.heap.size ≤ q → A q := fun q h => by rw [← hAe]; exact Or.inr h
  have hS : va_S A s.heap s.heap [] := va_S.rf
  have hl := lv_entry ([.ref o, .int (nI k)]) (n := 16) (Nat.le_of_ble_eq_true rfl)
  rw [lg_entry_eq]
  generalize (lg_sl ([.ref o, .int (nI k)]) ++ List.replicate (16 - (lg_sl ([.ref o, .int (nI k)])).length) Slot.unset).toArray = ls at hl ⊢
  have hl : lv_has ls 16 [(0, .ref o), (1, .int (nI k))] := hl
  refine lv_aload_n hx hb dM_receive_0 rfl (lv_at hl 0 rfl) ?_
  refine zz_getM hx hb hT hown hK hP 0 rfl 4 (by decide) tw_621 rfl dM_receive_1 ?_
  refine lv_iconst (v := 0) hx hb dM_receive_4 (by decide) ?_
  refine zz_iald hx hb hK hP 1 1 rfl rfl 0 rfl (by first | omega | decide | assumption) (by decide) dM_receive_5 ?_
  refine lv_bipush (v := 8) hx hb dM_receive_6 (by decide) ?_
  refine lv_idiv hx hb dM_receive_8 (by decide) ?_
  refine lv_bipush (v := 8) hx hb dM_receive_9 (by decide) ?_
  refine lv_irem hx hb dM_receive_11 (by decide) ?_
  refine lv_iconst (v := 4) hx hb dM_receive_12 (by decide) ?_
  refine zz_ine (tgt := 46) hx hb dM_receive_13 (by decide) (fun h1 => ?_) (fun h1 => ?_)
  · exact absurd ha1 h1
  · refine lv_aload_n hx hb dM_receive_16 rfl (lv_at hl 0 rfl) ?_
    refine zz_getM hx hb hT hown hK hP 0 rfl 4 (by decide) tw_621 rfl dM_receive_17 ?_
    refine lv_iconst (v := 0) hx hb dM_receive_20 (by decide) ?_
    refine zz_iald hx hb hK hP 1 1 rfl rfl 0 rfl (by first | omega | decide | assumption) (by decide) dM_receive_21 ?_
    refine lv_bipush (v := 8) hx hb dM_receive_22 (by decide) ?_
    refine lv_irem hx hb dM_receive_24 (by decide) ?_
    refine lv_iconst (v := 4) hx hb dM_receive_25 (by decide) ?_
    refine zz_ine (tgt := 46) hx hb dM_receive_26 (by decide) (fun h2 => ?_) (fun h2 => ?_)
    · exact absurd ha2 h2
    · refine lv_aload_n hx hb dM_receive_29 rfl (lv_at hl 0 rfl) ?_
      refine lv_bipush (v := 40) hx hb dM_receive_30 (by decide) ?_
      refine lv_bipush (v := 8) hx hb dM_receive_32 (by decide) ?_
      refine zz_call (va_runV (Ts := []) (As := [.int 40, .int 8]) (own := RM) ⟨hx, hb, hml, hown, fun _ h => nomatch h⟩ (ct_M_read l (u := 40) (n := 8) (by first | decide | omega)) (zt_cv hT tc_M_read tv_M_read tw_722 ⟨Nat.le_of_ble_eq_true rfl, Nat.le_of_ble_eq_true rfl⟩) (zz_preV (q0 := 0) hT hP hK rfl rfl) rfl rfl hl.1 rfl (lv_room (Nat.le_of_ble_eq_true rfl)) dM_receive_34 ⟨Nat.zero_le _, Nat.zero_le _⟩) ?_
      refine lv_lconst (v := 0) hx hb dM_receive_37 (by decide) ?_
      refine zz_leq (tgt := 46) hx hb dM_receive_38 dM_receive_39 (by decide) (fun h3 => ?_) (fun h3 => ?_)
      · exact absurd h3 ha3
      · refine lv_iconst (v := 1) hx hb dM_receive_42 (by decide) ?_
        refine lv_goto (tgt := 47) hx hb dM_receive_43 (by decide) ?_
        refine lv_istore_n (lv' := [(2, .int 1), (0, .ref o), (1, .int (nI k))]) hx hb dM_receive_47 rfl hl (by decide) rfl (fun ls hl => ?_)
        refine lv_aload_n hx hb dM_receive_48 rfl (lv_at hl 1 rfl) ?_
        refine lv_iload_n hx hb dM_receive_49 rfl (lv_at hl 2 rfl) ?_
        refine zz_call (va_runS (Ts := []) (As := [.int (nI k)]) (own := RM) ⟨hx, hb, hml, hown, fun _ h => nomatch h⟩ (ct_M_isServer l) (zt_cs hT tc_M_isServer ts_M_isServer tw_711 ⟨Nat.le_of_ble_eq_true rfl, Nat.le_of_ble_eq_true rfl⟩) (zz_pre0 hT) rfl rfl hl.1 rfl (lv_room (Nat.le_of_ble_eq_true rfl)) dM_receive_50 ⟨Nat.zero_le _, Nat.zero_le _⟩) ?_
        refine zz_ti (y := 1) (zm_isv_k hk) ?_
        refine zz_zne (tgt := 60) hx hb dM_receive_53 (by decide) (fun _ => ?_) (fun h => absurd h (by decide))
        refine lv_iload_n hx hb dM_receive_60 rfl (lv_at hl 0 rfl) ?_
        refine zz_zne (tgt := 68) hx hb dM_receive_61 (by decide) (fun _ => ?_) (fun h => absurd h (by decide))
        refine lv_aload_n hx hb dM_receive_68 rfl (lv_at hl 1 rfl) ?_
        refine zz_getM hx hb hT hown hK hP 0 rfl 5 (by decide) tw_622 rfl dM_receive_69 ?_
        refine lv_iload_n hx hb dM_receive_72 rfl (lv_at hl 2 rfl) ?_
        refine zz_zald hx hb hK hP 2 3 rfl rfl k rfl (by first | omega | decide | assumption) (by decide) dM_receive_73 ?_
        refine zz_zne (tgt := 104) hx hb dM_receive_74 (by decide) (fun h4 => ?_) (fun h4 => ?_)
        · exact absurd hd0 h4
        · refine lv_aload_n hx hb dM_receive_77 rfl (lv_at hl 1 rfl) ?_
          refine zz_getM hx hb hT hown hK hP 0 rfl 8 (by decide) tw_625 rfl dM_receive_78 ?_
          refine lv_iload_n hx hb dM_receive_81 rfl (lv_at hl 2 rfl) ?_
          refine zz_zald hx hb hK hP 5 3 rfl rfl k rfl (by first | omega | decide | assumption) (by decide) dM_receive_82 ?_
          refine zz_zeq (tgt := 104) hx hb dM_receive_83 (by decide) (fun h5 => ?_) (fun h5 => ?_)
          · exact absurd h5 hd1
          · refine lv_aload_n hx hb dM_receive_86 rfl (lv_at hl 1 rfl) ?_
            refine zz_getM hx hb hT hown hK hP 0 rfl 9 (by decide) tw_626 rfl dM_receive_87 ?_
            refine lv_iload_n hx hb dM_receive_90 rfl (lv_at hl 2 rfl) ?_
            refine zz_lald hx hb hK hP 6 0 rfl rfl k rfl (by first | omega | decide | assumption) (by decide) dM_receive_91 ?_
            refine lv_aload_n hx hb dM_receive_92 rfl (lv_at hl 1 rfl) ?_
            refine lv_bipush (v := 24) hx hb dM_receive_93 (by decide) ?_
            refine lv_bipush (v := 8) hx hb dM_receive_95 (by decide) ?_
            refine zz_call (va_runV (Ts := []) (As := [.int 24, .int 8]) (own := RM) ⟨hx, hb, hml, hown, fun _ h => nomatch h⟩ (ct_M_read l (u := 24) (n := 8) (by first | decide | omega)) (zt_cv hT tc_M_read tv_M_read tw_722 ⟨Nat.le_of_ble_eq_true rfl, Nat.le_of_ble_eq_true rfl⟩) (zz_preV (q0 := 0) hT hP hK rfl rfl) rfl rfl hl.1 rfl (lv_room (Nat.le_of_ble_eq_true rfl)) dM_receive_97 ⟨Nat.zero_le _, Nat.zero_le _⟩) ?_
            refine zz_leq (tgt := 108) hx hb dM_receive_100 dM_receive_101 (by decide) (fun h6 => ?_) (fun h6 => ?_)
            · refine lv_iconst (v := 0) hx hb dM_receive_108 (by decide) ?_
              refine zz_putM (ty := .int) hx hb hT hown hK hP hD hS 0 rfl 0 (by decide) tw_617 rfl (by decide +kernel) rfl rfl (Nat.le_of_ble_eq_true rfl) dM_receive_109 (fun H locs hP hD hS => ?_)
              have hP : va_P (dC, dI) vcl (zm_W o ad cI cJ cZ 0 loc slw wst pk den rch pol ask xp str rdl rds nn off del cam ins low high) H := hP
              have hD : va_D A (zm_W o ad cI cJ cZ 0 loc slw wst pk den rch pol ask xp str rdl rds nn off del cam ins low high) := hD
              refine lv_aload_n hx hb dM_receive_112 rfl (lv_at hl 1 rfl) ?_
              refine zz_getM hx hb hT hown hK hP 0 rfl 0 (by decide) tw_617 rfl dM_receive_113 ?_
              refine zz_zle (tgt := 121) hx hb dM_receive_116 (by decide) (fun _ => ?_) (fun h => absurd h (by decide))
              refine lv_aload_n hx hb dM_receive_121 rfl (lv_at hl 1 rfl) ?_
              refine zz_getM hx hb hT hown hK hP 0 rfl 9 (by decide) tw_626 rfl dM_receive_122 ?_
              refine lv_iload_n hx hb dM_receive_125 rfl (lv_at hl 2 rfl) ?_
              refine zz_lald hx hb hK hP 6 0 rfl rfl k rfl (by first | omega | decide | assumption) (by decide) dM_receive_126 ?_
              refine lv_lstore_n (lv' := [(3, .long (xp k)), (2, .int 1), (0, .ref o), (1, .int (nI k))]) hx hb dM_receive_127 rfl hl (by decide) rfl (fun ls hl => ?_)
              refine lv_aload_n hx hb dM_receive_128 rfl (lv_at hl 2 rfl) ?_
              refine zz_getM hx hb hT hown hK hP 0 rfl 8 (by decide) tw_625 rfl dM_receive_129 ?_
              refine lv_iload_n hx hb dM_receive_132 rfl (lv_at hl 3 rfl) ?_
              refine lv_iconst (v := 0) hx hb dM_receive_133 (by decide) ?_
              refine zq_zast hx hb hK hP hD hS 5 3 rfl rfl k rfl (by first | omega | decide | assumption) (by decide) rfl dM_receive_134 (fun H locs hP hD hS => ?_)
              have hP : va_P (dC, dI) vcl (zm_W o ad cI cJ cZ 0 loc slw wst pk den rch pol (upd ask k 0) xp str rdl rds nn off del cam ins low high) H := hP
              have hD : va_D A (zm_W o ad cI cJ cZ 0 loc slw wst pk den rch pol (upd ask k 0) xp str rdl rds nn off del cam ins low high) := hD
              refine lv_aload_n hx hb dM_receive_135 rfl (lv_at hl 2 rfl) ?_
              refine zz_getM hx hb hT hown hK hP 0 rfl 4 (by decide) tw_621 rfl dM_receive_136 ?_
              refine lv_iconst (v := 1) hx hb dM_receive_139 (by decide) ?_
              refine zz_iald hx hb hK hP 1 1 rfl rfl 1 rfl (by first | omega | decide | assumption) (by decide) dM_receive_140 ?_
              refine zz_zne (tgt := 150) hx hb dM_receive_141 (by decide) (fun h7 => ?_) (fun h7 => ?_)
              · refine lv_aload_n hx hb dM_receive_150 rfl (lv_at hl 2 rfl) ?_
                refine zz_getM hx hb hT hown hK hP 0 rfl 4 (by decide) tw_621 rfl dM_receive_151 ?_
                refine lv_iconst (v := 0) hx hb dM_receive_154 (by decide) ?_
                refine zz_iald hx hb hK hP 1 1 rfl rfl 0 rfl (by first | omega | decide | assumption) (by decide) dM_receive_155 ?_
                refine lv_bipush (v := 64) hx hb dM_receive_156 (by decide) ?_
                refine lv_idiv hx hb dM_receive_158 (by decide) ?_
                refine lv_iconst (v := 3) hx hb dM_receive_159 (by decide) ?_
                refine zz_ieq (tgt := 174) hx hb dM_receive_160 (by decide) (fun h8 => ?_) (fun h8 => ?_)
                · exact absurd (Or.inl h8) hu
                · refine lv_aload_n hx hb dM_receive_163 rfl (lv_at hl 2 rfl) ?_
                  refine zz_getM hx hb hT hown hK hP 0 rfl 4 (by decide) tw_621 rfl dM_receive_164 ?_
                  refine lv_iconst (v := 1) hx hb dM_receive_167 (by decide) ?_
                  refine zz_iald hx hb hK hP 1 1 rfl rfl 1 rfl (by first | omega | decide | assumption) (by decide) dM_receive_168 ?_
                  refine lv_bipush (v := 15) hx hb dM_receive_169 (by decide) ?_
                  refine zz_ile (tgt := 176) hx hb dM_receive_171 (by decide) (fun h9 => ?_) (fun h9 => ?_)
                  · refine lv_aload_n hx hb dM_receive_176 rfl (lv_at hl 2 rfl) ?_
                    refine lv_bipush (v := 32) hx hb dM_receive_177 (by decide) ?_
                    refine lv_bipush (v := 8) hx hb dM_receive_179 (by decide) ?_
                    refine zz_call (va_runV (Ts := []) (As := [.int 32, .int 8]) (own := RM) ⟨hx, hb, hml, hown, fun _ h => nomatch h⟩ (ct_M_read l (u := 32) (n := 8) (by first | decide | omega)) (zt_cv hT tc_M_read tv_M_read tw_722 ⟨Nat.le_of_ble_eq_true rfl, Nat.le_of_ble_eq_true rfl⟩) (zz_preV (q0 := 0) hT hP hK rfl rfl) rfl rfl hl.1 rfl (lv_room (Nat.le_of_ble_eq_true rfl)) dM_receive_181 ⟨Nat.zero_le _, Nat.zero_le _⟩) ?_
                    refine lv_lstore (lv' := [(5, .long (zm_rd pk 32 8)), (3, .long (xp k)), (2, .int 1), (0, .ref o), (1, .int (nI k))]) hx hb dM_receive_184 hl (by decide) rfl (fun ls hl => ?_)
                    refine lv_aload_n hx hb dM_receive_186 rfl (lv_at hl 3 rfl) ?_
                    refine lv_bipush (v := 40) hx hb dM_receive_187 (by decide) ?_
                    refine lv_bipush (v := 8) hx hb dM_receive_189 (by decide) ?_
                    refine zz_call (va_runV (Ts := []) (As := [.int 40, .int 8]) (own := RM) ⟨hx, hb, hml, hown, fun _ h => nomatch h⟩ (ct_M_read l (u := 40) (n := 8) (by first | decide | omega)) (zt_cv hT tc_M_read tv_M_read tw_722 ⟨Nat.le_of_ble_eq_true rfl, Nat.le_of_ble_eq_true rfl⟩) (zz_preV (q0 := 0) hT hP hK rfl rfl) rfl rfl hl.1 rfl (lv_room (Nat.le_of_ble_eq_true rfl)) dM_receive_191 ⟨Nat.zero_le _, Nat.zero_le _⟩) ?_
                    refine lv_lstore (lv' := [(7, .long (zm_rd pk 40 8)), (5, .long (zm_rd pk 32 8)), (3, .long (xp k)), (2, .int 1), (0, .ref o), (1, .int (nI k))]) hx hb dM_receive_194 hl (by decide) rfl (fun ls hl => ?_)
                    refine lv_lload hx hb dM_receive_196 (lv_at hl 1 rfl) ?_
                    refine lv_lload_n hx hb dM_receive_198 rfl (lv_at hl 2 rfl) ?_
                    refine lv_lsub hx hb dM_receive_199 ?_
                    refine lv_lload hx hb dM_receive_200 (lv_at hl 0 rfl) ?_
                    refine lv_aload_n hx hb dM_receive_202 rfl (lv_at hl 4 rfl) ?_
                    refine zz_getM hx hb hT hown hK hP 0 rfl 1 (by decide) tw_618 rfl dM_receive_203 ?_
                    refine lv_lsub hx hb dM_receive_206 ?_
                    refine zz_call (va_runS (Ts := []) (As := [.long ((zm_rd pk 32 8) - (xp k)), .long ((zm_rd pk 40 8) - loc)]) (own := RM) ⟨hx, hb, hml, hown, fun _ h => nomatch h⟩ (ct_M_half l) (zt_cs hT tc_M_half ts_M_half tw_733 ⟨Nat.le_of_ble_eq_true rfl, Nat.le_of_ble_eq_true rfl⟩) (zz_pre0 hT) rfl rfl hl.1 rfl (lv_room (Nat.le_of_ble_eq_true rfl)) dM_receive_207 ⟨Nat.zero_le _, Nat.zero_le _⟩) ?_
                    refine lv_lstore (lv' := [(9, .long (zm_half ((zm_rd pk 32 8) - (xp k)) ((zm_rd pk 40 8) - loc))), (7, .long (zm_rd pk 40 8)), (5, .long (zm_rd pk 32 8)), (3, .long (xp k)), (2, .int 1), (0, .ref o), (1, .int (nI k))]) hx hb dM_receive_210 hl (by decide) rfl (fun ls hl => ?_)
                    refine lv_aload_n hx hb dM_receive_212 rfl (lv_at hl 5 rfl) ?_
                    refine zz_getM hx hb hT hown hK hP 0 rfl 1 (by decide) tw_618 rfl dM_receive_213 ?_
                    refine lv_lload_n hx hb dM_receive_216 rfl (lv_at hl 3 rfl) ?_
                    refine lv_lsub hx hb dM_receive_217 ?_
                    refine lv_lload hx hb dM_receive_218 (lv_at hl 1 rfl) ?_
                    refine lv_lload hx hb dM_receive_220 (lv_at hl 2 rfl) ?_
                    refine lv_lsub hx hb dM_receive_222 ?_
                    refine lv_lsub hx hb dM_receive_223 ?_
                    refine lv_lstore (lv' := [(11, .long ((loc - (xp k)) - ((zm_rd pk 40 8) - (zm_rd pk 32 8)))), (9, .long (zm_half ((zm_rd pk 32 8) - (xp k)) ((zm_rd pk 40 8) - loc))), (7, .long (zm_rd pk 40 8)), (5, .long (zm_rd pk 32 8)), (3, .long (xp k)), (2, .int 1), (0, .ref o), (1, .int (nI k))]) hx hb dM_receive_224 hl (by decide) rfl (fun ls hl => ?_)
                    refine lv_lload hx hb dM_receive_226 (lv_at hl 0 rfl) ?_
                    refine lv_ldc2 (own := RM) (v := 4096) hx hb hown (hT.w tw_736) dM_receive_228 ?_
                    refine zz_lge (tgt := 241) hx hb dM_receive_231 dM_receive_232 (by decide) (fun h10 => ?_) (fun h10 => ?_)
                    · refine lv_lload hx hb dM_receive_241 (lv_at hl 0 rfl) ?_
                      refine lv_lstore (lv' := [(11, .long ((loc - (xp k)) - ((zm_rd pk 40 8) - (zm_rd pk 32 8)))), (9, .long (zm_half ((zm_rd pk 32 8) - (xp k)) ((zm_rd pk 40 8) - loc))), (7, .long (zm_rd pk 40 8)), (5, .long (zm_rd pk 32 8)), (3, .long (xp k)), (2, .int 1), (0, .ref o), (1, .int (nI k))]) hx hb dM_receive_243 hl (by decide) rfl (fun ls hl => ?_)
                      rw [show zm_dly ((loc - (xp k)) - ((zm_rd pk 40 8) - (zm_rd pk 32 8))) = (loc - (xp k)) - ((zm_rd pk 40 8) - (zm_rd pk 32 8)) from if_neg h10] at hwi
                      refine lv_ldc2 (own := RM) (v := 1152921504606846976) hx hb hown (hT.w tw_737) dM_receive_245 ?_
                      refine lv_lstore (lv' := [(13, .long 1152921504606846976), (11, .long ((loc - (xp k)) - ((zm_rd pk 40 8) - (zm_rd pk 32 8)))), (9, .long (zm_half ((zm_rd pk 32 8) - (xp k)) ((zm_rd pk 40 8) - loc))), (7, .long (zm_rd pk 40 8)), (5, .long (zm_rd pk 32 8)), (3, .long (xp k)), (2, .int 1), (0, .ref o), (1, .int (nI k))]) hx hb dM_receive_248 hl (by decide) rfl (fun ls hl => ?_)
                      refine lv_lload hx hb dM_receive_250 (lv_at hl 2 rfl) ?_
                      refine lv_lload hx hb dM_receive_252 (lv_at hl 0 rfl) ?_
                      refine lv_lneg hx hb dM_receive_254 ?_
                      refine zz_llt (tgt := 275) hx hb dM_receive_255 dM_receive_256 (by decide) (fun h11 => ?_) (fun h11 => ?_)
                      · refine lv_iconst (v := 3) hx hb dM_receive_275 (by decide) ?_
                        exact zq_iret hx hb hr hlocks dM_receive_276 (rfl) hAe hP hD hS
                      · refine lv_lload hx hb dM_receive_259 (lv_at hl 2 rfl) ?_
                        refine lv_lload hx hb dM_receive_261 (lv_at hl 0 rfl) ?_
                        refine zz_lgt (tgt := 275) hx hb dM_receive_263 dM_receive_264 (by decide) (fun h12 => ?_) (fun h12 => ?_)
                        · refine lv_iconst (v := 3) hx hb dM_receive_275 (by decide) ?_
                          exact zq_iret hx hb hr hlocks dM_receive_276 (rfl) hAe hP hD hS
                        · refine lv_lload hx hb dM_receive_267 (lv_at hl 1 rfl) ?_
                          refine lv_lload hx hb dM_receive_269 (lv_at hl 0 rfl) ?_
                          refine zz_lle (tgt := 277) hx hb dM_receive_271 dM_receive_272 (by decide) (fun h13 => ?_) (fun h13 => ?_)
                          · exact absurd hwi (fun q => q.elim h11 (fun q => q.elim h12 h13))
                          · refine lv_iconst (v := 3) hx hb dM_receive_275 (by decide) ?_
                            exact zq_iret hx hb hr hlocks dM_receive_276 (rfl) hAe hP hD hS
                    · refine lv_ldc2 (own := RM) (v := 4096) hx hb hown (hT.w tw_736) dM_receive_235 ?_
                      refine lv_goto (tgt := 243) hx hb dM_receive_238 (by decide) ?_
                      refine lv_lstore (lv' := [(11, .long 4096), (9, .long (zm_half ((zm_rd pk 32 8) - (xp k)) ((zm_rd pk 40 8) - loc))), (7, .long (zm_rd pk 40 8)), (5, .long (zm_rd pk 32 8)), (3, .long (xp k)), (2, .int 1), (0, .ref o), (1, .int (nI k))]) hx hb dM_receive_243 hl (by decide) rfl (fun ls hl => ?_)
                      rw [show zm_dly ((loc - (xp k)) - ((zm_rd pk 40 8) - (zm_rd pk 32 8))) = 4096 from if_pos h10] at hwi
                      refine lv_ldc2 (own := RM) (v := 1152921504606846976) hx hb hown (hT.w tw_737) dM_receive_245 ?_
                      refine lv_lstore (lv' := [(13, .long 1152921504606846976), (11, .long 4096), (9, .long (zm_half ((zm_rd pk 32 8) - (xp k)) ((zm_rd pk 40 8) - loc))), (7, .long (zm_rd pk 40 8)), (5, .long (zm_rd pk 32 8)), (3, .long (xp k)), (2, .int 1), (0, .ref o), (1, .int (nI k))]) hx hb dM_receive_248 hl (by decide) rfl (fun ls hl => ?_)
                      refine lv_lload hx hb dM_receive_250 (lv_at hl 2 rfl) ?_
                      refine lv_lload hx hb dM_receive_252 (lv_at hl 0 rfl) ?_
                      refine lv_lneg hx hb dM_receive_254 ?_
                      refine zz_llt (tgt := 275) hx hb dM_receive_255 dM_receive_256 (by decide) (fun h14 => ?_) (fun h14 => ?_)
                      · refine lv_iconst (v := 3) hx hb dM_receive_275 (by decide) ?_
                        exact zq_iret hx hb hr hlocks dM_receive_276 (rfl) hAe hP hD hS
                      · refine lv_lload hx hb dM_receive_259 (lv_at hl 2 rfl) ?_
                        refine lv_lload hx hb dM_receive_261 (lv_at hl 0 rfl) ?_
                        refine zz_lgt (tgt := 275) hx hb dM_receive_263 dM_receive_264 (by decide) (fun h15 => ?_) (fun h15 => ?_)
                        · refine lv_iconst (v := 3) hx hb dM_receive_275 (by decide) ?_
                          exact zq_iret hx hb hr hlocks dM_receive_276 (rfl) hAe hP hD hS
                        · refine lv_lload hx hb dM_receive_267 (lv_at hl 1 rfl) ?_
                          refine lv_lload hx hb dM_receive_269 (lv_at hl 0 rfl) ?_
                          refine zz_lle (tgt := 277) hx hb dM_receive_271 dM_receive_272 (by decide) (fun h16 => ?_) (fun h16 => ?_)
                          · exact absurd hwi (fun q => q.elim h14 (fun q => q.elim h15 h16))
                          · refine lv_iconst (v := 3) hx hb dM_receive_275 (by decide) ?_
                            exact zq_iret hx hb hr hlocks dM_receive_276 (rfl) hAe hP hD hS
                  · exact absurd (Or.inr h9) hu
              · exact absurd h7 hs0
            · exact absurd hd2 h6
set_option maxHeartbeats 4000000 in
set_option maxRecDepth 100000 in
theorem ct_M_receive (l : Launch) {dC : Nat → ClassId} {dI : Nat → Nat → Nat} {cJ cI cB cZ cS : ClassId} {sz : Nat} {o : Nat} {ad : Nat → Nat} {thr wst : Int32} {loc slw low high : Int64} {pk den rch pol ask str ins : Nat → Int32} {xp rdl rds off del cam : Nat → Int64} {nn : Nat → Nat} {k : Nat} (hk : k < 5) (hn8 : nn k ≤ 8) (ha1 : ((pk 0) / 8) - ((pk 0) / 8) / 8 * 8 = 4) (ha2 : (pk 0) - (pk 0) / 8 * 8 = 4) (ha3 : ¬ zm_rd pk 40 8 = 0) (hd0 : den k = 0) (hd1 : ¬ ask k = 0) (hd2 : xp k = zm_rd pk 24 8) (hs0 : ¬ pk 1 = 0) (hu : ¬ ((pk 0) / 64 = 3 ∨ 15 < pk 1)) (hwi : ¬ (zm_half ((zm_rd pk 32 8) - (xp k)) ((zm_rd pk 40 8) - loc) < -1152921504606846976 ∨ 1152921504606846976 < zm_half ((zm_rd pk 32 8) - (xp k)) ((zm_rd pk 40 8) - loc) ∨ 1152921504606846976 < zm_dly ((loc - (xp k)) - ((zm_rd pk 40 8) - (zm_rd pk 32 8))))) : Met l yM_receive [Cond.code yM_receive cM_receive 16 (some .int)] { frames := 2, cells := 0, slots := 0, locals := 48 } (va_Pc [.ref o, .int (nI k)] (zq_B (dC, dI) vcl (zz_T cJ cI cB cZ cS) (zm_W o ad cI cJ cZ thr loc slw wst pk den rch pol ask xp str rdl rds nn off del cam ins low high) sz)) (zq_Q (dC, dI) vcl (some (.int 0)) (zm_W o ad cI cJ cZ thr loc slw wst pk den rch pol ask xp str rdl rds nn off del cam ins low high) (zm_W o ad cI cJ cZ 0 loc slw wst pk den (upd rch k (zm_odd (rch k))) pol (upd ask k 0) xp (upd str k (pk 1)) (vp_updL rdl k ((zm_rd pk 4 4) * 65536)) (vp_updL rds k ((zm_rd pk 8 4) * 65536)) (va_up nn k (zs_c8 (nn k))) (zm_push off k (zm_half ((zm_rd pk 32 8) - (xp k)) ((zm_rd pk 40 8) - loc))) (zm_push del k (zm_dly ((loc - (xp k)) - ((zm_rd pk 40 8) - (zm_rd pk 32 8))))) (zm_push cam k loc) ins low high) sz) 0 0 (va_A (zm_W o ad cI cJ cZ thr loc slw wst pk den rch pol ask xp str rdl rds nn off del cam ins low high) sz) := by
  refine Met.ofW (cc := cM_receive) (maxL := 16) (ret := (some .int)) (by decide) rfl ?_
  intro p e s m args below meth c s₁ B hml hv
  obtain ⟨rfl, hsz, hT, hP, hK, hD0⟩ := hv
  subst hsz
  have hx := B.exec
  have hb := B.bytes
  have hr := B.returns
  have hlocks := B.notSynchronized
  have hown : s.vm.findClass RM = some m.cls := findClass_of_methodNamed B.named
  have hD := hD0.self (sz := s.heap.size)
  generalize hAe : va_A (zm_W o ad cI cJ cZ thr loc slw wst pk den rch pol ask xp str rdl rds nn off del cam ins low high) s.heap.size = A at hD ⊢
  have hA : ∀ q : Nat, s.heap.size ≤ q → A q := fun q h => by rw [← hAe]; exact Or.inr h
  have hS : va_S A s.heap s.heap [] := va_S.rf
  have hl := lv_entry ([.ref o, .int (nI k)]) (n := 16) (Nat.le_of_ble_eq_true rfl)
  rw [lg_entry_eq]
  generalize (lg_sl ([.ref o, .int (nI k)]) ++ List.replicate (16 - (lg_sl ([.ref o, .int (nI k)])).length) Slot.unset).toArray = ls at hl ⊢
  have hl : lv_has ls 16 [(0, .ref o), (1, .int (nI k))] := hl
  refine lv_aload_n hx hb dM_receive_0 rfl (lv_at hl 0 rfl) ?_
  refine zz_getM hx hb hT hown hK hP 0 rfl 4 (by decide) tw_621 rfl dM_receive_1 ?_
  refine lv_iconst (v := 0) hx hb dM_receive_4 (by decide) ?_
  refine zz_iald hx hb hK hP 1 1 rfl rfl 0 rfl (by first | omega | decide | assumption) (by decide) dM_receive_5 ?_
  refine lv_bipush (v := 8) hx hb dM_receive_6 (by decide) ?_
  refine lv_idiv hx hb dM_receive_8 (by decide) ?_
  refine lv_bipush (v := 8) hx hb dM_receive_9 (by decide) ?_
  refine lv_irem hx hb dM_receive_11 (by decide) ?_
  refine lv_iconst (v := 4) hx hb dM_receive_12 (by decide) ?_
  refine zz_ine (tgt := 46) hx hb dM_receive_13 (by decide) (fun h1 => ?_) (fun h1 => ?_)
  · exact absurd ha1 h1
  · refine lv_aload_n hx hb dM_receive_16 rfl (lv_at hl 0 rfl) ?_
    refine zz_getM hx hb hT hown hK hP 0 rfl 4 (by decide) tw_621 rfl dM_receive_17 ?_
    refine lv_iconst (v := 0) hx hb dM_receive_20 (by decide) ?_
    refine zz_iald hx hb hK hP 1 1 rfl rfl 0 rfl (by first | omega | decide | assumption) (by decide) dM_receive_21 ?_
    refine lv_bipush (v := 8) hx hb dM_receive_22 (by decide) ?_
    refine lv_irem hx hb dM_receive_24 (by decide) ?_
    refine lv_iconst (v := 4) hx hb dM_receive_25 (by decide) ?_
    refine zz_ine (tgt := 46) hx hb dM_receive_26 (by decide) (fun h2 => ?_) (fun h2 => ?_)
    · exact absurd ha2 h2
    · refine lv_aload_n hx hb dM_receive_29 rfl (lv_at hl 0 rfl) ?_
      refine lv_bipush (v := 40) hx hb dM_receive_30 (by decide) ?_
      refine lv_bipush (v := 8) hx hb dM_receive_32 (by decide) ?_
      refine zz_call (va_runV (Ts := []) (As := [.int 40, .int 8]) (own := RM) ⟨hx, hb, hml, hown, fun _ h => nomatch h⟩ (ct_M_read l (u := 40) (n := 8) (by first | decide | omega)) (zt_cv hT tc_M_read tv_M_read tw_722 ⟨Nat.le_of_ble_eq_true rfl, Nat.le_of_ble_eq_true rfl⟩) (zz_preV (q0 := 0) hT hP hK rfl rfl) rfl rfl hl.1 rfl (lv_room (Nat.le_of_ble_eq_true rfl)) dM_receive_34 ⟨Nat.zero_le _, Nat.zero_le _⟩) ?_
      refine lv_lconst (v := 0) hx hb dM_receive_37 (by decide) ?_
      refine zz_leq (tgt := 46) hx hb dM_receive_38 dM_receive_39 (by decide) (fun h3 => ?_) (fun h3 => ?_)
      · exact absurd h3 ha3
      · refine lv_iconst (v := 1) hx hb dM_receive_42 (by decide) ?_
        refine lv_goto (tgt := 47) hx hb dM_receive_43 (by decide) ?_
        refine lv_istore_n (lv' := [(2, .int 1), (0, .ref o), (1, .int (nI k))]) hx hb dM_receive_47 rfl hl (by decide) rfl (fun ls hl => ?_)
        refine lv_aload_n hx hb dM_receive_48 rfl (lv_at hl 1 rfl) ?_
        refine lv_iload_n hx hb dM_receive_49 rfl (lv_at hl 2 rfl) ?_
        refine zz_call (va_runS (Ts := []) (As := [.int (nI k)]) (own := RM) ⟨hx, hb, hml, hown, fun _ h => nomatch h⟩ (ct_M_isServer l) (zt_cs hT tc_M_isServer ts_M_isServer tw_711 ⟨Nat.le_of_ble_eq_true rfl, Nat.le_of_ble_eq_true rfl⟩) (zz_pre0 hT) rfl rfl hl.1 rfl (lv_room (Nat.le_of_ble_eq_true rfl)) dM_receive_50 ⟨Nat.zero_le _, Nat.zero_le _⟩) ?_
        refine zz_ti (y := 1) (zm_isv_k hk) ?_
        refine zz_zne (tgt := 60) hx hb dM_receive_53 (by decide) (fun _ => ?_) (fun h => absurd h (by decide))
        refine lv_iload_n hx hb dM_receive_60 rfl (lv_at hl 0 rfl) ?_
        refine zz_zne (tgt := 68) hx hb dM_receive_61 (by decide) (fun _ => ?_) (fun h => absurd h (by decide))
        refine lv_aload_n hx hb dM_receive_68 rfl (lv_at hl 1 rfl) ?_
        refine zz_getM hx hb hT hown hK hP 0 rfl 5 (by decide) tw_622 rfl dM_receive_69 ?_
        refine lv_iload_n hx hb dM_receive_72 rfl (lv_at hl 2 rfl) ?_
        refine zz_zald hx hb hK hP 2 3 rfl rfl k rfl (by first | omega | decide | assumption) (by decide) dM_receive_73 ?_
        refine zz_zne (tgt := 104) hx hb dM_receive_74 (by decide) (fun h4 => ?_) (fun h4 => ?_)
        · exact absurd hd0 h4
        · refine lv_aload_n hx hb dM_receive_77 rfl (lv_at hl 1 rfl) ?_
          refine zz_getM hx hb hT hown hK hP 0 rfl 8 (by decide) tw_625 rfl dM_receive_78 ?_
          refine lv_iload_n hx hb dM_receive_81 rfl (lv_at hl 2 rfl) ?_
          refine zz_zald hx hb hK hP 5 3 rfl rfl k rfl (by first | omega | decide | assumption) (by decide) dM_receive_82 ?_
          refine zz_zeq (tgt := 104) hx hb dM_receive_83 (by decide) (fun h5 => ?_) (fun h5 => ?_)
          · exact absurd h5 hd1
          · refine lv_aload_n hx hb dM_receive_86 rfl (lv_at hl 1 rfl) ?_
            refine zz_getM hx hb hT hown hK hP 0 rfl 9 (by decide) tw_626 rfl dM_receive_87 ?_
            refine lv_iload_n hx hb dM_receive_90 rfl (lv_at hl 2 rfl) ?_
            refine zz_lald hx hb hK hP 6 0 rfl rfl k rfl (by first | omega | decide | assumption) (by decide) dM_receive_91 ?_
            refine lv_aload_n hx hb dM_receive_92 rfl (lv_at hl 1 rfl) ?_
            refine lv_bipush (v := 24) hx hb dM_receive_93 (by decide) ?_
            refine lv_bipush (v := 8) hx hb dM_receive_95 (by decide) ?_
            refine zz_call (va_runV (Ts := []) (As := [.int 24, .int 8]) (own := RM) ⟨hx, hb, hml, hown, fun _ h => nomatch h⟩ (ct_M_read l (u := 24) (n := 8) (by first | decide | omega)) (zt_cv hT tc_M_read tv_M_read tw_722 ⟨Nat.le_of_ble_eq_true rfl, Nat.le_of_ble_eq_true rfl⟩) (zz_preV (q0 := 0) hT hP hK rfl rfl) rfl rfl hl.1 rfl (lv_room (Nat.le_of_ble_eq_true rfl)) dM_receive_97 ⟨Nat.zero_le _, Nat.zero_le _⟩) ?_
            refine zz_leq (tgt := 108) hx hb dM_receive_100 dM_receive_101 (by decide) (fun h6 => ?_) (fun h6 => ?_)
            · refine lv_iconst (v := 0) hx hb dM_receive_108 (by decide) ?_
              refine zz_putM (ty := .int) hx hb hT hown hK hP hD hS 0 rfl 0 (by decide) tw_617 rfl (by decide +kernel) rfl rfl (Nat.le_of_ble_eq_true rfl) dM_receive_109 (fun H locs hP hD hS => ?_)
              have hP : va_P (dC, dI) vcl (zm_W o ad cI cJ cZ 0 loc slw wst pk den rch pol ask xp str rdl rds nn off del cam ins low high) H := hP
              have hD : va_D A (zm_W o ad cI cJ cZ 0 loc slw wst pk den rch pol ask xp str rdl rds nn off del cam ins low high) := hD
              refine lv_aload_n hx hb dM_receive_112 rfl (lv_at hl 1 rfl) ?_
              refine zz_getM hx hb hT hown hK hP 0 rfl 0 (by decide) tw_617 rfl dM_receive_113 ?_
              refine zz_zle (tgt := 121) hx hb dM_receive_116 (by decide) (fun _ => ?_) (fun h => absurd h (by decide))
              refine lv_aload_n hx hb dM_receive_121 rfl (lv_at hl 1 rfl) ?_
              refine zz_getM hx hb hT hown hK hP 0 rfl 9 (by decide) tw_626 rfl dM_receive_122 ?_
              refine lv_iload_n hx hb dM_receive_125 rfl (lv_at hl 2 rfl) ?_
              refine zz_lald hx hb hK hP 6 0 rfl rfl k rfl (by first | omega | decide | assumption) (by decide) dM_receive_126 ?_
              refine lv_lstore_n (lv' := [(3, .long (xp k)), (2, .int 1), (0, .ref o), (1, .int (nI k))]) hx hb dM_receive_127 rfl hl (by decide) rfl (fun ls hl => ?_)
              refine lv_aload_n hx hb dM_receive_128 rfl (lv_at hl 2 rfl) ?_
              refine zz_getM hx hb hT hown hK hP 0 rfl 8 (by decide) tw_625 rfl dM_receive_129 ?_
              refine lv_iload_n hx hb dM_receive_132 rfl (lv_at hl 3 rfl) ?_
              refine lv_iconst (v := 0) hx hb dM_receive_133 (by decide) ?_
              refine zq_zast hx hb hK hP hD hS 5 3 rfl rfl k rfl (by first | omega | decide | assumption) (by decide) rfl dM_receive_134 (fun H locs hP hD hS => ?_)
              have hP : va_P (dC, dI) vcl (zm_W o ad cI cJ cZ 0 loc slw wst pk den rch pol (upd ask k 0) xp str rdl rds nn off del cam ins low high) H := hP
              have hD : va_D A (zm_W o ad cI cJ cZ 0 loc slw wst pk den rch pol (upd ask k 0) xp str rdl rds nn off del cam ins low high) := hD
              refine lv_aload_n hx hb dM_receive_135 rfl (lv_at hl 2 rfl) ?_
              refine zz_getM hx hb hT hown hK hP 0 rfl 4 (by decide) tw_621 rfl dM_receive_136 ?_
              refine lv_iconst (v := 1) hx hb dM_receive_139 (by decide) ?_
              refine zz_iald hx hb hK hP 1 1 rfl rfl 1 rfl (by first | omega | decide | assumption) (by decide) dM_receive_140 ?_
              refine zz_zne (tgt := 150) hx hb dM_receive_141 (by decide) (fun h7 => ?_) (fun h7 => ?_)
              · refine lv_aload_n hx hb dM_receive_150 rfl (lv_at hl 2 rfl) ?_
                refine zz_getM hx hb hT hown hK hP 0 rfl 4 (by decide) tw_621 rfl dM_receive_151 ?_
                refine lv_iconst (v := 0) hx hb dM_receive_154 (by decide) ?_
                refine zz_iald hx hb hK hP 1 1 rfl rfl 0 rfl (by first | omega | decide | assumption) (by decide) dM_receive_155 ?_
                refine lv_bipush (v := 64) hx hb dM_receive_156 (by decide) ?_
                refine lv_idiv hx hb dM_receive_158 (by decide) ?_
                refine lv_iconst (v := 3) hx hb dM_receive_159 (by decide) ?_
                refine zz_ieq (tgt := 174) hx hb dM_receive_160 (by decide) (fun h8 => ?_) (fun h8 => ?_)
                · exact absurd (Or.inl h8) hu
                · refine lv_aload_n hx hb dM_receive_163 rfl (lv_at hl 2 rfl) ?_
                  refine zz_getM hx hb hT hown hK hP 0 rfl 4 (by decide) tw_621 rfl dM_receive_164 ?_
                  refine lv_iconst (v := 1) hx hb dM_receive_167 (by decide) ?_
                  refine zz_iald hx hb hK hP 1 1 rfl rfl 1 rfl (by first | omega | decide | assumption) (by decide) dM_receive_168 ?_
                  refine lv_bipush (v := 15) hx hb dM_receive_169 (by decide) ?_
                  refine zz_ile (tgt := 176) hx hb dM_receive_171 (by decide) (fun h9 => ?_) (fun h9 => ?_)
                  · refine lv_aload_n hx hb dM_receive_176 rfl (lv_at hl 2 rfl) ?_
                    refine lv_bipush (v := 32) hx hb dM_receive_177 (by decide) ?_
                    refine lv_bipush (v := 8) hx hb dM_receive_179 (by decide) ?_
                    refine zz_call (va_runV (Ts := []) (As := [.int 32, .int 8]) (own := RM) ⟨hx, hb, hml, hown, fun _ h => nomatch h⟩ (ct_M_read l (u := 32) (n := 8) (by first | decide | omega)) (zt_cv hT tc_M_read tv_M_read tw_722 ⟨Nat.le_of_ble_eq_true rfl, Nat.le_of_ble_eq_true rfl⟩) (zz_preV (q0 := 0) hT hP hK rfl rfl) rfl rfl hl.1 rfl (lv_room (Nat.le_of_ble_eq_true rfl)) dM_receive_181 ⟨Nat.zero_le _, Nat.zero_le _⟩) ?_
                    refine lv_lstore (lv' := [(5, .long (zm_rd pk 32 8)), (3, .long (xp k)), (2, .int 1), (0, .ref o), (1, .int (nI k))]) hx hb dM_receive_184 hl (by decide) rfl (fun ls hl => ?_)
                    refine lv_aload_n hx hb dM_receive_186 rfl (lv_at hl 3 rfl) ?_
                    refine lv_bipush (v := 40) hx hb dM_receive_187 (by decide) ?_
                    refine lv_bipush (v := 8) hx hb dM_receive_189 (by decide) ?_
                    refine zz_call (va_runV (Ts := []) (As := [.int 40, .int 8]) (own := RM) ⟨hx, hb, hml, hown, fun _ h => nomatch h⟩ (ct_M_read l (u := 40) (n := 8) (by first | decide | omega)) (zt_cv hT tc_M_read tv_M_read tw_722 ⟨Nat.le_of_ble_eq_true rfl, Nat.le_of_ble_eq_true rfl⟩) (zz_preV (q0 := 0) hT hP hK rfl rfl) rfl rfl hl.1 rfl (lv_room (Nat.le_of_ble_eq_true rfl)) dM_receive_191 ⟨Nat.zero_le _, Nat.zero_le _⟩) ?_
                    refine lv_lstore (lv' := [(7, .long (zm_rd pk 40 8)), (5, .long (zm_rd pk 32 8)), (3, .long (xp k)), (2, .int 1), (0, .ref o), (1, .int (nI k))]) hx hb dM_receive_194 hl (by decide) rfl (fun ls hl => ?_)
                    refine lv_lload hx hb dM_receive_196 (lv_at hl 1 rfl) ?_
                    refine lv_lload_n hx hb dM_receive_198 rfl (lv_at hl 2 rfl) ?_
                    refine lv_lsub hx hb dM_receive_199 ?_
                    refine lv_lload hx hb dM_receive_200 (lv_at hl 0 rfl) ?_
                    refine lv_aload_n hx hb dM_receive_202 rfl (lv_at hl 4 rfl) ?_
                    refine zz_getM hx hb hT hown hK hP 0 rfl 1 (by decide) tw_618 rfl dM_receive_203 ?_
                    refine lv_lsub hx hb dM_receive_206 ?_
                    refine zz_call (va_runS (Ts := []) (As := [.long ((zm_rd pk 32 8) - (xp k)), .long ((zm_rd pk 40 8) - loc)]) (own := RM) ⟨hx, hb, hml, hown, fun _ h => nomatch h⟩ (ct_M_half l) (zt_cs hT tc_M_half ts_M_half tw_733 ⟨Nat.le_of_ble_eq_true rfl, Nat.le_of_ble_eq_true rfl⟩) (zz_pre0 hT) rfl rfl hl.1 rfl (lv_room (Nat.le_of_ble_eq_true rfl)) dM_receive_207 ⟨Nat.zero_le _, Nat.zero_le _⟩) ?_
                    refine lv_lstore (lv' := [(9, .long (zm_half ((zm_rd pk 32 8) - (xp k)) ((zm_rd pk 40 8) - loc))), (7, .long (zm_rd pk 40 8)), (5, .long (zm_rd pk 32 8)), (3, .long (xp k)), (2, .int 1), (0, .ref o), (1, .int (nI k))]) hx hb dM_receive_210 hl (by decide) rfl (fun ls hl => ?_)
                    refine lv_aload_n hx hb dM_receive_212 rfl (lv_at hl 5 rfl) ?_
                    refine zz_getM hx hb hT hown hK hP 0 rfl 1 (by decide) tw_618 rfl dM_receive_213 ?_
                    refine lv_lload_n hx hb dM_receive_216 rfl (lv_at hl 3 rfl) ?_
                    refine lv_lsub hx hb dM_receive_217 ?_
                    refine lv_lload hx hb dM_receive_218 (lv_at hl 1 rfl) ?_
                    refine lv_lload hx hb dM_receive_220 (lv_at hl 2 rfl) ?_
                    refine lv_lsub hx hb dM_receive_222 ?_
                    refine lv_lsub hx hb dM_receive_223 ?_
                    refine lv_lstore (lv' := [(11, .long ((loc - (xp k)) - ((zm_rd pk 40 8) - (zm_rd pk 32 8)))), (9, .long (zm_half ((zm_rd pk 32 8) - (xp k)) ((zm_rd pk 40 8) - loc))), (7, .long (zm_rd pk 40 8)), (5, .long (zm_rd pk 32 8)), (3, .long (xp k)), (2, .int 1), (0, .ref o), (1, .int (nI k))]) hx hb dM_receive_224 hl (by decide) rfl (fun ls hl => ?_)
                    refine lv_lload hx hb dM_receive_226 (lv_at hl 0 rfl) ?_
                    refine lv_ldc2 (own := RM) (v := 4096) hx hb hown (hT.w tw_736) dM_receive_228 ?_
                    refine zz_lge (tgt := 241) hx hb dM_receive_231 dM_receive_232 (by decide) (fun h10 => ?_) (fun h10 => ?_)
                    · refine lv_lload hx hb dM_receive_241 (lv_at hl 0 rfl) ?_
                      refine lv_lstore (lv' := [(11, .long ((loc - (xp k)) - ((zm_rd pk 40 8) - (zm_rd pk 32 8)))), (9, .long (zm_half ((zm_rd pk 32 8) - (xp k)) ((zm_rd pk 40 8) - loc))), (7, .long (zm_rd pk 40 8)), (5, .long (zm_rd pk 32 8)), (3, .long (xp k)), (2, .int 1), (0, .ref o), (1, .int (nI k))]) hx hb dM_receive_243 hl (by decide) rfl (fun ls hl => ?_)
                      rw [show zm_dly ((loc - (xp k)) - ((zm_rd pk 40 8) - (zm_rd pk 32 8))) = (loc - (xp k)) - ((zm_rd pk 40 8) - (zm_rd pk 32 8)) from if_neg h10] at hwi
                      obtain ⟨dly9, hdly⟩ : ∃ z : Int64, z = (loc - (xp k)) - ((zm_rd pk 40 8) - (zm_rd pk 32 8)) := ⟨_, rfl⟩
                      rw [← hdly] at hwi
                      have hl : lv_has ls 16 [(11, .long dly9), (9, .long (zm_half ((zm_rd pk 32 8) - (xp k)) ((zm_rd pk 40 8) - loc))), (7, .long (zm_rd pk 40 8)), (5, .long (zm_rd pk 32 8)), (3, .long (xp k)), (2, .int 1), (0, .ref o), (1, .int (nI k))] := by rw [hdly]; exact hl
                      refine lv_ldc2 (own := RM) (v := 1152921504606846976) hx hb hown (hT.w tw_737) dM_receive_245 ?_
                      refine lv_lstore (lv' := [(13, .long 1152921504606846976), (11, .long dly9), (9, .long (zm_half ((zm_rd pk 32 8) - (xp k)) ((zm_rd pk 40 8) - loc))), (7, .long (zm_rd pk 40 8)), (5, .long (zm_rd pk 32 8)), (3, .long (xp k)), (2, .int 1), (0, .ref o), (1, .int (nI k))]) hx hb dM_receive_248 hl (by decide) rfl (fun ls hl => ?_)
                      refine lv_lload hx hb dM_receive_250 (lv_at hl 2 rfl) ?_
                      refine lv_lload hx hb dM_receive_252 (lv_at hl 0 rfl) ?_
                      refine lv_lneg hx hb dM_receive_254 ?_
                      refine zz_llt (tgt := 275) hx hb dM_receive_255 dM_receive_256 (by decide) (fun h11 => ?_) (fun h11 => ?_)
                      · exact absurd (Or.inl h11) hwi
                      · refine lv_lload hx hb dM_receive_259 (lv_at hl 2 rfl) ?_
                        refine lv_lload hx hb dM_receive_261 (lv_at hl 0 rfl) ?_
                        refine zz_lgt (tgt := 275) hx hb dM_receive_263 dM_receive_264 (by decide) (fun h12 => ?_) (fun h12 => ?_)
                        · exact absurd (Or.inr (Or.inl h12)) hwi
                        · refine lv_lload hx hb dM_receive_267 (lv_at hl 1 rfl) ?_
                          refine lv_lload hx hb dM_receive_269 (lv_at hl 0 rfl) ?_
                          refine zz_lle (tgt := 277) hx hb dM_receive_271 dM_receive_272 (by decide) (fun h13 => ?_) (fun h13 => ?_)
                          · refine lv_aload_n hx hb dM_receive_277 rfl (lv_at hl 7 rfl) ?_
                            refine zz_getM hx hb hT hown hK hP 0 rfl 10 (by decide) tw_627 rfl dM_receive_278 ?_
                            refine lv_iload_n hx hb dM_receive_281 rfl (lv_at hl 8 rfl) ?_
                            refine lv_aload_n hx hb dM_receive_282 rfl (lv_at hl 7 rfl) ?_
                            refine zz_getM hx hb hT hown hK hP 0 rfl 4 (by decide) tw_621 rfl dM_receive_283 ?_
                            refine lv_iconst (v := 1) hx hb dM_receive_286 (by decide) ?_
                            refine zz_iald hx hb hK hP 1 1 rfl rfl 1 rfl (by first | omega | decide | assumption) (by decide) dM_receive_287 ?_
                            refine zq_iast hx hb hK hP hD hS 7 1 rfl rfl k rfl (by first | omega | decide | assumption) (by decide) dM_receive_288 (fun H locs hP hD hS => ?_)
                            have hP : va_P (dC, dI) vcl (zm_W o ad cI cJ cZ 0 loc slw wst pk den rch pol (upd ask k 0) xp (upd str k (pk 1)) rdl rds nn off del cam ins low high) H := hP
                            have hD : va_D A (zm_W o ad cI cJ cZ 0 loc slw wst pk den rch pol (upd ask k 0) xp (upd str k (pk 1)) rdl rds nn off del cam ins low high) := hD
                            refine lv_aload_n hx hb dM_receive_289 rfl (lv_at hl 7 rfl) ?_
                            refine zz_getM hx hb hT hown hK hP 0 rfl 11 (by decide) tw_628 rfl dM_receive_290 ?_
                            refine lv_iload_n hx hb dM_receive_293 rfl (lv_at hl 8 rfl) ?_
                            refine lv_aload_n hx hb dM_receive_294 rfl (lv_at hl 7 rfl) ?_
                            refine lv_iconst (v := 4) hx hb dM_receive_295 (by decide) ?_
                            refine lv_iconst (v := 4) hx hb dM_receive_296 (by decide) ?_
                            refine zz_call (va_runV (Ts := []) (As := [.int 4, .int 4]) (own := RM) ⟨hx, hb, hml, hown, fun _ h => nomatch h⟩ (ct_M_read l (u := 4) (n := 4) (by first | decide | omega)) (zt_cv hT tc_M_read tv_M_read tw_722 ⟨Nat.le_of_ble_eq_true rfl, Nat.le_of_ble_eq_true rfl⟩) (zz_preV (q0 := 0) hT hP hK rfl rfl) rfl rfl hl.1 rfl (lv_room (Nat.le_of_ble_eq_true rfl)) dM_receive_297 ⟨Nat.zero_le _, Nat.zero_le _⟩) ?_
                            refine lv_ldc2 (own := RM) (v := 65536) hx hb hown (hT.w tw_738) dM_receive_300 ?_
                            refine lv_lmul hx hb dM_receive_303 ?_
                            refine zq_last hx hb hK hP hD hS 8 0 rfl rfl k rfl (by first | omega | decide | assumption) (by decide) dM_receive_304 (fun H locs hP hD hS => ?_)
                            have hP : va_P (dC, dI) vcl (zm_W o ad cI cJ cZ 0 loc slw wst pk den rch pol (upd ask k 0) xp (upd str k (pk 1)) (vp_updL rdl k ((zm_rd pk 4 4) * 65536)) rds nn off del cam ins low high) H := hP
                            have hD : va_D A (zm_W o ad cI cJ cZ 0 loc slw wst pk den rch pol (upd ask k 0) xp (upd str k (pk 1)) (vp_updL rdl k ((zm_rd pk 4 4) * 65536)) rds nn off del cam ins low high) := hD
                            refine lv_aload_n hx hb dM_receive_305 rfl (lv_at hl 7 rfl) ?_
                            refine zz_getM hx hb hT hown hK hP 0 rfl 12 (by decide) tw_629 rfl dM_receive_306 ?_
                            refine lv_iload_n hx hb dM_receive_309 rfl (lv_at hl 8 rfl) ?_
                            refine lv_aload_n hx hb dM_receive_310 rfl (lv_at hl 7 rfl) ?_
                            refine lv_bipush (v := 8) hx hb dM_receive_311 (by decide) ?_
                            refine lv_iconst (v := 4) hx hb dM_receive_313 (by decide) ?_
                            refine zz_call (va_runV (Ts := []) (As := [.int 8, .int 4]) (own := RM) ⟨hx, hb, hml, hown, fun _ h => nomatch h⟩ (ct_M_read l (u := 8) (n := 4) (by first | decide | omega)) (zt_cv hT tc_M_read tv_M_read tw_722 ⟨Nat.le_of_ble_eq_true rfl, Nat.le_of_ble_eq_true rfl⟩) (zz_preV (q0 := 0) hT hP hK rfl rfl) rfl rfl hl.1 rfl (lv_room (Nat.le_of_ble_eq_true rfl)) dM_receive_314 ⟨Nat.zero_le _, Nat.zero_le _⟩) ?_
                            refine lv_ldc2 (own := RM) (v := 65536) hx hb hown (hT.w tw_738) dM_receive_317 ?_
                            refine lv_lmul hx hb dM_receive_320 ?_
                            refine zq_last hx hb hK hP hD hS 9 0 rfl rfl k rfl (by first | omega | decide | assumption) (by decide) dM_receive_321 (fun H locs hP hD hS => ?_)
                            have hP : va_P (dC, dI) vcl (zm_W o ad cI cJ cZ 0 loc slw wst pk den rch pol (upd ask k 0) xp (upd str k (pk 1)) (vp_updL rdl k ((zm_rd pk 4 4) * 65536)) (vp_updL rds k ((zm_rd pk 8 4) * 65536)) nn off del cam ins low high) H := hP
                            have hD : va_D A (zm_W o ad cI cJ cZ 0 loc slw wst pk den rch pol (upd ask k 0) xp (upd str k (pk 1)) (vp_updL rdl k ((zm_rd pk 4 4) * 65536)) (vp_updL rds k ((zm_rd pk 8 4) * 65536)) nn off del cam ins low high) := hD
                            refine lv_aload_n hx hb dM_receive_322 rfl (lv_at hl 7 rfl) ?_
                            refine zz_getM hx hb hT hown hK hP 0 rfl 6 (by decide) tw_623 rfl dM_receive_323 ?_
                            refine lv_iload_n hx hb dM_receive_326 rfl (lv_at hl 8 rfl) ?_
                            refine lv_aload_n hx hb dM_receive_327 rfl (lv_at hl 7 rfl) ?_
                            refine zz_getM hx hb hT hown hK hP 0 rfl 6 (by decide) tw_623 rfl dM_receive_328 ?_
                            refine lv_iload_n hx hb dM_receive_331 rfl (lv_at hl 8 rfl) ?_
                            refine zz_iald hx hb hK hP 3 1 rfl rfl k rfl (by first | omega | decide | assumption) (by decide) dM_receive_332 ?_
                            refine lv_iconst (v := 2) hx hb dM_receive_333 (by decide) ?_
                            refine lv_irem hx hb dM_receive_334 (by decide) ?_
                            refine zz_zne (tgt := 349) hx hb dM_receive_335 (by decide) (fun h14 => ?_) (fun h14 => ?_)
                            · refine lv_aload_n hx hb dM_receive_349 rfl (lv_at hl 7 rfl) ?_
                              refine zz_getM hx hb hT hown hK hP 0 rfl 6 (by decide) tw_623 rfl dM_receive_350 ?_
                              refine lv_iload_n hx hb dM_receive_353 rfl (lv_at hl 8 rfl) ?_
                              refine zz_iald hx hb hK hP 3 1 rfl rfl k rfl (by first | omega | decide | assumption) (by decide) dM_receive_354 ?_
                              refine zq_iast hx hb hK hP hD hS 3 1 rfl rfl k rfl (by first | omega | decide | assumption) (by decide) dM_receive_355 (fun H locs hP hD hS => ?_)
                              have hP : va_P (dC, dI) vcl (zm_W o ad cI cJ cZ 0 loc slw wst pk den (upd rch k (rch k)) pol (upd ask k 0) xp (upd str k (pk 1)) (vp_updL rdl k ((zm_rd pk 4 4) * 65536)) (vp_updL rds k ((zm_rd pk 8 4) * 65536)) nn off del cam ins low high) H := hP
                              have hD : va_D A (zm_W o ad cI cJ cZ 0 loc slw wst pk den (upd rch k (rch k)) pol (upd ask k 0) xp (upd str k (pk 1)) (vp_updL rdl k ((zm_rd pk 4 4) * 65536)) (vp_updL rds k ((zm_rd pk 8 4) * 65536)) nn off del cam ins low high) := hD
                              refine lv_bipush (v := 7) hx hb dM_receive_356 (by decide) ?_
                              refine lv_istore (lv' := [(15, .int 7), (13, .long 1152921504606846976), (11, .long dly9), (9, .long (zm_half ((zm_rd pk 32 8) - (xp k)) ((zm_rd pk 40 8) - loc))), (7, .long (zm_rd pk 40 8)), (5, .long (zm_rd pk 32 8)), (3, .long (xp k)), (2, .int 1), (0, .ref o), (1, .int (nI k))]) hx hb dM_receive_358 hl (by decide) rfl (fun ls hl => ?_)
                              have lp : ∀ (k9 : Nat) (i : Nat) (H : Heap) (locs : List Loc), i < k9 → (i ≤ 7) → va_P (dC, dI) vcl (zm_W o ad cI cJ cZ 0 loc slw wst pk den (upd rch k (rch k)) pol (upd ask k 0) xp (upd str k (pk 1)) (vp_updL rdl k ((zm_rd pk 4 4) * 65536)) (vp_updL rds k ((zm_rd pk 8 4) * 65536)) nn (zm_sft off (8 * k) i) (zm_sft del (8 * k) i) (zm_sft cam (8 * k) i) ins low high) H → va_D A (zm_W o ad cI cJ cZ 0 loc slw wst pk den (upd rch k (rch k)) pol (upd ask k 0) xp (upd str k (pk 1)) (vp_updL rdl k ((zm_rd pk 4 4) * 65536)) (vp_updL rds k ((zm_rd pk 8 4) * 65536)) nn (zm_sft off (8 * k) i) (zm_sft del (8 * k) i) (zm_sft cam (8 * k) i) ins low high) → va_S A s.heap H locs → ∀ ls : Array Slot, lv_has ls 16 [(0, .ref o), (1, .int (nI k)), (9, .long (zm_half ((zm_rd pk 32 8) - (xp k)) ((zm_rd pk 40 8) - loc))), (11, .long dly9), (15, .int (nI i))] → W p l e ({ frames := 2, cells := 0, slots := 0, locals := 48 } : Room) s m ([.ref o, .int (nI k)] : List Value).toArray below meth c H locs 0 0 (MQ below (zq_Q (dC, dI) vcl (some (.int 0)) (zm_W o ad cI cJ cZ thr loc slw wst pk den rch pol ask xp str rdl rds nn off del cam ins low high) (zm_W o ad cI cJ cZ 0 loc slw wst pk den (upd rch k (zm_odd (rch k))) pol (upd ask k 0) xp (upd str k (pk 1)) (vp_updL rdl k ((zm_rd pk 4 4) * 65536)) (vp_updL rds k ((zm_rd pk 8 4) * 65536)) (va_up nn k (zs_c8 (nn k))) (zm_push off k (zm_half ((zm_rd pk 32 8) - (xp k)) ((zm_rd pk 40 8) - loc))) (zm_push del k (zm_dly ((loc - (xp k)) - ((zm_rd pk 40 8) - (zm_rd pk 32 8))))) (zm_push cam k loc) ins low high) s.heap.size) ([.ref o, .int (nI k)] : List Value).toArray s 0 0 A) (F0 m 360 ls []) := by
                                intro k9
                                induction k9 with
                                | zero => intro i H locs hk9; exact absurd hk9 (Nat.not_lt_zero _)
                                | succ k9 ih_lp =>
                                  intro i H locs hk9 hi hP hD hS ls hl
                                  rcases i with _ | i
                                  · have hl : lv_has ls 16 [(0, .ref o), (1, .int (nI k)), (9, .long (zm_half ((zm_rd pk 32 8) - (xp k)) ((zm_rd pk 40 8) - loc))), (11, .long dly9), (15, .int 0)] := hl
                                    refine lv_iload hx hb dM_receive_360 (lv_at hl 4 rfl) ?_
                                    refine zz_zle (tgt := 449) hx hb dM_receive_362 (by decide) (fun _ => ?_) (fun h => absurd h (by decide))
                                    refine lv_aload_n hx hb dM_receive_449 rfl (lv_at hl 0 rfl) ?_
                                    refine zz_getM hx hb hT hown hK hP 0 rfl 14 (by decide) tw_631 rfl dM_receive_450 ?_
                                    refine lv_bipush (v := 8) hx hb dM_receive_453 (by decide) ?_
                                    refine lv_iload_n hx hb dM_receive_455 rfl (lv_at hl 1 rfl) ?_
                                    refine lv_imul hx hb dM_receive_456 ?_
                                    refine zz_ti (y := nI (8 * k)) (pk_mul 8 k) ?_
                                    refine lv_lload hx hb dM_receive_457 (lv_at hl 2 rfl) ?_
                                    refine zq_last hx hb hK hP hD hS 11 0 rfl rfl (8 * k) rfl (by first | omega | decide | assumption) (by decide) dM_receive_459 (fun H locs hP hD hS => ?_)
                                    have hP : va_P (dC, dI) vcl (zm_W o ad cI cJ cZ 0 loc slw wst pk den (upd rch k (rch k)) pol (upd ask k 0) xp (upd str k (pk 1)) (vp_updL rdl k ((zm_rd pk 4 4) * 65536)) (vp_updL rds k ((zm_rd pk 8 4) * 65536)) nn (vp_updL (zm_sft off (8 * k) 0) (8 * k) (zm_half ((zm_rd pk 32 8) - (xp k)) ((zm_rd pk 40 8) - loc))) (zm_sft del (8 * k) 0) (zm_sft cam (8 * k) 0) ins low high) H := hP
                                    have hD : va_D A (zm_W o ad cI cJ cZ 0 loc slw wst pk den (upd rch k (rch k)) pol (upd ask k 0) xp (upd str k (pk 1)) (vp_updL rdl k ((zm_rd pk 4 4) * 65536)) (vp_updL rds k ((zm_rd pk 8 4) * 65536)) nn (vp_updL (zm_sft off (8 * k) 0) (8 * k) (zm_half ((zm_rd pk 32 8) - (xp k)) ((zm_rd pk 40 8) - loc))) (zm_sft del (8 * k) 0) (zm_sft cam (8 * k) 0) ins low high) := hD
                                    refine lv_aload_n hx hb dM_receive_460 rfl (lv_at hl 0 rfl) ?_
                                    refine zz_getM hx hb hT hown hK hP 0 rfl 15 (by decide) tw_632 rfl dM_receive_461 ?_
                                    refine lv_bipush (v := 8) hx hb dM_receive_464 (by decide) ?_
                                    refine lv_iload_n hx hb dM_receive_466 rfl (lv_at hl 1 rfl) ?_
                                    refine lv_imul hx hb dM_receive_467 ?_
                                    refine zz_ti (y := nI (8 * k)) (pk_mul 8 k) ?_
                                    refine lv_lload hx hb dM_receive_468 (lv_at hl 3 rfl) ?_
                                    refine zq_last hx hb hK hP hD hS 12 0 rfl rfl (8 * k) rfl (by first | omega | decide | assumption) (by decide) dM_receive_470 (fun H locs hP hD hS => ?_)
                                    have hP : va_P (dC, dI) vcl (zm_W o ad cI cJ cZ 0 loc slw wst pk den (upd rch k (rch k)) pol (upd ask k 0) xp (upd str k (pk 1)) (vp_updL rdl k ((zm_rd pk 4 4) * 65536)) (vp_updL rds k ((zm_rd pk 8 4) * 65536)) nn (vp_updL (zm_sft off (8 * k) 0) (8 * k) (zm_half ((zm_rd pk 32 8) - (xp k)) ((zm_rd pk 40 8) - loc))) (vp_updL (zm_sft del (8 * k) 0) (8 * k) dly9) (zm_sft cam (8 * k) 0) ins low high) H := hP
                                    have hD : va_D A (zm_W o ad cI cJ cZ 0 loc slw wst pk den (upd rch k (rch k)) pol (upd ask k 0) xp (upd str k (pk 1)) (vp_updL rdl k ((zm_rd pk 4 4) * 65536)) (vp_updL rds k ((zm_rd pk 8 4) * 65536)) nn (vp_updL (zm_sft off (8 * k) 0) (8 * k) (zm_half ((zm_rd pk 32 8) - (xp k)) ((zm_rd pk 40 8) - loc))) (vp_updL (zm_sft del (8 * k) 0) (8 * k) dly9) (zm_sft cam (8 * k) 0) ins low high) := hD
                                    refine lv_aload_n hx hb dM_receive_471 rfl (lv_at hl 0 rfl) ?_
                                    refine zz_getM hx hb hT hown hK hP 0 rfl 16 (by decide) tw_633 rfl dM_receive_472 ?_
                                    refine lv_bipush (v := 8) hx hb dM_receive_475 (by decide) ?_
                                    refine lv_iload_n hx hb dM_receive_477 rfl (lv_at hl 1 rfl) ?_
                                    refine lv_imul hx hb dM_receive_478 ?_
                                    refine zz_ti (y := nI (8 * k)) (pk_mul 8 k) ?_
                                    refine lv_aload_n hx hb dM_receive_479 rfl (lv_at hl 0 rfl) ?_
                                    refine zz_getM hx hb hT hown hK hP 0 rfl 1 (by decide) tw_618 rfl dM_receive_480 ?_
                                    refine zq_last hx hb hK hP hD hS 13 0 rfl rfl (8 * k) rfl (by first | omega | decide | assumption) (by decide) dM_receive_483 (fun H locs hP hD hS => ?_)
                                    have hP : va_P (dC, dI) vcl (zm_W o ad cI cJ cZ 0 loc slw wst pk den (upd rch k (rch k)) pol (upd ask k 0) xp (upd str k (pk 1)) (vp_updL rdl k ((zm_rd pk 4 4) * 65536)) (vp_updL rds k ((zm_rd pk 8 4) * 65536)) nn (vp_updL (zm_sft off (8 * k) 0) (8 * k) (zm_half ((zm_rd pk 32 8) - (xp k)) ((zm_rd pk 40 8) - loc))) (vp_updL (zm_sft del (8 * k) 0) (8 * k) dly9) (vp_updL (zm_sft cam (8 * k) 0) (8 * k) loc) ins low high) H := hP
                                    have hD : va_D A (zm_W o ad cI cJ cZ 0 loc slw wst pk den (upd rch k (rch k)) pol (upd ask k 0) xp (upd str k (pk 1)) (vp_updL rdl k ((zm_rd pk 4 4) * 65536)) (vp_updL rds k ((zm_rd pk 8 4) * 65536)) nn (vp_updL (zm_sft off (8 * k) 0) (8 * k) (zm_half ((zm_rd pk 32 8) - (xp k)) ((zm_rd pk 40 8) - loc))) (vp_updL (zm_sft del (8 * k) 0) (8 * k) dly9) (vp_updL (zm_sft cam (8 * k) 0) (8 * k) loc) ins low high) := hD
                                    refine lv_aload_n hx hb dM_receive_484 rfl (lv_at hl 0 rfl) ?_
                                    refine zz_getM hx hb hT hown hK hP 0 rfl 13 (by decide) tw_630 rfl dM_receive_485 ?_
                                    refine lv_iload_n hx hb dM_receive_488 rfl (lv_at hl 1 rfl) ?_
                                    refine lv_aload_n hx hb dM_receive_489 rfl (lv_at hl 0 rfl) ?_
                                    refine zz_getM hx hb hT hown hK hP 0 rfl 13 (by decide) tw_630 rfl dM_receive_490 ?_
                                    refine lv_iload_n hx hb dM_receive_493 rfl (lv_at hl 1 rfl) ?_
                                    refine zz_iald hx hb hK hP 10 1 rfl rfl k rfl (by first | omega | decide | assumption) (by decide) dM_receive_494 ?_
                                    refine lv_bipush (v := 8) hx hb dM_receive_495 (by decide) ?_
                                    refine zz_ige (tgt := 511) hx hb dM_receive_497 (by decide) (fun h15 => ?_) (fun h15 => ?_)
                                    · have h15n := mt (zz_ltN (a := (nn k)) (b := 8) rfl rfl (by omega) (by omega)).mpr h15
                                      refine lv_bipush (v := 8) hx hb dM_receive_511 (by decide) ?_
                                      refine zq_iast hx hb hK hP hD hS 10 1 rfl rfl k rfl (by first | omega | decide | assumption) (by decide) dM_receive_513 (fun H locs hP hD hS => ?_)
                                      have hP : va_P (dC, dI) vcl (zm_W o ad cI cJ cZ 0 loc slw wst pk den (upd rch k (rch k)) pol (upd ask k 0) xp (upd str k (pk 1)) (vp_updL rdl k ((zm_rd pk 4 4) * 65536)) (vp_updL rds k ((zm_rd pk 8 4) * 65536)) (va_up nn k 8) (vp_updL (zm_sft off (8 * k) 0) (8 * k) (zm_half ((zm_rd pk 32 8) - (xp k)) ((zm_rd pk 40 8) - loc))) (vp_updL (zm_sft del (8 * k) 0) (8 * k) dly9) (vp_updL (zm_sft cam (8 * k) 0) (8 * k) loc) ins low high) H := (by have h9 := hP; rw [zm_up8] at h9; exact h9)
                                      have hD : va_D A (zm_W o ad cI cJ cZ 0 loc slw wst pk den (upd rch k (rch k)) pol (upd ask k 0) xp (upd str k (pk 1)) (vp_updL rdl k ((zm_rd pk 4 4) * 65536)) (vp_updL rds k ((zm_rd pk 8 4) * 65536)) (va_up nn k 8) (vp_updL (zm_sft off (8 * k) 0) (8 * k) (zm_half ((zm_rd pk 32 8) - (xp k)) ((zm_rd pk 40 8) - loc))) (vp_updL (zm_sft del (8 * k) 0) (8 * k) dly9) (vp_updL (zm_sft cam (8 * k) 0) (8 * k) loc) ins low high) := (by have h9 := hD; rw [zm_up8] at h9; exact h9)
                                      refine lv_iconst (v := 0) hx hb dM_receive_514 (by decide) ?_
                                      exact zq_iret hx hb hr hlocks dM_receive_515 (rfl) hAe (by rw [show upd rch k (zm_odd (rch k)) = upd rch k (rch k) from congrArg (upd rch k) (if_neg h14)]; rw [show va_up nn k (zs_c8 (nn k)) = va_up nn k 8 from congrArg (va_up nn k) (if_neg h15n)]; rw [show zm_push off k (zm_half ((zm_rd pk 32 8) - (xp k)) ((zm_rd pk 40 8) - loc)) = vp_updL (zm_sft off (8 * k) 0) (8 * k) (zm_half ((zm_rd pk 32 8) - (xp k)) ((zm_rd pk 40 8) - loc)) from rfl]; rw [show zm_push del k (zm_dly ((loc - (xp k)) - ((zm_rd pk 40 8) - (zm_rd pk 32 8)))) = vp_updL (zm_sft del (8 * k) 0) (8 * k) dly9 from congrArg (fun z => vp_updL (zm_sft del (8 * k) 0) (8 * k) z) ((if_neg h10).trans hdly.symm)]; rw [show zm_push cam k loc = vp_updL (zm_sft cam (8 * k) 0) (8 * k) loc from rfl]; exact hP) (by rw [show upd rch k (zm_odd (rch k)) = upd rch k (rch k) from congrArg (upd rch k) (if_neg h14)]; rw [show va_up nn k (zs_c8 (nn k)) = va_up nn k 8 from congrArg (va_up nn k) (if_neg h15n)]; rw [show zm_push off k (zm_half ((zm_rd pk 32 8) - (xp k)) ((zm_rd pk 40 8) - loc)) = vp_updL (zm_sft off (8 * k) 0) (8 * k) (zm_half ((zm_rd pk 32 8) - (xp k)) ((zm_rd pk 40 8) - loc)) from rfl]; rw [show zm_push del k (zm_dly ((loc - (xp k)) - ((zm_rd pk 40 8) - (zm_rd pk 32 8)))) = vp_updL (zm_sft del (8 * k) 0) (8 * k) dly9 from congrArg (fun z => vp_updL (zm_sft del (8 * k) 0) (8 * k) z) ((if_neg h10).trans hdly.symm)]; rw [show zm_push cam k loc = vp_updL (zm_sft cam (8 * k) 0) (8 * k) loc from rfl]; exact hD) hS
                                    · have h15n := (zz_ltN (a := (nn k)) (b := 8) rfl rfl (by omega) (by omega)).mp h15
                                      refine lv_aload_n hx hb dM_receive_500 rfl (lv_at hl 0 rfl) ?_
                                      refine zz_getM hx hb hT hown hK hP 0 rfl 13 (by decide) tw_630 rfl dM_receive_501 ?_
                                      refine lv_iload_n hx hb dM_receive_504 rfl (lv_at hl 1 rfl) ?_
                                      refine zz_iald hx hb hK hP 10 1 rfl rfl k rfl (by first | omega | decide | assumption) (by decide) dM_receive_505 ?_
                                      refine lv_iconst (v := 1) hx hb dM_receive_506 (by decide) ?_
                                      refine lv_iadd hx hb dM_receive_507 ?_
                                      refine zz_ti (y := nI (nn k + 1)) ((nI_succ _).symm) ?_
                                      refine lv_goto (tgt := 513) hx hb dM_receive_508 (by decide) ?_
                                      refine zq_iast hx hb hK hP hD hS 10 1 rfl rfl k rfl (by first | omega | decide | assumption) (by decide) dM_receive_513 (fun H locs hP hD hS => ?_)
                                      have hP : va_P (dC, dI) vcl (zm_W o ad cI cJ cZ 0 loc slw wst pk den (upd rch k (rch k)) pol (upd ask k 0) xp (upd str k (pk 1)) (vp_updL rdl k ((zm_rd pk 4 4) * 65536)) (vp_updL rds k ((zm_rd pk 8 4) * 65536)) (va_up nn k (nn k + 1)) (vp_updL (zm_sft off (8 * k) 0) (8 * k) (zm_half ((zm_rd pk 32 8) - (xp k)) ((zm_rd pk 40 8) - loc))) (vp_updL (zm_sft del (8 * k) 0) (8 * k) dly9) (vp_updL (zm_sft cam (8 * k) 0) (8 * k) loc) ins low high) H := (by have h9 := hP; rw [zm_upn] at h9; exact h9)
                                      have hD : va_D A (zm_W o ad cI cJ cZ 0 loc slw wst pk den (upd rch k (rch k)) pol (upd ask k 0) xp (upd str k (pk 1)) (vp_updL rdl k ((zm_rd pk 4 4) * 65536)) (vp_updL rds k ((zm_rd pk 8 4) * 65536)) (va_up nn k (nn k + 1)) (vp_updL (zm_sft off (8 * k) 0) (8 * k) (zm_half ((zm_rd pk 32 8) - (xp k)) ((zm_rd pk 40 8) - loc))) (vp_updL (zm_sft del (8 * k) 0) (8 * k) dly9) (vp_updL (zm_sft cam (8 * k) 0) (8 * k) loc) ins low high) := (by have h9 := hD; rw [zm_upn] at h9; exact h9)
                                      refine lv_iconst (v := 0) hx hb dM_receive_514 (by decide) ?_
                                      exact zq_iret hx hb hr hlocks dM_receive_515 (rfl) hAe (by rw [show upd rch k (zm_odd (rch k)) = upd rch k (rch k) from congrArg (upd rch k) (if_neg h14)]; rw [show va_up nn k (zs_c8 (nn k)) = va_up nn k (nn k + 1) from congrArg (va_up nn k) (if_pos h15n)]; rw [show zm_push off k (zm_half ((zm_rd pk 32 8) - (xp k)) ((zm_rd pk 40 8) - loc)) = vp_updL (zm_sft off (8 * k) 0) (8 * k) (zm_half ((zm_rd pk 32 8) - (xp k)) ((zm_rd pk 40 8) - loc)) from rfl]; rw [show zm_push del k (zm_dly ((loc - (xp k)) - ((zm_rd pk 40 8) - (zm_rd pk 32 8)))) = vp_updL (zm_sft del (8 * k) 0) (8 * k) dly9 from congrArg (fun z => vp_updL (zm_sft del (8 * k) 0) (8 * k) z) ((if_neg h10).trans hdly.symm)]; rw [show zm_push cam k loc = vp_updL (zm_sft cam (8 * k) 0) (8 * k) loc from rfl]; exact hP) (by rw [show upd rch k (zm_odd (rch k)) = upd rch k (rch k) from congrArg (upd rch k) (if_neg h14)]; rw [show va_up nn k (zs_c8 (nn k)) = va_up nn k (nn k + 1) from congrArg (va_up nn k) (if_pos h15n)]; rw [show zm_push off k (zm_half ((zm_rd pk 32 8) - (xp k)) ((zm_rd pk 40 8) - loc)) = vp_updL (zm_sft off (8 * k) 0) (8 * k) (zm_half ((zm_rd pk 32 8) - (xp k)) ((zm_rd pk 40 8) - loc)) from rfl]; rw [show zm_push del k (zm_dly ((loc - (xp k)) - ((zm_rd pk 40 8) - (zm_rd pk 32 8)))) = vp_updL (zm_sft del (8 * k) 0) (8 * k) dly9 from congrArg (fun z => vp_updL (zm_sft del (8 * k) 0) (8 * k) z) ((if_neg h10).trans hdly.symm)]; rw [show zm_push cam k loc = vp_updL (zm_sft cam (8 * k) 0) (8 * k) loc from rfl]; exact hD) hS
                                  · have hl : lv_has ls 16 [(0, .ref o), (1, .int (nI k)), (9, .long (zm_half ((zm_rd pk 32 8) - (xp k)) ((zm_rd pk 40 8) - loc))), (11, .long dly9), (15, .int (nI (i + 1)))] := hl
                                    refine lv_iload hx hb dM_receive_360 (lv_at hl 4 rfl) ?_
                                    refine zz_zle (tgt := 449) hx hb dM_receive_362 (by decide) (fun h => absurd ((zz_ltN (a := 0) (b := (i + 1)) rfl rfl (by omega) (by omega)).mpr (by omega)) h) (fun _ => ?_)
                                    refine lv_aload_n hx hb dM_receive_365 rfl (lv_at hl 0 rfl) ?_
                                    refine zz_getM hx hb hT hown hK hP 0 rfl 14 (by decide) tw_631 rfl dM_receive_366 ?_
                                    refine lv_bipush (v := 8) hx hb dM_receive_369 (by decide) ?_
                                    refine lv_iload_n hx hb dM_receive_371 rfl (lv_at hl 1 rfl) ?_
                                    refine lv_imul hx hb dM_receive_372 ?_
                                    refine zz_ti (y := nI (8 * k)) (pk_mul 8 k) ?_
                                    refine lv_iload hx hb dM_receive_373 (lv_at hl 4 rfl) ?_
                                    refine lv_iadd hx hb dM_receive_375 ?_
                                    refine zz_ti (y := nI (8 * k + (i + 1))) (nI_add _ _) ?_
                                    refine lv_aload_n hx hb dM_receive_376 rfl (lv_at hl 0 rfl) ?_
                                    refine zz_getM hx hb hT hown hK hP 0 rfl 14 (by decide) tw_631 rfl dM_receive_377 ?_
                                    refine lv_bipush (v := 8) hx hb dM_receive_380 (by decide) ?_
                                    refine lv_iload_n hx hb dM_receive_382 rfl (lv_at hl 1 rfl) ?_
                                    refine lv_imul hx hb dM_receive_383 ?_
                                    refine zz_ti (y := nI (8 * k)) (pk_mul 8 k) ?_
                                    refine lv_iload hx hb dM_receive_384 (lv_at hl 4 rfl) ?_
                                    refine lv_iadd hx hb dM_receive_386 ?_
                                    refine zz_ti (y := nI (8 * k + (i + 1))) (nI_add _ _) ?_
                                    refine lv_iconst (v := 1) hx hb dM_receive_387 (by decide) ?_
                                    refine lv_isub hx hb dM_receive_388 ?_
                                    refine zz_ti (y := nI (8 * k + i)) (nI_pred _) ?_
                                    refine zz_lald hx hb hK hP 11 0 rfl rfl (8 * k + i) rfl (by first | omega | decide | assumption) (by decide) dM_receive_389 ?_
                                    refine zq_last hx hb hK hP hD hS 11 0 rfl rfl (8 * k + (i + 1)) rfl (by first | omega | decide | assumption) (by decide) dM_receive_390 (fun H locs hP hD hS => ?_)
                                    have hP : va_P (dC, dI) vcl (zm_W o ad cI cJ cZ 0 loc slw wst pk den (upd rch k (rch k)) pol (upd ask k 0) xp (upd str k (pk 1)) (vp_updL rdl k ((zm_rd pk 4 4) * 65536)) (vp_updL rds k ((zm_rd pk 8 4) * 65536)) nn (vp_updL (zm_sft off (8 * k) (i + 1)) (8 * k + (i + 1)) ((zm_sft off (8 * k) (i + 1)) (8 * k + i))) (zm_sft del (8 * k) (i + 1)) (zm_sft cam (8 * k) (i + 1)) ins low high) H := hP
                                    have hD : va_D A (zm_W o ad cI cJ cZ 0 loc slw wst pk den (upd rch k (rch k)) pol (upd ask k 0) xp (upd str k (pk 1)) (vp_updL rdl k ((zm_rd pk 4 4) * 65536)) (vp_updL rds k ((zm_rd pk 8 4) * 65536)) nn (vp_updL (zm_sft off (8 * k) (i + 1)) (8 * k + (i + 1)) ((zm_sft off (8 * k) (i + 1)) (8 * k + i))) (zm_sft del (8 * k) (i + 1)) (zm_sft cam (8 * k) (i + 1)) ins low high) := hD
                                    refine lv_aload_n hx hb dM_receive_391 rfl (lv_at hl 0 rfl) ?_
                                    refine zz_getM hx hb hT hown hK hP 0 rfl 15 (by decide) tw_632 rfl dM_receive_392 ?_
                                    refine lv_bipush (v := 8) hx hb dM_receive_395 (by decide) ?_
                                    refine lv_iload_n hx hb dM_receive_397 rfl (lv_at hl 1 rfl) ?_
                                    refine lv_imul hx hb dM_receive_398 ?_
                                    refine zz_ti (y := nI (8 * k)) (pk_mul 8 k) ?_
                                    refine lv_iload hx hb dM_receive_399 (lv_at hl 4 rfl) ?_
                                    refine lv_iadd hx hb dM_receive_401 ?_
                                    refine zz_ti (y := nI (8 * k + (i + 1))) (nI_add _ _) ?_
                                    refine lv_aload_n hx hb dM_receive_402 rfl (lv_at hl 0 rfl) ?_
                                    refine zz_getM hx hb hT hown hK hP 0 rfl 15 (by decide) tw_632 rfl dM_receive_403 ?_
                                    refine lv_bipush (v := 8) hx hb dM_receive_406 (by decide) ?_
                                    refine lv_iload_n hx hb dM_receive_408 rfl (lv_at hl 1 rfl) ?_
                                    refine lv_imul hx hb dM_receive_409 ?_
                                    refine zz_ti (y := nI (8 * k)) (pk_mul 8 k) ?_
                                    refine lv_iload hx hb dM_receive_410 (lv_at hl 4 rfl) ?_
                                    refine lv_iadd hx hb dM_receive_412 ?_
                                    refine zz_ti (y := nI (8 * k + (i + 1))) (nI_add _ _) ?_
                                    refine lv_iconst (v := 1) hx hb dM_receive_413 (by decide) ?_
                                    refine lv_isub hx hb dM_receive_414 ?_
                                    refine zz_ti (y := nI (8 * k + i)) (nI_pred _) ?_
                                    refine zz_lald hx hb hK hP 12 0 rfl rfl (8 * k + i) rfl (by first | omega | decide | assumption) (by decide) dM_receive_415 ?_
                                    refine zq_last hx hb hK hP hD hS 12 0 rfl rfl (8 * k + (i + 1)) rfl (by first | omega | decide | assumption) (by decide) dM_receive_416 (fun H locs hP hD hS => ?_)
                                    have hP : va_P (dC, dI) vcl (zm_W o ad cI cJ cZ 0 loc slw wst pk den (upd rch k (rch k)) pol (upd ask k 0) xp (upd str k (pk 1)) (vp_updL rdl k ((zm_rd pk 4 4) * 65536)) (vp_updL rds k ((zm_rd pk 8 4) * 65536)) nn (vp_updL (zm_sft off (8 * k) (i + 1)) (8 * k + (i + 1)) ((zm_sft off (8 * k) (i + 1)) (8 * k + i))) (vp_updL (zm_sft del (8 * k) (i + 1)) (8 * k + (i + 1)) ((zm_sft del (8 * k) (i + 1)) (8 * k + i))) (zm_sft cam (8 * k) (i + 1)) ins low high) H := hP
                                    have hD : va_D A (zm_W o ad cI cJ cZ 0 loc slw wst pk den (upd rch k (rch k)) pol (upd ask k 0) xp (upd str k (pk 1)) (vp_updL rdl k ((zm_rd pk 4 4) * 65536)) (vp_updL rds k ((zm_rd pk 8 4) * 65536)) nn (vp_updL (zm_sft off (8 * k) (i + 1)) (8 * k + (i + 1)) ((zm_sft off (8 * k) (i + 1)) (8 * k + i))) (vp_updL (zm_sft del (8 * k) (i + 1)) (8 * k + (i + 1)) ((zm_sft del (8 * k) (i + 1)) (8 * k + i))) (zm_sft cam (8 * k) (i + 1)) ins low high) := hD
                                    refine lv_aload_n hx hb dM_receive_417 rfl (lv_at hl 0 rfl) ?_
                                    refine zz_getM hx hb hT hown hK hP 0 rfl 16 (by decide) tw_633 rfl dM_receive_418 ?_
                                    refine lv_bipush (v := 8) hx hb dM_receive_421 (by decide) ?_
                                    refine lv_iload_n hx hb dM_receive_423 rfl (lv_at hl 1 rfl) ?_
                                    refine lv_imul hx hb dM_receive_424 ?_
                                    refine zz_ti (y := nI (8 * k)) (pk_mul 8 k) ?_
                                    refine lv_iload hx hb dM_receive_425 (lv_at hl 4 rfl) ?_
                                    refine lv_iadd hx hb dM_receive_427 ?_
                                    refine zz_ti (y := nI (8 * k + (i + 1))) (nI_add _ _) ?_
                                    refine lv_aload_n hx hb dM_receive_428 rfl (lv_at hl 0 rfl) ?_
                                    refine zz_getM hx hb hT hown hK hP 0 rfl 16 (by decide) tw_633 rfl dM_receive_429 ?_
                                    refine lv_bipush (v := 8) hx hb dM_receive_432 (by decide) ?_
                                    refine lv_iload_n hx hb dM_receive_434 rfl (lv_at hl 1 rfl) ?_
                                    refine lv_imul hx hb dM_receive_435 ?_
                                    refine zz_ti (y := nI (8 * k)) (pk_mul 8 k) ?_
                                    refine lv_iload hx hb dM_receive_436 (lv_at hl 4 rfl) ?_
                                    refine lv_iadd hx hb dM_receive_438 ?_
                                    refine zz_ti (y := nI (8 * k + (i + 1))) (nI_add _ _) ?_
                                    refine lv_iconst (v := 1) hx hb dM_receive_439 (by decide) ?_
                                    refine lv_isub hx hb dM_receive_440 ?_
                                    refine zz_ti (y := nI (8 * k + i)) (nI_pred _) ?_
                                    refine zz_lald hx hb hK hP 13 0 rfl rfl (8 * k + i) rfl (by first | omega | decide | assumption) (by decide) dM_receive_441 ?_
                                    refine zq_last hx hb hK hP hD hS 13 0 rfl rfl (8 * k + (i + 1)) rfl (by first | omega | decide | assumption) (by decide) dM_receive_442 (fun H locs hP hD hS => ?_)
                                    have hP : va_P (dC, dI) vcl (zm_W o ad cI cJ cZ 0 loc slw wst pk den (upd rch k (rch k)) pol (upd ask k 0) xp (upd str k (pk 1)) (vp_updL rdl k ((zm_rd pk 4 4) * 65536)) (vp_updL rds k ((zm_rd pk 8 4) * 65536)) nn (vp_updL (zm_sft off (8 * k) (i + 1)) (8 * k + (i + 1)) ((zm_sft off (8 * k) (i + 1)) (8 * k + i))) (vp_updL (zm_sft del (8 * k) (i + 1)) (8 * k + (i + 1)) ((zm_sft del (8 * k) (i + 1)) (8 * k + i))) (vp_updL (zm_sft cam (8 * k) (i + 1)) (8 * k + (i + 1)) ((zm_sft cam (8 * k) (i + 1)) (8 * k + i))) ins low high) H := hP
                                    have hD : va_D A (zm_W o ad cI cJ cZ 0 loc slw wst pk den (upd rch k (rch k)) pol (upd ask k 0) xp (upd str k (pk 1)) (vp_updL rdl k ((zm_rd pk 4 4) * 65536)) (vp_updL rds k ((zm_rd pk 8 4) * 65536)) nn (vp_updL (zm_sft off (8 * k) (i + 1)) (8 * k + (i + 1)) ((zm_sft off (8 * k) (i + 1)) (8 * k + i))) (vp_updL (zm_sft del (8 * k) (i + 1)) (8 * k + (i + 1)) ((zm_sft del (8 * k) (i + 1)) (8 * k + i))) (vp_updL (zm_sft cam (8 * k) (i + 1)) (8 * k + (i + 1)) ((zm_sft cam (8 * k) (i + 1)) (8 * k + i))) ins low high) := hD
                                    refine lv_iinc (k := 4) (v := nI i) (lv' := [(15, .int (nI i)), (0, .ref o), (1, .int (nI k)), (9, .long (zm_half ((zm_rd pk 32 8) - (xp k)) ((zm_rd pk 40 8) - loc))), (11, .long dly9)]) hx hb dM_receive_443 hl rfl (pk_m1 _) (by decide) rfl (fun ls hl => ?_)
                                    refine lv_goto (tgt := 360) hx hb dM_receive_446 (by decide) ?_
                                    exact ih_lp i _ _ (by omega) (by omega) (by rw [show zm_sft off (8 * k) i = vp_updL (zm_sft off (8 * k) (i + 1)) (8 * k + (i + 1)) ((zm_sft off (8 * k) (i + 1)) (8 * k + i)) from zm_sft_s _ _ (by omega)]; rw [show zm_sft del (8 * k) i = vp_updL (zm_sft del (8 * k) (i + 1)) (8 * k + (i + 1)) ((zm_sft del (8 * k) (i + 1)) (8 * k + i)) from zm_sft_s _ _ (by omega)]; rw [show zm_sft cam (8 * k) i = vp_updL (zm_sft cam (8 * k) (i + 1)) (8 * k + (i + 1)) ((zm_sft cam (8 * k) (i + 1)) (8 * k + i)) from zm_sft_s _ _ (by omega)]; exact hP) (by rw [show zm_sft off (8 * k) i = vp_updL (zm_sft off (8 * k) (i + 1)) (8 * k + (i + 1)) ((zm_sft off (8 * k) (i + 1)) (8 * k + i)) from zm_sft_s _ _ (by omega)]; rw [show zm_sft del (8 * k) i = vp_updL (zm_sft del (8 * k) (i + 1)) (8 * k + (i + 1)) ((zm_sft del (8 * k) (i + 1)) (8 * k + i)) from zm_sft_s _ _ (by omega)]; rw [show zm_sft cam (8 * k) i = vp_updL (zm_sft cam (8 * k) (i + 1)) (8 * k + (i + 1)) ((zm_sft cam (8 * k) (i + 1)) (8 * k + i)) from zm_sft_s _ _ (by omega)]; exact hD) hS _ (lv_sub hl [1, 2, 3, 4, 0] rfl)
                              exact lp (7 + 1) 7 _ _ (by omega) (Nat.le_refl _) (by rw [show zm_sft off (8 * k) 7 = off from zm_sft_7 _ _]; rw [show zm_sft del (8 * k) 7 = del from zm_sft_7 _ _]; rw [show zm_sft cam (8 * k) 7 = cam from zm_sft_7 _ _]; exact hP) (by rw [show zm_sft off (8 * k) 7 = off from zm_sft_7 _ _]; rw [show zm_sft del (8 * k) 7 = del from zm_sft_7 _ _]; rw [show zm_sft cam (8 * k) 7 = cam from zm_sft_7 _ _]; exact hD) hS _ (by rw [show nI 7 = 7 from rfl]; exact lv_sub hl [8, 9, 3, 2, 0] rfl)
                            · refine lv_aload_n hx hb dM_receive_338 rfl (lv_at hl 7 rfl) ?_
                              refine zz_getM hx hb hT hown hK hP 0 rfl 6 (by decide) tw_623 rfl dM_receive_339 ?_
                              refine lv_iload_n hx hb dM_receive_342 rfl (lv_at hl 8 rfl) ?_
                              refine zz_iald hx hb hK hP 3 1 rfl rfl k rfl (by first | omega | decide | assumption) (by decide) dM_receive_343 ?_
                              refine lv_iconst (v := 1) hx hb dM_receive_344 (by decide) ?_
                              refine lv_iadd hx hb dM_receive_345 ?_
                              refine lv_goto (tgt := 355) hx hb dM_receive_346 (by decide) ?_
                              refine zq_iast hx hb hK hP hD hS 3 1 rfl rfl k rfl (by first | omega | decide | assumption) (by decide) dM_receive_355 (fun H locs hP hD hS => ?_)
                              have hP : va_P (dC, dI) vcl (zm_W o ad cI cJ cZ 0 loc slw wst pk den (upd rch k ((rch k) + 1)) pol (upd ask k 0) xp (upd str k (pk 1)) (vp_updL rdl k ((zm_rd pk 4 4) * 65536)) (vp_updL rds k ((zm_rd pk 8 4) * 65536)) nn off del cam ins low high) H := hP
                              have hD : va_D A (zm_W o ad cI cJ cZ 0 loc slw wst pk den (upd rch k ((rch k) + 1)) pol (upd ask k 0) xp (upd str k (pk 1)) (vp_updL rdl k ((zm_rd pk 4 4) * 65536)) (vp_updL rds k ((zm_rd pk 8 4) * 65536)) nn off del cam ins low high) := hD
                              refine lv_bipush (v := 7) hx hb dM_receive_356 (by decide) ?_
                              refine lv_istore (lv' := [(15, .int 7), (13, .long 1152921504606846976), (11, .long dly9), (9, .long (zm_half ((zm_rd pk 32 8) - (xp k)) ((zm_rd pk 40 8) - loc))), (7, .long (zm_rd pk 40 8)), (5, .long (zm_rd pk 32 8)), (3, .long (xp k)), (2, .int 1), (0, .ref o), (1, .int (nI k))]) hx hb dM_receive_358 hl (by decide) rfl (fun ls hl => ?_)
                              have lp : ∀ (k9 : Nat) (i : Nat) (H : Heap) (locs : List Loc), i < k9 → (i ≤ 7) → va_P (dC, dI) vcl (zm_W o ad cI cJ cZ 0 loc slw wst pk den (upd rch k ((rch k) + 1)) pol (upd ask k 0) xp (upd str k (pk 1)) (vp_updL rdl k ((zm_rd pk 4 4) * 65536)) (vp_updL rds k ((zm_rd pk 8 4) * 65536)) nn (zm_sft off (8 * k) i) (zm_sft del (8 * k) i) (zm_sft cam (8 * k) i) ins low high) H → va_D A (zm_W o ad cI cJ cZ 0 loc slw wst pk den (upd rch k ((rch k) + 1)) pol (upd ask k 0) xp (upd str k (pk 1)) (vp_updL rdl k ((zm_rd pk 4 4) * 65536)) (vp_updL rds k ((zm_rd pk 8 4) * 65536)) nn (zm_sft off (8 * k) i) (zm_sft del (8 * k) i) (zm_sft cam (8 * k) i) ins low high) → va_S A s.heap H locs → ∀ ls : Array Slot, lv_has ls 16 [(0, .ref o), (1, .int (nI k)), (9, .long (zm_half ((zm_rd pk 32 8) - (xp k)) ((zm_rd pk 40 8) - loc))), (11, .long dly9), (15, .int (nI i))] → W p l e ({ frames := 2, cells := 0, slots := 0, locals := 48 } : Room) s m ([.ref o, .int (nI k)] : List Value).toArray below meth c H locs 0 0 (MQ below (zq_Q (dC, dI) vcl (some (.int 0)) (zm_W o ad cI cJ cZ thr loc slw wst pk den rch pol ask xp str rdl rds nn off del cam ins low high) (zm_W o ad cI cJ cZ 0 loc slw wst pk den (upd rch k (zm_odd (rch k))) pol (upd ask k 0) xp (upd str k (pk 1)) (vp_updL rdl k ((zm_rd pk 4 4) * 65536)) (vp_updL rds k ((zm_rd pk 8 4) * 65536)) (va_up nn k (zs_c8 (nn k))) (zm_push off k (zm_half ((zm_rd pk 32 8) - (xp k)) ((zm_rd pk 40 8) - loc))) (zm_push del k (zm_dly ((loc - (xp k)) - ((zm_rd pk 40 8) - (zm_rd pk 32 8))))) (zm_push cam k loc) ins low high) s.heap.size) ([.ref o, .int (nI k)] : List Value).toArray s 0 0 A) (F0 m 360 ls []) := by
                                intro k9
                                induction k9 with
                                | zero => intro i H locs hk9; exact absurd hk9 (Nat.not_lt_zero _)
                                | succ k9 ih_lp =>
                                  intro i H locs hk9 hi hP hD hS ls hl
                                  rcases i with _ | i
                                  · have hl : lv_has ls 16 [(0, .ref o), (1, .int (nI k)), (9, .long (zm_half ((zm_rd pk 32 8) - (xp k)) ((zm_rd pk 40 8) - loc))), (11, .long dly9), (15, .int 0)] := hl
                                    refine lv_iload hx hb dM_receive_360 (lv_at hl 4 rfl) ?_
                                    refine zz_zle (tgt := 449) hx hb dM_receive_362 (by decide) (fun _ => ?_) (fun h => absurd h (by decide))
                                    refine lv_aload_n hx hb dM_receive_449 rfl (lv_at hl 0 rfl) ?_
                                    refine zz_getM hx hb hT hown hK hP 0 rfl 14 (by decide) tw_631 rfl dM_receive_450 ?_
                                    refine lv_bipush (v := 8) hx hb dM_receive_453 (by decide) ?_
                                    refine lv_iload_n hx hb dM_receive_455 rfl (lv_at hl 1 rfl) ?_
                                    refine lv_imul hx hb dM_receive_456 ?_
                                    refine zz_ti (y := nI (8 * k)) (pk_mul 8 k) ?_
                                    refine lv_lload hx hb dM_receive_457 (lv_at hl 2 rfl) ?_
                                    refine zq_last hx hb hK hP hD hS 11 0 rfl rfl (8 * k) rfl (by first | omega | decide | assumption) (by decide) dM_receive_459 (fun H locs hP hD hS => ?_)
                                    have hP : va_P (dC, dI) vcl (zm_W o ad cI cJ cZ 0 loc slw wst pk den (upd rch k ((rch k) + 1)) pol (upd ask k 0) xp (upd str k (pk 1)) (vp_updL rdl k ((zm_rd pk 4 4) * 65536)) (vp_updL rds k ((zm_rd pk 8 4) * 65536)) nn (vp_updL (zm_sft off (8 * k) 0) (8 * k) (zm_half ((zm_rd pk 32 8) - (xp k)) ((zm_rd pk 40 8) - loc))) (zm_sft del (8 * k) 0) (zm_sft cam (8 * k) 0) ins low high) H := hP
                                    have hD : va_D A (zm_W o ad cI cJ cZ 0 loc slw wst pk den (upd rch k ((rch k) + 1)) pol (upd ask k 0) xp (upd str k (pk 1)) (vp_updL rdl k ((zm_rd pk 4 4) * 65536)) (vp_updL rds k ((zm_rd pk 8 4) * 65536)) nn (vp_updL (zm_sft off (8 * k) 0) (8 * k) (zm_half ((zm_rd pk 32 8) - (xp k)) ((zm_rd pk 40 8) - loc))) (zm_sft del (8 * k) 0) (zm_sft cam (8 * k) 0) ins low high) := hD
                                    refine lv_aload_n hx hb dM_receive_460 rfl (lv_at hl 0 rfl) ?_
                                    refine zz_getM hx hb hT hown hK hP 0 rfl 15 (by decide) tw_632 rfl dM_receive_461 ?_
                                    refine lv_bipush (v := 8) hx hb dM_receive_464 (by decide) ?_
                                    refine lv_iload_n hx hb dM_receive_466 rfl (lv_at hl 1 rfl) ?_
                                    refine lv_imul hx hb dM_receive_467 ?_
                                    refine zz_ti (y := nI (8 * k)) (pk_mul 8 k) ?_
                                    refine lv_lload hx hb dM_receive_468 (lv_at hl 3 rfl) ?_
                                    refine zq_last hx hb hK hP hD hS 12 0 rfl rfl (8 * k) rfl (by first | omega | decide | assumption) (by decide) dM_receive_470 (fun H locs hP hD hS => ?_)
                                    have hP : va_P (dC, dI) vcl (zm_W o ad cI cJ cZ 0 loc slw wst pk den (upd rch k ((rch k) + 1)) pol (upd ask k 0) xp (upd str k (pk 1)) (vp_updL rdl k ((zm_rd pk 4 4) * 65536)) (vp_updL rds k ((zm_rd pk 8 4) * 65536)) nn (vp_updL (zm_sft off (8 * k) 0) (8 * k) (zm_half ((zm_rd pk 32 8) - (xp k)) ((zm_rd pk 40 8) - loc))) (vp_updL (zm_sft del (8 * k) 0) (8 * k) dly9) (zm_sft cam (8 * k) 0) ins low high) H := hP
                                    have hD : va_D A (zm_W o ad cI cJ cZ 0 loc slw wst pk den (upd rch k ((rch k) + 1)) pol (upd ask k 0) xp (upd str k (pk 1)) (vp_updL rdl k ((zm_rd pk 4 4) * 65536)) (vp_updL rds k ((zm_rd pk 8 4) * 65536)) nn (vp_updL (zm_sft off (8 * k) 0) (8 * k) (zm_half ((zm_rd pk 32 8) - (xp k)) ((zm_rd pk 40 8) - loc))) (vp_updL (zm_sft del (8 * k) 0) (8 * k) dly9) (zm_sft cam (8 * k) 0) ins low high) := hD
                                    refine lv_aload_n hx hb dM_receive_471 rfl (lv_at hl 0 rfl) ?_
                                    refine zz_getM hx hb hT hown hK hP 0 rfl 16 (by decide) tw_633 rfl dM_receive_472 ?_
                                    refine lv_bipush (v := 8) hx hb dM_receive_475 (by decide) ?_
                                    refine lv_iload_n hx hb dM_receive_477 rfl (lv_at hl 1 rfl) ?_
                                    refine lv_imul hx hb dM_receive_478 ?_
                                    refine zz_ti (y := nI (8 * k)) (pk_mul 8 k) ?_
                                    refine lv_aload_n hx hb dM_receive_479 rfl (lv_at hl 0 rfl) ?_
                                    refine zz_getM hx hb hT hown hK hP 0 rfl 1 (by decide) tw_618 rfl dM_receive_480 ?_
                                    refine zq_last hx hb hK hP hD hS 13 0 rfl rfl (8 * k) rfl (by first | omega | decide | assumption) (by decide) dM_receive_483 (fun H locs hP hD hS => ?_)
                                    have hP : va_P (dC, dI) vcl (zm_W o ad cI cJ cZ 0 loc slw wst pk den (upd rch k ((rch k) + 1)) pol (upd ask k 0) xp (upd str k (pk 1)) (vp_updL rdl k ((zm_rd pk 4 4) * 65536)) (vp_updL rds k ((zm_rd pk 8 4) * 65536)) nn (vp_updL (zm_sft off (8 * k) 0) (8 * k) (zm_half ((zm_rd pk 32 8) - (xp k)) ((zm_rd pk 40 8) - loc))) (vp_updL (zm_sft del (8 * k) 0) (8 * k) dly9) (vp_updL (zm_sft cam (8 * k) 0) (8 * k) loc) ins low high) H := hP
                                    have hD : va_D A (zm_W o ad cI cJ cZ 0 loc slw wst pk den (upd rch k ((rch k) + 1)) pol (upd ask k 0) xp (upd str k (pk 1)) (vp_updL rdl k ((zm_rd pk 4 4) * 65536)) (vp_updL rds k ((zm_rd pk 8 4) * 65536)) nn (vp_updL (zm_sft off (8 * k) 0) (8 * k) (zm_half ((zm_rd pk 32 8) - (xp k)) ((zm_rd pk 40 8) - loc))) (vp_updL (zm_sft del (8 * k) 0) (8 * k) dly9) (vp_updL (zm_sft cam (8 * k) 0) (8 * k) loc) ins low high) := hD
                                    refine lv_aload_n hx hb dM_receive_484 rfl (lv_at hl 0 rfl) ?_
                                    refine zz_getM hx hb hT hown hK hP 0 rfl 13 (by decide) tw_630 rfl dM_receive_485 ?_
                                    refine lv_iload_n hx hb dM_receive_488 rfl (lv_at hl 1 rfl) ?_
                                    refine lv_aload_n hx hb dM_receive_489 rfl (lv_at hl 0 rfl) ?_
                                    refine zz_getM hx hb hT hown hK hP 0 rfl 13 (by decide) tw_630 rfl dM_receive_490 ?_
                                    refine lv_iload_n hx hb dM_receive_493 rfl (lv_at hl 1 rfl) ?_
                                    refine zz_iald hx hb hK hP 10 1 rfl rfl k rfl (by first | omega | decide | assumption) (by decide) dM_receive_494 ?_
                                    refine lv_bipush (v := 8) hx hb dM_receive_495 (by decide) ?_
                                    refine zz_ige (tgt := 511) hx hb dM_receive_497 (by decide) (fun h16 => ?_) (fun h16 => ?_)
                                    · have h16n := mt (zz_ltN (a := (nn k)) (b := 8) rfl rfl (by omega) (by omega)).mpr h16
                                      refine lv_bipush (v := 8) hx hb dM_receive_511 (by decide) ?_
                                      refine zq_iast hx hb hK hP hD hS 10 1 rfl rfl k rfl (by first | omega | decide | assumption) (by decide) dM_receive_513 (fun H locs hP hD hS => ?_)
                                      have hP : va_P (dC, dI) vcl (zm_W o ad cI cJ cZ 0 loc slw wst pk den (upd rch k ((rch k) + 1)) pol (upd ask k 0) xp (upd str k (pk 1)) (vp_updL rdl k ((zm_rd pk 4 4) * 65536)) (vp_updL rds k ((zm_rd pk 8 4) * 65536)) (va_up nn k 8) (vp_updL (zm_sft off (8 * k) 0) (8 * k) (zm_half ((zm_rd pk 32 8) - (xp k)) ((zm_rd pk 40 8) - loc))) (vp_updL (zm_sft del (8 * k) 0) (8 * k) dly9) (vp_updL (zm_sft cam (8 * k) 0) (8 * k) loc) ins low high) H := (by have h9 := hP; rw [zm_up8] at h9; exact h9)
                                      have hD : va_D A (zm_W o ad cI cJ cZ 0 loc slw wst pk den (upd rch k ((rch k) + 1)) pol (upd ask k 0) xp (upd str k (pk 1)) (vp_updL rdl k ((zm_rd pk 4 4) * 65536)) (vp_updL rds k ((zm_rd pk 8 4) * 65536)) (va_up nn k 8) (vp_updL (zm_sft off (8 * k) 0) (8 * k) (zm_half ((zm_rd pk 32 8) - (xp k)) ((zm_rd pk 40 8) - loc))) (vp_updL (zm_sft del (8 * k) 0) (8 * k) dly9) (vp_updL (zm_sft cam (8 * k) 0) (8 * k) loc) ins low high) := (by have h9 := hD; rw [zm_up8] at h9; exact h9)
                                      refine lv_iconst (v := 0) hx hb dM_receive_514 (by decide) ?_
                                      exact zq_iret hx hb hr hlocks dM_receive_515 (rfl) hAe (by rw [show upd rch k (zm_odd (rch k)) = upd rch k ((rch k) + 1) from congrArg (upd rch k) (if_pos h14)]; rw [show va_up nn k (zs_c8 (nn k)) = va_up nn k 8 from congrArg (va_up nn k) (if_neg h16n)]; rw [show zm_push off k (zm_half ((zm_rd pk 32 8) - (xp k)) ((zm_rd pk 40 8) - loc)) = vp_updL (zm_sft off (8 * k) 0) (8 * k) (zm_half ((zm_rd pk 32 8) - (xp k)) ((zm_rd pk 40 8) - loc)) from rfl]; rw [show zm_push del k (zm_dly ((loc - (xp k)) - ((zm_rd pk 40 8) - (zm_rd pk 32 8)))) = vp_updL (zm_sft del (8 * k) 0) (8 * k) dly9 from congrArg (fun z => vp_updL (zm_sft del (8 * k) 0) (8 * k) z) ((if_neg h10).trans hdly.symm)]; rw [show zm_push cam k loc = vp_updL (zm_sft cam (8 * k) 0) (8 * k) loc from rfl]; exact hP) (by rw [show upd rch k (zm_odd (rch k)) = upd rch k ((rch k) + 1) from congrArg (upd rch k) (if_pos h14)]; rw [show va_up nn k (zs_c8 (nn k)) = va_up nn k 8 from congrArg (va_up nn k) (if_neg h16n)]; rw [show zm_push off k (zm_half ((zm_rd pk 32 8) - (xp k)) ((zm_rd pk 40 8) - loc)) = vp_updL (zm_sft off (8 * k) 0) (8 * k) (zm_half ((zm_rd pk 32 8) - (xp k)) ((zm_rd pk 40 8) - loc)) from rfl]; rw [show zm_push del k (zm_dly ((loc - (xp k)) - ((zm_rd pk 40 8) - (zm_rd pk 32 8)))) = vp_updL (zm_sft del (8 * k) 0) (8 * k) dly9 from congrArg (fun z => vp_updL (zm_sft del (8 * k) 0) (8 * k) z) ((if_neg h10).trans hdly.symm)]; rw [show zm_push cam k loc = vp_updL (zm_sft cam (8 * k) 0) (8 * k) loc from rfl]; exact hD) hS
                                    · have h16n := (zz_ltN (a := (nn k)) (b := 8) rfl rfl (by omega) (by omega)).mp h16
                                      refine lv_aload_n hx hb dM_receive_500 rfl (lv_at hl 0 rfl) ?_
                                      refine zz_getM hx hb hT hown hK hP 0 rfl 13 (by decide) tw_630 rfl dM_receive_501 ?_
                                      refine lv_iload_n hx hb dM_receive_504 rfl (lv_at hl 1 rfl) ?_
                                      refine zz_iald hx hb hK hP 10 1 rfl rfl k rfl (by first | omega | decide | assumption) (by decide) dM_receive_505 ?_
                                      refine lv_iconst (v := 1) hx hb dM_receive_506 (by decide) ?_
                                      refine lv_iadd hx hb dM_receive_507 ?_
                                      refine zz_ti (y := nI (nn k + 1)) ((nI_succ _).symm) ?_
                                      refine lv_goto (tgt := 513) hx hb dM_receive_508 (by decide) ?_
                                      refine zq_iast hx hb hK hP hD hS 10 1 rfl rfl k rfl (by first | omega | decide | assumption) (by decide) dM_receive_513 (fun H locs hP hD hS => ?_)
                                      have hP : va_P (dC, dI) vcl (zm_W o ad cI cJ cZ 0 loc slw wst pk den (upd rch k ((rch k) + 1)) pol (upd ask k 0) xp (upd str k (pk 1)) (vp_updL rdl k ((zm_rd pk 4 4) * 65536)) (vp_updL rds k ((zm_rd pk 8 4) * 65536)) (va_up nn k (nn k + 1)) (vp_updL (zm_sft off (8 * k) 0) (8 * k) (zm_half ((zm_rd pk 32 8) - (xp k)) ((zm_rd pk 40 8) - loc))) (vp_updL (zm_sft del (8 * k) 0) (8 * k) dly9) (vp_updL (zm_sft cam (8 * k) 0) (8 * k) loc) ins low high) H := (by have h9 := hP; rw [zm_upn] at h9; exact h9)
                                      have hD : va_D A (zm_W o ad cI cJ cZ 0 loc slw wst pk den (upd rch k ((rch k) + 1)) pol (upd ask k 0) xp (upd str k (pk 1)) (vp_updL rdl k ((zm_rd pk 4 4) * 65536)) (vp_updL rds k ((zm_rd pk 8 4) * 65536)) (va_up nn k (nn k + 1)) (vp_updL (zm_sft off (8 * k) 0) (8 * k) (zm_half ((zm_rd pk 32 8) - (xp k)) ((zm_rd pk 40 8) - loc))) (vp_updL (zm_sft del (8 * k) 0) (8 * k) dly9) (vp_updL (zm_sft cam (8 * k) 0) (8 * k) loc) ins low high) := (by have h9 := hD; rw [zm_upn] at h9; exact h9)
                                      refine lv_iconst (v := 0) hx hb dM_receive_514 (by decide) ?_
                                      exact zq_iret hx hb hr hlocks dM_receive_515 (rfl) hAe (by rw [show upd rch k (zm_odd (rch k)) = upd rch k ((rch k) + 1) from congrArg (upd rch k) (if_pos h14)]; rw [show va_up nn k (zs_c8 (nn k)) = va_up nn k (nn k + 1) from congrArg (va_up nn k) (if_pos h16n)]; rw [show zm_push off k (zm_half ((zm_rd pk 32 8) - (xp k)) ((zm_rd pk 40 8) - loc)) = vp_updL (zm_sft off (8 * k) 0) (8 * k) (zm_half ((zm_rd pk 32 8) - (xp k)) ((zm_rd pk 40 8) - loc)) from rfl]; rw [show zm_push del k (zm_dly ((loc - (xp k)) - ((zm_rd pk 40 8) - (zm_rd pk 32 8)))) = vp_updL (zm_sft del (8 * k) 0) (8 * k) dly9 from congrArg (fun z => vp_updL (zm_sft del (8 * k) 0) (8 * k) z) ((if_neg h10).trans hdly.symm)]; rw [show zm_push cam k loc = vp_updL (zm_sft cam (8 * k) 0) (8 * k) loc from rfl]; exact hP) (by rw [show upd rch k (zm_odd (rch k)) = upd rch k ((rch k) + 1) from congrArg (upd rch k) (if_pos h14)]; rw [show va_up nn k (zs_c8 (nn k)) = va_up nn k (nn k + 1) from congrArg (va_up nn k) (if_pos h16n)]; rw [show zm_push off k (zm_half ((zm_rd pk 32 8) - (xp k)) ((zm_rd pk 40 8) - loc)) = vp_updL (zm_sft off (8 * k) 0) (8 * k) (zm_half ((zm_rd pk 32 8) - (xp k)) ((zm_rd pk 40 8) - loc)) from rfl]; rw [show zm_push del k (zm_dly ((loc - (xp k)) - ((zm_rd pk 40 8) - (zm_rd pk 32 8)))) = vp_updL (zm_sft del (8 * k) 0) (8 * k) dly9 from congrArg (fun z => vp_updL (zm_sft del (8 * k) 0) (8 * k) z) ((if_neg h10).trans hdly.symm)]; rw [show zm_push cam k loc = vp_updL (zm_sft cam (8 * k) 0) (8 * k) loc from rfl]; exact hD) hS
                                  · have hl : lv_has ls 16 [(0, .ref o), (1, .int (nI k)), (9, .long (zm_half ((zm_rd pk 32 8) - (xp k)) ((zm_rd pk 40 8) - loc))), (11, .long dly9), (15, .int (nI (i + 1)))] := hl
                                    refine lv_iload hx hb dM_receive_360 (lv_at hl 4 rfl) ?_
                                    refine zz_zle (tgt := 449) hx hb dM_receive_362 (by decide) (fun h => absurd ((zz_ltN (a := 0) (b := (i + 1)) rfl rfl (by omega) (by omega)).mpr (by omega)) h) (fun _ => ?_)
                                    refine lv_aload_n hx hb dM_receive_365 rfl (lv_at hl 0 rfl) ?_
                                    refine zz_getM hx hb hT hown hK hP 0 rfl 14 (by decide) tw_631 rfl dM_receive_366 ?_
                                    refine lv_bipush (v := 8) hx hb dM_receive_369 (by decide) ?_
                                    refine lv_iload_n hx hb dM_receive_371 rfl (lv_at hl 1 rfl) ?_
                                    refine lv_imul hx hb dM_receive_372 ?_
                                    refine zz_ti (y := nI (8 * k)) (pk_mul 8 k) ?_
                                    refine lv_iload hx hb dM_receive_373 (lv_at hl 4 rfl) ?_
                                    refine lv_iadd hx hb dM_receive_375 ?_
                                    refine zz_ti (y := nI (8 * k + (i + 1))) (nI_add _ _) ?_
                                    refine lv_aload_n hx hb dM_receive_376 rfl (lv_at hl 0 rfl) ?_
                                    refine zz_getM hx hb hT hown hK hP 0 rfl 14 (by decide) tw_631 rfl dM_receive_377 ?_
                                    refine lv_bipush (v := 8) hx hb dM_receive_380 (by decide) ?_
                                    refine lv_iload_n hx hb dM_receive_382 rfl (lv_at hl 1 rfl) ?_
                                    refine lv_imul hx hb dM_receive_383 ?_
                                    refine zz_ti (y := nI (8 * k)) (pk_mul 8 k) ?_
                                    refine lv_iload hx hb dM_receive_384 (lv_at hl 4 rfl) ?_
                                    refine lv_iadd hx hb dM_receive_386 ?_
                                    refine zz_ti (y := nI (8 * k + (i + 1))) (nI_add _ _) ?_
                                    refine lv_iconst (v := 1) hx hb dM_receive_387 (by decide) ?_
                                    refine lv_isub hx hb dM_receive_388 ?_
                                    refine zz_ti (y := nI (8 * k + i)) (nI_pred _) ?_
                                    refine zz_lald hx hb hK hP 11 0 rfl rfl (8 * k + i) rfl (by first | omega | decide | assumption) (by decide) dM_receive_389 ?_
                                    refine zq_last hx hb hK hP hD hS 11 0 rfl rfl (8 * k + (i + 1)) rfl (by first | omega | decide | assumption) (by decide) dM_receive_390 (fun H locs hP hD hS => ?_)
                                    have hP : va_P (dC, dI) vcl (zm_W o ad cI cJ cZ 0 loc slw wst pk den (upd rch k ((rch k) + 1)) pol (upd ask k 0) xp (upd str k (pk 1)) (vp_updL rdl k ((zm_rd pk 4 4) * 65536)) (vp_updL rds k ((zm_rd pk 8 4) * 65536)) nn (vp_updL (zm_sft off (8 * k) (i + 1)) (8 * k + (i + 1)) ((zm_sft off (8 * k) (i + 1)) (8 * k + i))) (zm_sft del (8 * k) (i + 1)) (zm_sft cam (8 * k) (i + 1)) ins low high) H := hP
                                    have hD : va_D A (zm_W o ad cI cJ cZ 0 loc slw wst pk den (upd rch k ((rch k) + 1)) pol (upd ask k 0) xp (upd str k (pk 1)) (vp_updL rdl k ((zm_rd pk 4 4) * 65536)) (vp_updL rds k ((zm_rd pk 8 4) * 65536)) nn (vp_updL (zm_sft off (8 * k) (i + 1)) (8 * k + (i + 1)) ((zm_sft off (8 * k) (i + 1)) (8 * k + i))) (zm_sft del (8 * k) (i + 1)) (zm_sft cam (8 * k) (i + 1)) ins low high) := hD
                                    refine lv_aload_n hx hb dM_receive_391 rfl (lv_at hl 0 rfl) ?_
                                    refine zz_getM hx hb hT hown hK hP 0 rfl 15 (by decide) tw_632 rfl dM_receive_392 ?_
                                    refine lv_bipush (v := 8) hx hb dM_receive_395 (by decide) ?_
                                    refine lv_iload_n hx hb dM_receive_397 rfl (lv_at hl 1 rfl) ?_
                                    refine lv_imul hx hb dM_receive_398 ?_
                                    refine zz_ti (y := nI (8 * k)) (pk_mul 8 k) ?_
                                    refine lv_iload hx hb dM_receive_399 (lv_at hl 4 rfl) ?_
                                    refine lv_iadd hx hb dM_receive_401 ?_
                                    refine zz_ti (y := nI (8 * k + (i + 1))) (nI_add _ _) ?_
                                    refine lv_aload_n hx hb dM_receive_402 rfl (lv_at hl 0 rfl) ?_
                                    refine zz_getM hx hb hT hown hK hP 0 rfl 15 (by decide) tw_632 rfl dM_receive_403 ?_
                                    refine lv_bipush (v := 8) hx hb dM_receive_406 (by decide) ?_
                                    refine lv_iload_n hx hb dM_receive_408 rfl (lv_at hl 1 rfl) ?_
                                    refine lv_imul hx hb dM_receive_409 ?_
                                    refine zz_ti (y := nI (8 * k)) (pk_mul 8 k) ?_
                                    refine lv_iload hx hb dM_receive_410 (lv_at hl 4 rfl) ?_
                                    refine lv_iadd hx hb dM_receive_412 ?_
                                    refine zz_ti (y := nI (8 * k + (i + 1))) (nI_add _ _) ?_
                                    refine lv_iconst (v := 1) hx hb dM_receive_413 (by decide) ?_
                                    refine lv_isub hx hb dM_receive_414 ?_
                                    refine zz_ti (y := nI (8 * k + i)) (nI_pred _) ?_
                                    refine zz_lald hx hb hK hP 12 0 rfl rfl (8 * k + i) rfl (by first | omega | decide | assumption) (by decide) dM_receive_415 ?_
                                    refine zq_last hx hb hK hP hD hS 12 0 rfl rfl (8 * k + (i + 1)) rfl (by first | omega | decide | assumption) (by decide) dM_receive_416 (fun H locs hP hD hS => ?_)
                                    have hP : va_P (dC, dI) vcl (zm_W o ad cI cJ cZ 0 loc slw wst pk den (upd rch k ((rch k) + 1)) pol (upd ask k 0) xp (upd str k (pk 1)) (vp_updL rdl k ((zm_rd pk 4 4) * 65536)) (vp_updL rds k ((zm_rd pk 8 4) * 65536)) nn (vp_updL (zm_sft off (8 * k) (i + 1)) (8 * k + (i + 1)) ((zm_sft off (8 * k) (i + 1)) (8 * k + i))) (vp_updL (zm_sft del (8 * k) (i + 1)) (8 * k + (i + 1)) ((zm_sft del (8 * k) (i + 1)) (8 * k + i))) (zm_sft cam (8 * k) (i + 1)) ins low high) H := hP
                                    have hD : va_D A (zm_W o ad cI cJ cZ 0 loc slw wst pk den (upd rch k ((rch k) + 1)) pol (upd ask k 0) xp (upd str k (pk 1)) (vp_updL rdl k ((zm_rd pk 4 4) * 65536)) (vp_updL rds k ((zm_rd pk 8 4) * 65536)) nn (vp_updL (zm_sft off (8 * k) (i + 1)) (8 * k + (i + 1)) ((zm_sft off (8 * k) (i + 1)) (8 * k + i))) (vp_updL (zm_sft del (8 * k) (i + 1)) (8 * k + (i + 1)) ((zm_sft del (8 * k) (i + 1)) (8 * k + i))) (zm_sft cam (8 * k) (i + 1)) ins low high) := hD
                                    refine lv_aload_n hx hb dM_receive_417 rfl (lv_at hl 0 rfl) ?_
                                    refine zz_getM hx hb hT hown hK hP 0 rfl 16 (by decide) tw_633 rfl dM_receive_418 ?_
                                    refine lv_bipush (v := 8) hx hb dM_receive_421 (by decide) ?_
                                    refine lv_iload_n hx hb dM_receive_423 rfl (lv_at hl 1 rfl) ?_
                                    refine lv_imul hx hb dM_receive_424 ?_
                                    refine zz_ti (y := nI (8 * k)) (pk_mul 8 k) ?_
                                    refine lv_iload hx hb dM_receive_425 (lv_at hl 4 rfl) ?_
                                    refine lv_iadd hx hb dM_receive_427 ?_
                                    refine zz_ti (y := nI (8 * k + (i + 1))) (nI_add _ _) ?_
                                    refine lv_aload_n hx hb dM_receive_428 rfl (lv_at hl 0 rfl) ?_
                                    refine zz_getM hx hb hT hown hK hP 0 rfl 16 (by decide) tw_633 rfl dM_receive_429 ?_
                                    refine lv_bipush (v := 8) hx hb dM_receive_432 (by decide) ?_
                                    refine lv_iload_n hx hb dM_receive_434 rfl (lv_at hl 1 rfl) ?_
                                    refine lv_imul hx hb dM_receive_435 ?_
                                    refine zz_ti (y := nI (8 * k)) (pk_mul 8 k) ?_
                                    refine lv_iload hx hb dM_receive_436 (lv_at hl 4 rfl) ?_
                                    refine lv_iadd hx hb dM_receive_438 ?_
                                    refine zz_ti (y := nI (8 * k + (i + 1))) (nI_add _ _) ?_
                                    refine lv_iconst (v := 1) hx hb dM_receive_439 (by decide) ?_
                                    refine lv_isub hx hb dM_receive_440 ?_
                                    refine zz_ti (y := nI (8 * k + i)) (nI_pred _) ?_
                                    refine zz_lald hx hb hK hP 13 0 rfl rfl (8 * k + i) rfl (by first | omega | decide | assumption) (by decide) dM_receive_441 ?_
                                    refine zq_last hx hb hK hP hD hS 13 0 rfl rfl (8 * k + (i + 1)) rfl (by first | omega | decide | assumption) (by decide) dM_receive_442 (fun H locs hP hD hS => ?_)
                                    have hP : va_P (dC, dI) vcl (zm_W o ad cI cJ cZ 0 loc slw wst pk den (upd rch k ((rch k) + 1)) pol (upd ask k 0) xp (upd str k (pk 1)) (vp_updL rdl k ((zm_rd pk 4 4) * 65536)) (vp_updL rds k ((zm_rd pk 8 4) * 65536)) nn (vp_updL (zm_sft off (8 * k) (i + 1)) (8 * k + (i + 1)) ((zm_sft off (8 * k) (i + 1)) (8 * k + i))) (vp_updL (zm_sft del (8 * k) (i + 1)) (8 * k + (i + 1)) ((zm_sft del (8 * k) (i + 1)) (8 * k + i))) (vp_updL (zm_sft cam (8 * k) (i + 1)) (8 * k + (i + 1)) ((zm_sft cam (8 * k) (i + 1)) (8 * k + i))) ins low high) H := hP
                                    have hD : va_D A (zm_W o ad cI cJ cZ 0 loc slw wst pk den (upd rch k ((rch k) + 1)) pol (upd ask k 0) xp (upd str k (pk 1)) (vp_updL rdl k ((zm_rd pk 4 4) * 65536)) (vp_updL rds k ((zm_rd pk 8 4) * 65536)) nn (vp_updL (zm_sft off (8 * k) (i + 1)) (8 * k + (i + 1)) ((zm_sft off (8 * k) (i + 1)) (8 * k + i))) (vp_updL (zm_sft del (8 * k) (i + 1)) (8 * k + (i + 1)) ((zm_sft del (8 * k) (i + 1)) (8 * k + i))) (vp_updL (zm_sft cam (8 * k) (i + 1)) (8 * k + (i + 1)) ((zm_sft cam (8 * k) (i + 1)) (8 * k + i))) ins low high) := hD
                                    refine lv_iinc (k := 4) (v := nI i) (lv' := [(15, .int (nI i)), (0, .ref o), (1, .int (nI k)), (9, .long (zm_half ((zm_rd pk 32 8) - (xp k)) ((zm_rd pk 40 8) - loc))), (11, .long dly9)]) hx hb dM_receive_443 hl rfl (pk_m1 _) (by decide) rfl (fun ls hl => ?_)
                                    refine lv_goto (tgt := 360) hx hb dM_receive_446 (by decide) ?_
                                    exact ih_lp i _ _ (by omega) (by omega) (by rw [show zm_sft off (8 * k) i = vp_updL (zm_sft off (8 * k) (i + 1)) (8 * k + (i + 1)) ((zm_sft off (8 * k) (i + 1)) (8 * k + i)) from zm_sft_s _ _ (by omega)]; rw [show zm_sft del (8 * k) i = vp_updL (zm_sft del (8 * k) (i + 1)) (8 * k + (i + 1)) ((zm_sft del (8 * k) (i + 1)) (8 * k + i)) from zm_sft_s _ _ (by omega)]; rw [show zm_sft cam (8 * k) i = vp_updL (zm_sft cam (8 * k) (i + 1)) (8 * k + (i + 1)) ((zm_sft cam (8 * k) (i + 1)) (8 * k + i)) from zm_sft_s _ _ (by omega)]; exact hP) (by rw [show zm_sft off (8 * k) i = vp_updL (zm_sft off (8 * k) (i + 1)) (8 * k + (i + 1)) ((zm_sft off (8 * k) (i + 1)) (8 * k + i)) from zm_sft_s _ _ (by omega)]; rw [show zm_sft del (8 * k) i = vp_updL (zm_sft del (8 * k) (i + 1)) (8 * k + (i + 1)) ((zm_sft del (8 * k) (i + 1)) (8 * k + i)) from zm_sft_s _ _ (by omega)]; rw [show zm_sft cam (8 * k) i = vp_updL (zm_sft cam (8 * k) (i + 1)) (8 * k + (i + 1)) ((zm_sft cam (8 * k) (i + 1)) (8 * k + i)) from zm_sft_s _ _ (by omega)]; exact hD) hS _ (lv_sub hl [1, 2, 3, 4, 0] rfl)
                              exact lp (7 + 1) 7 _ _ (by omega) (Nat.le_refl _) (by rw [show zm_sft off (8 * k) 7 = off from zm_sft_7 _ _]; rw [show zm_sft del (8 * k) 7 = del from zm_sft_7 _ _]; rw [show zm_sft cam (8 * k) 7 = cam from zm_sft_7 _ _]; exact hP) (by rw [show zm_sft off (8 * k) 7 = off from zm_sft_7 _ _]; rw [show zm_sft del (8 * k) 7 = del from zm_sft_7 _ _]; rw [show zm_sft cam (8 * k) 7 = cam from zm_sft_7 _ _]; exact hD) hS _ (by rw [show nI 7 = 7 from rfl]; exact lv_sub hl [8, 9, 3, 2, 0] rfl)
                          · exact absurd (Or.inr (Or.inr h13)) hwi
                    · refine lv_ldc2 (own := RM) (v := 4096) hx hb hown (hT.w tw_736) dM_receive_235 ?_
                      refine lv_goto (tgt := 243) hx hb dM_receive_238 (by decide) ?_
                      refine lv_lstore (lv' := [(11, .long 4096), (9, .long (zm_half ((zm_rd pk 32 8) - (xp k)) ((zm_rd pk 40 8) - loc))), (7, .long (zm_rd pk 40 8)), (5, .long (zm_rd pk 32 8)), (3, .long (xp k)), (2, .int 1), (0, .ref o), (1, .int (nI k))]) hx hb dM_receive_243 hl (by decide) rfl (fun ls hl => ?_)
                      rw [show zm_dly ((loc - (xp k)) - ((zm_rd pk 40 8) - (zm_rd pk 32 8))) = 4096 from if_pos h10] at hwi
                      obtain ⟨dly9, hdly⟩ : ∃ z : Int64, z = 4096 := ⟨_, rfl⟩
                      rw [← hdly] at hwi
                      have hl : lv_has ls 16 [(11, .long dly9), (9, .long (zm_half ((zm_rd pk 32 8) - (xp k)) ((zm_rd pk 40 8) - loc))), (7, .long (zm_rd pk 40 8)), (5, .long (zm_rd pk 32 8)), (3, .long (xp k)), (2, .int 1), (0, .ref o), (1, .int (nI k))] := by rw [hdly]; exact hl
                      refine lv_ldc2 (own := RM) (v := 1152921504606846976) hx hb hown (hT.w tw_737) dM_receive_245 ?_
                      refine lv_lstore (lv' := [(13, .long 1152921504606846976), (11, .long dly9), (9, .long (zm_half ((zm_rd pk 32 8) - (xp k)) ((zm_rd pk 40 8) - loc))), (7, .long (zm_rd pk 40 8)), (5, .long (zm_rd pk 32 8)), (3, .long (xp k)), (2, .int 1), (0, .ref o), (1, .int (nI k))]) hx hb dM_receive_248 hl (by decide) rfl (fun ls hl => ?_)
                      refine lv_lload hx hb dM_receive_250 (lv_at hl 2 rfl) ?_
                      refine lv_lload hx hb dM_receive_252 (lv_at hl 0 rfl) ?_
                      refine lv_lneg hx hb dM_receive_254 ?_
                      refine zz_llt (tgt := 275) hx hb dM_receive_255 dM_receive_256 (by decide) (fun h17 => ?_) (fun h17 => ?_)
                      · exact absurd (Or.inl h17) hwi
                      · refine lv_lload hx hb dM_receive_259 (lv_at hl 2 rfl) ?_
                        refine lv_lload hx hb dM_receive_261 (lv_at hl 0 rfl) ?_
                        refine zz_lgt (tgt := 275) hx hb dM_receive_263 dM_receive_264 (by decide) (fun h18 => ?_) (fun h18 => ?_)
                        · exact absurd (Or.inr (Or.inl h18)) hwi
                        · refine lv_lload hx hb dM_receive_267 (lv_at hl 1 rfl) ?_
                          refine lv_lload hx hb dM_receive_269 (lv_at hl 0 rfl) ?_
                          refine zz_lle (tgt := 277) hx hb dM_receive_271 dM_receive_272 (by decide) (fun h19 => ?_) (fun h19 => ?_)
                          · refine lv_aload_n hx hb dM_receive_277 rfl (lv_at hl 7 rfl) ?_
                            refine zz_getM hx hb hT hown hK hP 0 rfl 10 (by decide) tw_627 rfl dM_receive_278 ?_
                            refine lv_iload_n hx hb dM_receive_281 rfl (lv_at hl 8 rfl) ?_
                            refine lv_aload_n hx hb dM_receive_282 rfl (lv_at hl 7 rfl) ?_
                            refine zz_getM hx hb hT hown hK hP 0 rfl 4 (by decide) tw_621 rfl dM_receive_283 ?_
                            refine lv_iconst (v := 1) hx hb dM_receive_286 (by decide) ?_
                            refine zz_iald hx hb hK hP 1 1 rfl rfl 1 rfl (by first | omega | decide | assumption) (by decide) dM_receive_287 ?_
                            refine zq_iast hx hb hK hP hD hS 7 1 rfl rfl k rfl (by first | omega | decide | assumption) (by decide) dM_receive_288 (fun H locs hP hD hS => ?_)
                            have hP : va_P (dC, dI) vcl (zm_W o ad cI cJ cZ 0 loc slw wst pk den rch pol (upd ask k 0) xp (upd str k (pk 1)) rdl rds nn off del cam ins low high) H := hP
                            have hD : va_D A (zm_W o ad cI cJ cZ 0 loc slw wst pk den rch pol (upd ask k 0) xp (upd str k (pk 1)) rdl rds nn off del cam ins low high) := hD
                            refine lv_aload_n hx hb dM_receive_289 rfl (lv_at hl 7 rfl) ?_
                            refine zz_getM hx hb hT hown hK hP 0 rfl 11 (by decide) tw_628 rfl dM_receive_290 ?_
                            refine lv_iload_n hx hb dM_receive_293 rfl (lv_at hl 8 rfl) ?_
                            refine lv_aload_n hx hb dM_receive_294 rfl (lv_at hl 7 rfl) ?_
                            refine lv_iconst (v := 4) hx hb dM_receive_295 (by decide) ?_
                            refine lv_iconst (v := 4) hx hb dM_receive_296 (by decide) ?_
                            refine zz_call (va_runV (Ts := []) (As := [.int 4, .int 4]) (own := RM) ⟨hx, hb, hml, hown, fun _ h => nomatch h⟩ (ct_M_read l (u := 4) (n := 4) (by first | decide | omega)) (zt_cv hT tc_M_read tv_M_read tw_722 ⟨Nat.le_of_ble_eq_true rfl, Nat.le_of_ble_eq_true rfl⟩) (zz_preV (q0 := 0) hT hP hK rfl rfl) rfl rfl hl.1 rfl (lv_room (Nat.le_of_ble_eq_true rfl)) dM_receive_297 ⟨Nat.zero_le _, Nat.zero_le _⟩) ?_
                            refine lv_ldc2 (own := RM) (v := 65536) hx hb hown (hT.w tw_738) dM_receive_300 ?_
                            refine lv_lmul hx hb dM_receive_303 ?_
                            refine zq_last hx hb hK hP hD hS 8 0 rfl rfl k rfl (by first | omega | decide | assumption) (by decide) dM_receive_304 (fun H locs hP hD hS => ?_)
                            have hP : va_P (dC, dI) vcl (zm_W o ad cI cJ cZ 0 loc slw wst pk den rch pol (upd ask k 0) xp (upd str k (pk 1)) (vp_updL rdl k ((zm_rd pk 4 4) * 65536)) rds nn off del cam ins low high) H := hP
                            have hD : va_D A (zm_W o ad cI cJ cZ 0 loc slw wst pk den rch pol (upd ask k 0) xp (upd str k (pk 1)) (vp_updL rdl k ((zm_rd pk 4 4) * 65536)) rds nn off del cam ins low high) := hD
                            refine lv_aload_n hx hb dM_receive_305 rfl (lv_at hl 7 rfl) ?_
                            refine zz_getM hx hb hT hown hK hP 0 rfl 12 (by decide) tw_629 rfl dM_receive_306 ?_
                            refine lv_iload_n hx hb dM_receive_309 rfl (lv_at hl 8 rfl) ?_
                            refine lv_aload_n hx hb dM_receive_310 rfl (lv_at hl 7 rfl) ?_
                            refine lv_bipush (v := 8) hx hb dM_receive_311 (by decide) ?_
                            refine lv_iconst (v := 4) hx hb dM_receive_313 (by decide) ?_
                            refine zz_call (va_runV (Ts := []) (As := [.int 8, .int 4]) (own := RM) ⟨hx, hb, hml, hown, fun _ h => nomatch h⟩ (ct_M_read l (u := 8) (n := 4) (by first | decide | omega)) (zt_cv hT tc_M_read tv_M_read tw_722 ⟨Nat.le_of_ble_eq_true rfl, Nat.le_of_ble_eq_true rfl⟩) (zz_preV (q0 := 0) hT hP hK rfl rfl) rfl rfl hl.1 rfl (lv_room (Nat.le_of_ble_eq_true rfl)) dM_receive_314 ⟨Nat.zero_le _, Nat.zero_le _⟩) ?_
                            refine lv_ldc2 (own := RM) (v := 65536) hx hb hown (hT.w tw_738) dM_receive_317 ?_
                            refine lv_lmul hx hb dM_receive_320 ?_
                            refine zq_last hx hb hK hP hD hS 9 0 rfl rfl k rfl (by first | omega | decide | assumption) (by decide) dM_receive_321 (fun H locs hP hD hS => ?_)
                            have hP : va_P (dC, dI) vcl (zm_W o ad cI cJ cZ 0 loc slw wst pk den rch pol (upd ask k 0) xp (upd str k (pk 1)) (vp_updL rdl k ((zm_rd pk 4 4) * 65536)) (vp_updL rds k ((zm_rd pk 8 4) * 65536)) nn off del cam ins low high) H := hP
                            have hD : va_D A (zm_W o ad cI cJ cZ 0 loc slw wst pk den rch pol (upd ask k 0) xp (upd str k (pk 1)) (vp_updL rdl k ((zm_rd pk 4 4) * 65536)) (vp_updL rds k ((zm_rd pk 8 4) * 65536)) nn off del cam ins low high) := hD
                            refine lv_aload_n hx hb dM_receive_322 rfl (lv_at hl 7 rfl) ?_
                            refine zz_getM hx hb hT hown hK hP 0 rfl 6 (by decide) tw_623 rfl dM_receive_323 ?_
                            refine lv_iload_n hx hb dM_receive_326 rfl (lv_at hl 8 rfl) ?_
                            refine lv_aload_n hx hb dM_receive_327 rfl (lv_at hl 7 rfl) ?_
                            refine zz_getM hx hb hT hown hK hP 0 rfl 6 (by decide) tw_623 rfl dM_receive_328 ?_
                            refine lv_iload_n hx hb dM_receive_331 rfl (lv_at hl 8 rfl) ?_
                            refine zz_iald hx hb hK hP 3 1 rfl rfl k rfl (by first | omega | decide | assumption) (by decide) dM_receive_332 ?_
                            refine lv_iconst (v := 2) hx hb dM_receive_333 (by decide) ?_
                            refine lv_irem hx hb dM_receive_334 (by decide) ?_
                            refine zz_zne (tgt := 349) hx hb dM_receive_335 (by decide) (fun h20 => ?_) (fun h20 => ?_)
                            · refine lv_aload_n hx hb dM_receive_349 rfl (lv_at hl 7 rfl) ?_
                              refine zz_getM hx hb hT hown hK hP 0 rfl 6 (by decide) tw_623 rfl dM_receive_350 ?_
                              refine lv_iload_n hx hb dM_receive_353 rfl (lv_at hl 8 rfl) ?_
                              refine zz_iald hx hb hK hP 3 1 rfl rfl k rfl (by first | omega | decide | assumption) (by decide) dM_receive_354 ?_
                              refine zq_iast hx hb hK hP hD hS 3 1 rfl rfl k rfl (by first | omega | decide | assumption) (by decide) dM_receive_355 (fun H locs hP hD hS => ?_)
                              have hP : va_P (dC, dI) vcl (zm_W o ad cI cJ cZ 0 loc slw wst pk den (upd rch k (rch k)) pol (upd ask k 0) xp (upd str k (pk 1)) (vp_updL rdl k ((zm_rd pk 4 4) * 65536)) (vp_updL rds k ((zm_rd pk 8 4) * 65536)) nn off del cam ins low high) H := hP
                              have hD : va_D A (zm_W o ad cI cJ cZ 0 loc slw wst pk den (upd rch k (rch k)) pol (upd ask k 0) xp (upd str k (pk 1)) (vp_updL rdl k ((zm_rd pk 4 4) * 65536)) (vp_updL rds k ((zm_rd pk 8 4) * 65536)) nn off del cam ins low high) := hD
                              refine lv_bipush (v := 7) hx hb dM_receive_356 (by decide) ?_
                              refine lv_istore (lv' := [(15, .int 7), (13, .long 1152921504606846976), (11, .long dly9), (9, .long (zm_half ((zm_rd pk 32 8) - (xp k)) ((zm_rd pk 40 8) - loc))), (7, .long (zm_rd pk 40 8)), (5, .long (zm_rd pk 32 8)), (3, .long (xp k)), (2, .int 1), (0, .ref o), (1, .int (nI k))]) hx hb dM_receive_358 hl (by decide) rfl (fun ls hl => ?_)
                              have lp : ∀ (k9 : Nat) (i : Nat) (H : Heap) (locs : List Loc), i < k9 → (i ≤ 7) → va_P (dC, dI) vcl (zm_W o ad cI cJ cZ 0 loc slw wst pk den (upd rch k (rch k)) pol (upd ask k 0) xp (upd str k (pk 1)) (vp_updL rdl k ((zm_rd pk 4 4) * 65536)) (vp_updL rds k ((zm_rd pk 8 4) * 65536)) nn (zm_sft off (8 * k) i) (zm_sft del (8 * k) i) (zm_sft cam (8 * k) i) ins low high) H → va_D A (zm_W o ad cI cJ cZ 0 loc slw wst pk den (upd rch k (rch k)) pol (upd ask k 0) xp (upd str k (pk 1)) (vp_updL rdl k ((zm_rd pk 4 4) * 65536)) (vp_updL rds k ((zm_rd pk 8 4) * 65536)) nn (zm_sft off (8 * k) i) (zm_sft del (8 * k) i) (zm_sft cam (8 * k) i) ins low high) → va_S A s.heap H locs → ∀ ls : Array Slot, lv_has ls 16 [(0, .ref o), (1, .int (nI k)), (9, .long (zm_half ((zm_rd pk 32 8) - (xp k)) ((zm_rd pk 40 8) - loc))), (11, .long dly9), (15, .int (nI i))] → W p l e ({ frames := 2, cells := 0, slots := 0, locals := 48 } : Room) s m ([.ref o, .int (nI k)] : List Value).toArray below meth c H locs 0 0 (MQ below (zq_Q (dC, dI) vcl (some (.int 0)) (zm_W o ad cI cJ cZ thr loc slw wst pk den rch pol ask xp str rdl rds nn off del cam ins low high) (zm_W o ad cI cJ cZ 0 loc slw wst pk den (upd rch k (zm_odd (rch k))) pol (upd ask k 0) xp (upd str k (pk 1)) (vp_updL rdl k ((zm_rd pk 4 4) * 65536)) (vp_updL rds k ((zm_rd pk 8 4) * 65536)) (va_up nn k (zs_c8 (nn k))) (zm_push off k (zm_half ((zm_rd pk 32 8) - (xp k)) ((zm_rd pk 40 8) - loc))) (zm_push del k (zm_dly ((loc - (xp k)) - ((zm_rd pk 40 8) - (zm_rd pk 32 8))))) (zm_push cam k loc) ins low high) s.heap.size) ([.ref o, .int (nI k)] : List Value).toArray s 0 0 A) (F0 m 360 ls []) := by
                                intro k9
                                induction k9 with
                                | zero => intro i H locs hk9; exact absurd hk9 (Nat.not_lt_zero _)
                                | succ k9 ih_lp =>
                                  intro i H locs hk9 hi hP hD hS ls hl
                                  rcases i with _ | i
                                  · have hl : lv_has ls 16 [(0, .ref o), (1, .int (nI k)), (9, .long (zm_half ((zm_rd pk 32 8) - (xp k)) ((zm_rd pk 40 8) - loc))), (11, .long dly9), (15, .int 0)] := hl
                                    refine lv_iload hx hb dM_receive_360 (lv_at hl 4 rfl) ?_
                                    refine zz_zle (tgt := 449) hx hb dM_receive_362 (by decide) (fun _ => ?_) (fun h => absurd h (by decide))
                                    refine lv_aload_n hx hb dM_receive_449 rfl (lv_at hl 0 rfl) ?_
                                    refine zz_getM hx hb hT hown hK hP 0 rfl 14 (by decide) tw_631 rfl dM_receive_450 ?_
                                    refine lv_bipush (v := 8) hx hb dM_receive_453 (by decide) ?_
                                    refine lv_iload_n hx hb dM_receive_455 rfl (lv_at hl 1 rfl) ?_
                                    refine lv_imul hx hb dM_receive_456 ?_
                                    refine zz_ti (y := nI (8 * k)) (pk_mul 8 k) ?_
                                    refine lv_lload hx hb dM_receive_457 (lv_at hl 2 rfl) ?_
                                    refine zq_last hx hb hK hP hD hS 11 0 rfl rfl (8 * k) rfl (by first | omega | decide | assumption) (by decide) dM_receive_459 (fun H locs hP hD hS => ?_)
                                    have hP : va_P (dC, dI) vcl (zm_W o ad cI cJ cZ 0 loc slw wst pk den (upd rch k (rch k)) pol (upd ask k 0) xp (upd str k (pk 1)) (vp_updL rdl k ((zm_rd pk 4 4) * 65536)) (vp_updL rds k ((zm_rd pk 8 4) * 65536)) nn (vp_updL (zm_sft off (8 * k) 0) (8 * k) (zm_half ((zm_rd pk 32 8) - (xp k)) ((zm_rd pk 40 8) - loc))) (zm_sft del (8 * k) 0) (zm_sft cam (8 * k) 0) ins low high) H := hP
                                    have hD : va_D A (zm_W o ad cI cJ cZ 0 loc slw wst pk den (upd rch k (rch k)) pol (upd ask k 0) xp (upd str k (pk 1)) (vp_updL rdl k ((zm_rd pk 4 4) * 65536)) (vp_updL rds k ((zm_rd pk 8 4) * 65536)) nn (vp_updL (zm_sft off (8 * k) 0) (8 * k) (zm_half ((zm_rd pk 32 8) - (xp k)) ((zm_rd pk 40 8) - loc))) (zm_sft del (8 * k) 0) (zm_sft cam (8 * k) 0) ins low high) := hD
                                    refine lv_aload_n hx hb dM_receive_460 rfl (lv_at hl 0 rfl) ?_
                                    refine zz_getM hx hb hT hown hK hP 0 rfl 15 (by decide) tw_632 rfl dM_receive_461 ?_
                                    refine lv_bipush (v := 8) hx hb dM_receive_464 (by decide) ?_
                                    refine lv_iload_n hx hb dM_receive_466 rfl (lv_at hl 1 rfl) ?_
                                    refine lv_imul hx hb dM_receive_467 ?_
                                    refine zz_ti (y := nI (8 * k)) (pk_mul 8 k) ?_
                                    refine lv_lload hx hb dM_receive_468 (lv_at hl 3 rfl) ?_
                                    refine zq_last hx hb hK hP hD hS 12 0 rfl rfl (8 * k) rfl (by first | omega | decide | assumption) (by decide) dM_receive_470 (fun H locs hP hD hS => ?_)
                                    have hP : va_P (dC, dI) vcl (zm_W o ad cI cJ cZ 0 loc slw wst pk den (upd rch k (rch k)) pol (upd ask k 0) xp (upd str k (pk 1)) (vp_updL rdl k ((zm_rd pk 4 4) * 65536)) (vp_updL rds k ((zm_rd pk 8 4) * 65536)) nn (vp_updL (zm_sft off (8 * k) 0) (8 * k) (zm_half ((zm_rd pk 32 8) - (xp k)) ((zm_rd pk 40 8) - loc))) (vp_updL (zm_sft del (8 * k) 0) (8 * k) dly9) (zm_sft cam (8 * k) 0) ins low high) H := hP
                                    have hD : va_D A (zm_W o ad cI cJ cZ 0 loc slw wst pk den (upd rch k (rch k)) pol (upd ask k 0) xp (upd str k (pk 1)) (vp_updL rdl k ((zm_rd pk 4 4) * 65536)) (vp_updL rds k ((zm_rd pk 8 4) * 65536)) nn (vp_updL (zm_sft off (8 * k) 0) (8 * k) (zm_half ((zm_rd pk 32 8) - (xp k)) ((zm_rd pk 40 8) - loc))) (vp_updL (zm_sft del (8 * k) 0) (8 * k) dly9) (zm_sft cam (8 * k) 0) ins low high) := hD
                                    refine lv_aload_n hx hb dM_receive_471 rfl (lv_at hl 0 rfl) ?_
                                    refine zz_getM hx hb hT hown hK hP 0 rfl 16 (by decide) tw_633 rfl dM_receive_472 ?_
                                    refine lv_bipush (v := 8) hx hb dM_receive_475 (by decide) ?_
                                    refine lv_iload_n hx hb dM_receive_477 rfl (lv_at hl 1 rfl) ?_
                                    refine lv_imul hx hb dM_receive_478 ?_
                                    refine zz_ti (y := nI (8 * k)) (pk_mul 8 k) ?_
                                    refine lv_aload_n hx hb dM_receive_479 rfl (lv_at hl 0 rfl) ?_
                                    refine zz_getM hx hb hT hown hK hP 0 rfl 1 (by decide) tw_618 rfl dM_receive_480 ?_
                                    refine zq_last hx hb hK hP hD hS 13 0 rfl rfl (8 * k) rfl (by first | omega | decide | assumption) (by decide) dM_receive_483 (fun H locs hP hD hS => ?_)
                                    have hP : va_P (dC, dI) vcl (zm_W o ad cI cJ cZ 0 loc slw wst pk den (upd rch k (rch k)) pol (upd ask k 0) xp (upd str k (pk 1)) (vp_updL rdl k ((zm_rd pk 4 4) * 65536)) (vp_updL rds k ((zm_rd pk 8 4) * 65536)) nn (vp_updL (zm_sft off (8 * k) 0) (8 * k) (zm_half ((zm_rd pk 32 8) - (xp k)) ((zm_rd pk 40 8) - loc))) (vp_updL (zm_sft del (8 * k) 0) (8 * k) dly9) (vp_updL (zm_sft cam (8 * k) 0) (8 * k) loc) ins low high) H := hP
                                    have hD : va_D A (zm_W o ad cI cJ cZ 0 loc slw wst pk den (upd rch k (rch k)) pol (upd ask k 0) xp (upd str k (pk 1)) (vp_updL rdl k ((zm_rd pk 4 4) * 65536)) (vp_updL rds k ((zm_rd pk 8 4) * 65536)) nn (vp_updL (zm_sft off (8 * k) 0) (8 * k) (zm_half ((zm_rd pk 32 8) - (xp k)) ((zm_rd pk 40 8) - loc))) (vp_updL (zm_sft del (8 * k) 0) (8 * k) dly9) (vp_updL (zm_sft cam (8 * k) 0) (8 * k) loc) ins low high) := hD
                                    refine lv_aload_n hx hb dM_receive_484 rfl (lv_at hl 0 rfl) ?_
                                    refine zz_getM hx hb hT hown hK hP 0 rfl 13 (by decide) tw_630 rfl dM_receive_485 ?_
                                    refine lv_iload_n hx hb dM_receive_488 rfl (lv_at hl 1 rfl) ?_
                                    refine lv_aload_n hx hb dM_receive_489 rfl (lv_at hl 0 rfl) ?_
                                    refine zz_getM hx hb hT hown hK hP 0 rfl 13 (by decide) tw_630 rfl dM_receive_490 ?_
                                    refine lv_iload_n hx hb dM_receive_493 rfl (lv_at hl 1 rfl) ?_
                                    refine zz_iald hx hb hK hP 10 1 rfl rfl k rfl (by first | omega | decide | assumption) (by decide) dM_receive_494 ?_
                                    refine lv_bipush (v := 8) hx hb dM_receive_495 (by decide) ?_
                                    refine zz_ige (tgt := 511) hx hb dM_receive_497 (by decide) (fun h21 => ?_) (fun h21 => ?_)
                                    · have h21n := mt (zz_ltN (a := (nn k)) (b := 8) rfl rfl (by omega) (by omega)).mpr h21
                                      refine lv_bipush (v := 8) hx hb dM_receive_511 (by decide) ?_
                                      refine zq_iast hx hb hK hP hD hS 10 1 rfl rfl k rfl (by first | omega | decide | assumption) (by decide) dM_receive_513 (fun H locs hP hD hS => ?_)
                                      have hP : va_P (dC, dI) vcl (zm_W o ad cI cJ cZ 0 loc slw wst pk den (upd rch k (rch k)) pol (upd ask k 0) xp (upd str k (pk 1)) (vp_updL rdl k ((zm_rd pk 4 4) * 65536)) (vp_updL rds k ((zm_rd pk 8 4) * 65536)) (va_up nn k 8) (vp_updL (zm_sft off (8 * k) 0) (8 * k) (zm_half ((zm_rd pk 32 8) - (xp k)) ((zm_rd pk 40 8) - loc))) (vp_updL (zm_sft del (8 * k) 0) (8 * k) dly9) (vp_updL (zm_sft cam (8 * k) 0) (8 * k) loc) ins low high) H := (by have h9 := hP; rw [zm_up8] at h9; exact h9)
                                      have hD : va_D A (zm_W o ad cI cJ cZ 0 loc slw wst pk den (upd rch k (rch k)) pol (upd ask k 0) xp (upd str k (pk 1)) (vp_updL rdl k ((zm_rd pk 4 4) * 65536)) (vp_updL rds k ((zm_rd pk 8 4) * 65536)) (va_up nn k 8) (vp_updL (zm_sft off (8 * k) 0) (8 * k) (zm_half ((zm_rd pk 32 8) - (xp k)) ((zm_rd pk 40 8) - loc))) (vp_updL (zm_sft del (8 * k) 0) (8 * k) dly9) (vp_updL (zm_sft cam (8 * k) 0) (8 * k) loc) ins low high) := (by have h9 := hD; rw [zm_up8] at h9; exact h9)
                                      refine lv_iconst (v := 0) hx hb dM_receive_514 (by decide) ?_
                                      exact zq_iret hx hb hr hlocks dM_receive_515 (rfl) hAe (by rw [show upd rch k (zm_odd (rch k)) = upd rch k (rch k) from congrArg (upd rch k) (if_neg h20)]; rw [show va_up nn k (zs_c8 (nn k)) = va_up nn k 8 from congrArg (va_up nn k) (if_neg h21n)]; rw [show zm_push off k (zm_half ((zm_rd pk 32 8) - (xp k)) ((zm_rd pk 40 8) - loc)) = vp_updL (zm_sft off (8 * k) 0) (8 * k) (zm_half ((zm_rd pk 32 8) - (xp k)) ((zm_rd pk 40 8) - loc)) from rfl]; rw [show zm_push del k (zm_dly ((loc - (xp k)) - ((zm_rd pk 40 8) - (zm_rd pk 32 8)))) = vp_updL (zm_sft del (8 * k) 0) (8 * k) dly9 from congrArg (fun z => vp_updL (zm_sft del (8 * k) 0) (8 * k) z) ((if_pos h10).trans hdly.symm)]; rw [show zm_push cam k loc = vp_updL (zm_sft cam (8 * k) 0) (8 * k) loc from rfl]; exact hP) (by rw [show upd rch k (zm_odd (rch k)) = upd rch k (rch k) from congrArg (upd rch k) (if_neg h20)]; rw [show va_up nn k (zs_c8 (nn k)) = va_up nn k 8 from congrArg (va_up nn k) (if_neg h21n)]; rw [show zm_push off k (zm_half ((zm_rd pk 32 8) - (xp k)) ((zm_rd pk 40 8) - loc)) = vp_updL (zm_sft off (8 * k) 0) (8 * k) (zm_half ((zm_rd pk 32 8) - (xp k)) ((zm_rd pk 40 8) - loc)) from rfl]; rw [show zm_push del k (zm_dly ((loc - (xp k)) - ((zm_rd pk 40 8) - (zm_rd pk 32 8)))) = vp_updL (zm_sft del (8 * k) 0) (8 * k) dly9 from congrArg (fun z => vp_updL (zm_sft del (8 * k) 0) (8 * k) z) ((if_pos h10).trans hdly.symm)]; rw [show zm_push cam k loc = vp_updL (zm_sft cam (8 * k) 0) (8 * k) loc from rfl]; exact hD) hS
                                    · have h21n := (zz_ltN (a := (nn k)) (b := 8) rfl rfl (by omega) (by omega)).mp h21
                                      refine lv_aload_n hx hb dM_receive_500 rfl (lv_at hl 0 rfl) ?_
                                      refine zz_getM hx hb hT hown hK hP 0 rfl 13 (by decide) tw_630 rfl dM_receive_501 ?_
                                      refine lv_iload_n hx hb dM_receive_504 rfl (lv_at hl 1 rfl) ?_
                                      refine zz_iald hx hb hK hP 10 1 rfl rfl k rfl (by first | omega | decide | assumption) (by decide) dM_receive_505 ?_
                                      refine lv_iconst (v := 1) hx hb dM_receive_506 (by decide) ?_
                                      refine lv_iadd hx hb dM_receive_507 ?_
                                      refine zz_ti (y := nI (nn k + 1)) ((nI_succ _).symm) ?_
                                      refine lv_goto (tgt := 513) hx hb dM_receive_508 (by decide) ?_
                                      refine zq_iast hx hb hK hP hD hS 10 1 rfl rfl k rfl (by first | omega | decide | assumption) (by decide) dM_receive_513 (fun H locs hP hD hS => ?_)
                                      have hP : va_P (dC, dI) vcl (zm_W o ad cI cJ cZ 0 loc slw wst pk den (upd rch k (rch k)) pol (upd ask k 0) xp (upd str k (pk 1)) (vp_updL rdl k ((zm_rd pk 4 4) * 65536)) (vp_updL rds k ((zm_rd pk 8 4) * 65536)) (va_up nn k (nn k + 1)) (vp_updL (zm_sft off (8 * k) 0) (8 * k) (zm_half ((zm_rd pk 32 8) - (xp k)) ((zm_rd pk 40 8) - loc))) (vp_updL (zm_sft del (8 * k) 0) (8 * k) dly9) (vp_updL (zm_sft cam (8 * k) 0) (8 * k) loc) ins low high) H := (by have h9 := hP; rw [zm_upn] at h9; exact h9)
                                      have hD : va_D A (zm_W o ad cI cJ cZ 0 loc slw wst pk den (upd rch k (rch k)) pol (upd ask k 0) xp (upd str k (pk 1)) (vp_updL rdl k ((zm_rd pk 4 4) * 65536)) (vp_updL rds k ((zm_rd pk 8 4) * 65536)) (va_up nn k (nn k + 1)) (vp_updL (zm_sft off (8 * k) 0) (8 * k) (zm_half ((zm_rd pk 32 8) - (xp k)) ((zm_rd pk 40 8) - loc))) (vp_updL (zm_sft del (8 * k) 0) (8 * k) dly9) (vp_updL (zm_sft cam (8 * k) 0) (8 * k) loc) ins low high) := (by have h9 := hD; rw [zm_upn] at h9; exact h9)
                                      refine lv_iconst (v := 0) hx hb dM_receive_514 (by decide) ?_
                                      exact zq_iret hx hb hr hlocks dM_receive_515 (rfl) hAe (by rw [show upd rch k (zm_odd (rch k)) = upd rch k (rch k) from congrArg (upd rch k) (if_neg h20)]; rw [show va_up nn k (zs_c8 (nn k)) = va_up nn k (nn k + 1) from congrArg (va_up nn k) (if_pos h21n)]; rw [show zm_push off k (zm_half ((zm_rd pk 32 8) - (xp k)) ((zm_rd pk 40 8) - loc)) = vp_updL (zm_sft off (8 * k) 0) (8 * k) (zm_half ((zm_rd pk 32 8) - (xp k)) ((zm_rd pk 40 8) - loc)) from rfl]; rw [show zm_push del k (zm_dly ((loc - (xp k)) - ((zm_rd pk 40 8) - (zm_rd pk 32 8)))) = vp_updL (zm_sft del (8 * k) 0) (8 * k) dly9 from congrArg (fun z => vp_updL (zm_sft del (8 * k) 0) (8 * k) z) ((if_pos h10).trans hdly.symm)]; rw [show zm_push cam k loc = vp_updL (zm_sft cam (8 * k) 0) (8 * k) loc from rfl]; exact hP) (by rw [show upd rch k (zm_odd (rch k)) = upd rch k (rch k) from congrArg (upd rch k) (if_neg h20)]; rw [show va_up nn k (zs_c8 (nn k)) = va_up nn k (nn k + 1) from congrArg (va_up nn k) (if_pos h21n)]; rw [show zm_push off k (zm_half ((zm_rd pk 32 8) - (xp k)) ((zm_rd pk 40 8) - loc)) = vp_updL (zm_sft off (8 * k) 0) (8 * k) (zm_half ((zm_rd pk 32 8) - (xp k)) ((zm_rd pk 40 8) - loc)) from rfl]; rw [show zm_push del k (zm_dly ((loc - (xp k)) - ((zm_rd pk 40 8) - (zm_rd pk 32 8)))) = vp_updL (zm_sft del (8 * k) 0) (8 * k) dly9 from congrArg (fun z => vp_updL (zm_sft del (8 * k) 0) (8 * k) z) ((if_pos h10).trans hdly.symm)]; rw [show zm_push cam k loc = vp_updL (zm_sft cam (8 * k) 0) (8 * k) loc from rfl]; exact hD) hS
                                  · have hl : lv_has ls 16 [(0, .ref o), (1, .int (nI k)), (9, .long (zm_half ((zm_rd pk 32 8) - (xp k)) ((zm_rd pk 40 8) - loc))), (11, .long dly9), (15, .int (nI (i + 1)))] := hl
                                    refine lv_iload hx hb dM_receive_360 (lv_at hl 4 rfl) ?_
                                    refine zz_zle (tgt := 449) hx hb dM_receive_362 (by decide) (fun h => absurd ((zz_ltN (a := 0) (b := (i + 1)) rfl rfl (by omega) (by omega)).mpr (by omega)) h) (fun _ => ?_)
                                    refine lv_aload_n hx hb dM_receive_365 rfl (lv_at hl 0 rfl) ?_
                                    refine zz_getM hx hb hT hown hK hP 0 rfl 14 (by decide) tw_631 rfl dM_receive_366 ?_
                                    refine lv_bipush (v := 8) hx hb dM_receive_369 (by decide) ?_
                                    refine lv_iload_n hx hb dM_receive_371 rfl (lv_at hl 1 rfl) ?_
                                    refine lv_imul hx hb dM_receive_372 ?_
                                    refine zz_ti (y := nI (8 * k)) (pk_mul 8 k) ?_
                                    refine lv_iload hx hb dM_receive_373 (lv_at hl 4 rfl) ?_
                                    refine lv_iadd hx hb dM_receive_375 ?_
                                    refine zz_ti (y := nI (8 * k + (i + 1))) (nI_add _ _) ?_
                                    refine lv_aload_n hx hb dM_receive_376 rfl (lv_at hl 0 rfl) ?_
                                    refine zz_getM hx hb hT hown hK hP 0 rfl 14 (by decide) tw_631 rfl dM_receive_377 ?_
                                    refine lv_bipush (v := 8) hx hb dM_receive_380 (by decide) ?_
                                    refine lv_iload_n hx hb dM_receive_382 rfl (lv_at hl 1 rfl) ?_
                                    refine lv_imul hx hb dM_receive_383 ?_
                                    refine zz_ti (y := nI (8 * k)) (pk_mul 8 k) ?_
                                    refine lv_iload hx hb dM_receive_384 (lv_at hl 4 rfl) ?_
                                    refine lv_iadd hx hb dM_receive_386 ?_
                                    refine zz_ti (y := nI (8 * k + (i + 1))) (nI_add _ _) ?_
                                    refine lv_iconst (v := 1) hx hb dM_receive_387 (by decide) ?_
                                    refine lv_isub hx hb dM_receive_388 ?_
                                    refine zz_ti (y := nI (8 * k + i)) (nI_pred _) ?_
                                    refine zz_lald hx hb hK hP 11 0 rfl rfl (8 * k + i) rfl (by first | omega | decide | assumption) (by decide) dM_receive_389 ?_
                                    refine zq_last hx hb hK hP hD hS 11 0 rfl rfl (8 * k + (i + 1)) rfl (by first | omega | decide | assumption) (by decide) dM_receive_390 (fun H locs hP hD hS => ?_)
                                    have hP : va_P (dC, dI) vcl (zm_W o ad cI cJ cZ 0 loc slw wst pk den (upd rch k (rch k)) pol (upd ask k 0) xp (upd str k (pk 1)) (vp_updL rdl k ((zm_rd pk 4 4) * 65536)) (vp_updL rds k ((zm_rd pk 8 4) * 65536)) nn (vp_updL (zm_sft off (8 * k) (i + 1)) (8 * k + (i + 1)) ((zm_sft off (8 * k) (i + 1)) (8 * k + i))) (zm_sft del (8 * k) (i + 1)) (zm_sft cam (8 * k) (i + 1)) ins low high) H := hP
                                    have hD : va_D A (zm_W o ad cI cJ cZ 0 loc slw wst pk den (upd rch k (rch k)) pol (upd ask k 0) xp (upd str k (pk 1)) (vp_updL rdl k ((zm_rd pk 4 4) * 65536)) (vp_updL rds k ((zm_rd pk 8 4) * 65536)) nn (vp_updL (zm_sft off (8 * k) (i + 1)) (8 * k + (i + 1)) ((zm_sft off (8 * k) (i + 1)) (8 * k + i))) (zm_sft del (8 * k) (i + 1)) (zm_sft cam (8 * k) (i + 1)) ins low high) := hD
                                    refine lv_aload_n hx hb dM_receive_391 rfl (lv_at hl 0 rfl) ?_
                                    refine zz_getM hx hb hT hown hK hP 0 rfl 15 (by decide) tw_632 rfl dM_receive_392 ?_
                                    refine lv_bipush (v := 8) hx hb dM_receive_395 (by decide) ?_
                                    refine lv_iload_n hx hb dM_receive_397 rfl (lv_at hl 1 rfl) ?_
                                    refine lv_imul hx hb dM_receive_398 ?_
                                    refine zz_ti (y := nI (8 * k)) (pk_mul 8 k) ?_
                                    refine lv_iload hx hb dM_receive_399 (lv_at hl 4 rfl) ?_
                                    refine lv_iadd hx hb dM_receive_401 ?_
                                    refine zz_ti (y := nI (8 * k + (i + 1))) (nI_add _ _) ?_
                                    refine lv_aload_n hx hb dM_receive_402 rfl (lv_at hl 0 rfl) ?_
                                    refine zz_getM hx hb hT hown hK hP 0 rfl 15 (by decide) tw_632 rfl dM_receive_403 ?_
                                    refine lv_bipush (v := 8) hx hb dM_receive_406 (by decide) ?_
                                    refine lv_iload_n hx hb dM_receive_408 rfl (lv_at hl 1 rfl) ?_
                                    refine lv_imul hx hb dM_receive_409 ?_
                                    refine zz_ti (y := nI (8 * k)) (pk_mul 8 k) ?_
                                    refine lv_iload hx hb dM_receive_410 (lv_at hl 4 rfl) ?_
                                    refine lv_iadd hx hb dM_receive_412 ?_
                                    refine zz_ti (y := nI (8 * k + (i + 1))) (nI_add _ _) ?_
                                    refine lv_iconst (v := 1) hx hb dM_receive_413 (by decide) ?_
                                    refine lv_isub hx hb dM_receive_414 ?_
                                    refine zz_ti (y := nI (8 * k + i)) (nI_pred _) ?_
                                    refine zz_lald hx hb hK hP 12 0 rfl rfl (8 * k + i) rfl (by first | omega | decide | assumption) (by decide) dM_receive_415 ?_
                                    refine zq_last hx hb hK hP hD hS 12 0 rfl rfl (8 * k + (i + 1)) rfl (by first | omega | decide | assumption) (by decide) dM_receive_416 (fun H locs hP hD hS => ?_)
                                    have hP : va_P (dC, dI) vcl (zm_W o ad cI cJ cZ 0 loc slw wst pk den (upd rch k (rch k)) pol (upd ask k 0) xp (upd str k (pk 1)) (vp_updL rdl k ((zm_rd pk 4 4) * 65536)) (vp_updL rds k ((zm_rd pk 8 4) * 65536)) nn (vp_updL (zm_sft off (8 * k) (i + 1)) (8 * k + (i + 1)) ((zm_sft off (8 * k) (i + 1)) (8 * k + i))) (vp_updL (zm_sft del (8 * k) (i + 1)) (8 * k + (i + 1)) ((zm_sft del (8 * k) (i + 1)) (8 * k + i))) (zm_sft cam (8 * k) (i + 1)) ins low high) H := hP
                                    have hD : va_D A (zm_W o ad cI cJ cZ 0 loc slw wst pk den (upd rch k (rch k)) pol (upd ask k 0) xp (upd str k (pk 1)) (vp_updL rdl k ((zm_rd pk 4 4) * 65536)) (vp_updL rds k ((zm_rd pk 8 4) * 65536)) nn (vp_updL (zm_sft off (8 * k) (i + 1)) (8 * k + (i + 1)) ((zm_sft off (8 * k) (i + 1)) (8 * k + i))) (vp_updL (zm_sft del (8 * k) (i + 1)) (8 * k + (i + 1)) ((zm_sft del (8 * k) (i + 1)) (8 * k + i))) (zm_sft cam (8 * k) (i + 1)) ins low high) := hD
                                    refine lv_aload_n hx hb dM_receive_417 rfl (lv_at hl 0 rfl) ?_
                                    refine zz_getM hx hb hT hown hK hP 0 rfl 16 (by decide) tw_633 rfl dM_receive_418 ?_
                                    refine lv_bipush (v := 8) hx hb dM_receive_421 (by decide) ?_
                                    refine lv_iload_n hx hb dM_receive_423 rfl (lv_at hl 1 rfl) ?_
                                    refine lv_imul hx hb dM_receive_424 ?_
                                    refine zz_ti (y := nI (8 * k)) (pk_mul 8 k) ?_
                                    refine lv_iload hx hb dM_receive_425 (lv_at hl 4 rfl) ?_
                                    refine lv_iadd hx hb dM_receive_427 ?_
                                    refine zz_ti (y := nI (8 * k + (i + 1))) (nI_add _ _) ?_
                                    refine lv_aload_n hx hb dM_receive_428 rfl (lv_at hl 0 rfl) ?_
                                    refine zz_getM hx hb hT hown hK hP 0 rfl 16 (by decide) tw_633 rfl dM_receive_429 ?_
                                    refine lv_bipush (v := 8) hx hb dM_receive_432 (by decide) ?_
                                    refine lv_iload_n hx hb dM_receive_434 rfl (lv_at hl 1 rfl) ?_
                                    refine lv_imul hx hb dM_receive_435 ?_
                                    refine zz_ti (y := nI (8 * k)) (pk_mul 8 k) ?_
                                    refine lv_iload hx hb dM_receive_436 (lv_at hl 4 rfl) ?_
                                    refine lv_iadd hx hb dM_receive_438 ?_
                                    refine zz_ti (y := nI (8 * k + (i + 1))) (nI_add _ _) ?_
                                    refine lv_iconst (v := 1) hx hb dM_receive_439 (by decide) ?_
                                    refine lv_isub hx hb dM_receive_440 ?_
                                    refine zz_ti (y := nI (8 * k + i)) (nI_pred _) ?_
                                    refine zz_lald hx hb hK hP 13 0 rfl rfl (8 * k + i) rfl (by first | omega | decide | assumption) (by decide) dM_receive_441 ?_
                                    refine zq_last hx hb hK hP hD hS 13 0 rfl rfl (8 * k + (i + 1)) rfl (by first | omega | decide | assumption) (by decide) dM_receive_442 (fun H locs hP hD hS => ?_)
                                    have hP : va_P (dC, dI) vcl (zm_W o ad cI cJ cZ 0 loc slw wst pk den (upd rch k (rch k)) pol (upd ask k 0) xp (upd str k (pk 1)) (vp_updL rdl k ((zm_rd pk 4 4) * 65536)) (vp_updL rds k ((zm_rd pk 8 4) * 65536)) nn (vp_updL (zm_sft off (8 * k) (i + 1)) (8 * k + (i + 1)) ((zm_sft off (8 * k) (i + 1)) (8 * k + i))) (vp_updL (zm_sft del (8 * k) (i + 1)) (8 * k + (i + 1)) ((zm_sft del (8 * k) (i + 1)) (8 * k + i))) (vp_updL (zm_sft cam (8 * k) (i + 1)) (8 * k + (i + 1)) ((zm_sft cam (8 * k) (i + 1)) (8 * k + i))) ins low high) H := hP
                                    have hD : va_D A (zm_W o ad cI cJ cZ 0 loc slw wst pk den (upd rch k (rch k)) pol (upd ask k 0) xp (upd str k (pk 1)) (vp_updL rdl k ((zm_rd pk 4 4) * 65536)) (vp_updL rds k ((zm_rd pk 8 4) * 65536)) nn (vp_updL (zm_sft off (8 * k) (i + 1)) (8 * k + (i + 1)) ((zm_sft off (8 * k) (i + 1)) (8 * k + i))) (vp_updL (zm_sft del (8 * k) (i + 1)) (8 * k + (i + 1)) ((zm_sft del (8 * k) (i + 1)) (8 * k + i))) (vp_updL (zm_sft cam (8 * k) (i + 1)) (8 * k + (i + 1)) ((zm_sft cam (8 * k) (i + 1)) (8 * k + i))) ins low high) := hD
                                    refine lv_iinc (k := 4) (v := nI i) (lv' := [(15, .int (nI i)), (0, .ref o), (1, .int (nI k)), (9, .long (zm_half ((zm_rd pk 32 8) - (xp k)) ((zm_rd pk 40 8) - loc))), (11, .long dly9)]) hx hb dM_receive_443 hl rfl (pk_m1 _) (by decide) rfl (fun ls hl => ?_)
                                    refine lv_goto (tgt := 360) hx hb dM_receive_446 (by decide) ?_
                                    exact ih_lp i _ _ (by omega) (by omega) (by rw [show zm_sft off (8 * k) i = vp_updL (zm_sft off (8 * k) (i + 1)) (8 * k + (i + 1)) ((zm_sft off (8 * k) (i + 1)) (8 * k + i)) from zm_sft_s _ _ (by omega)]; rw [show zm_sft del (8 * k) i = vp_updL (zm_sft del (8 * k) (i + 1)) (8 * k + (i + 1)) ((zm_sft del (8 * k) (i + 1)) (8 * k + i)) from zm_sft_s _ _ (by omega)]; rw [show zm_sft cam (8 * k) i = vp_updL (zm_sft cam (8 * k) (i + 1)) (8 * k + (i + 1)) ((zm_sft cam (8 * k) (i + 1)) (8 * k + i)) from zm_sft_s _ _ (by omega)]; exact hP) (by rw [show zm_sft off (8 * k) i = vp_updL (zm_sft off (8 * k) (i + 1)) (8 * k + (i + 1)) ((zm_sft off (8 * k) (i + 1)) (8 * k + i)) from zm_sft_s _ _ (by omega)]; rw [show zm_sft del (8 * k) i = vp_updL (zm_sft del (8 * k) (i + 1)) (8 * k + (i + 1)) ((zm_sft del (8 * k) (i + 1)) (8 * k + i)) from zm_sft_s _ _ (by omega)]; rw [show zm_sft cam (8 * k) i = vp_updL (zm_sft cam (8 * k) (i + 1)) (8 * k + (i + 1)) ((zm_sft cam (8 * k) (i + 1)) (8 * k + i)) from zm_sft_s _ _ (by omega)]; exact hD) hS _ (lv_sub hl [1, 2, 3, 4, 0] rfl)
                              exact lp (7 + 1) 7 _ _ (by omega) (Nat.le_refl _) (by rw [show zm_sft off (8 * k) 7 = off from zm_sft_7 _ _]; rw [show zm_sft del (8 * k) 7 = del from zm_sft_7 _ _]; rw [show zm_sft cam (8 * k) 7 = cam from zm_sft_7 _ _]; exact hP) (by rw [show zm_sft off (8 * k) 7 = off from zm_sft_7 _ _]; rw [show zm_sft del (8 * k) 7 = del from zm_sft_7 _ _]; rw [show zm_sft cam (8 * k) 7 = cam from zm_sft_7 _ _]; exact hD) hS _ (by rw [show nI 7 = 7 from rfl]; exact lv_sub hl [8, 9, 3, 2, 0] rfl)
                            · refine lv_aload_n hx hb dM_receive_338 rfl (lv_at hl 7 rfl) ?_
                              refine zz_getM hx hb hT hown hK hP 0 rfl 6 (by decide) tw_623 rfl dM_receive_339 ?_
                              refine lv_iload_n hx hb dM_receive_342 rfl (lv_at hl 8 rfl) ?_
                              refine zz_iald hx hb hK hP 3 1 rfl rfl k rfl (by first | omega | decide | assumption) (by decide) dM_receive_343 ?_
                              refine lv_iconst (v := 1) hx hb dM_receive_344 (by decide) ?_
                              refine lv_iadd hx hb dM_receive_345 ?_
                              refine lv_goto (tgt := 355) hx hb dM_receive_346 (by decide) ?_
                              refine zq_iast hx hb hK hP hD hS 3 1 rfl rfl k rfl (by first | omega | decide | assumption) (by decide) dM_receive_355 (fun H locs hP hD hS => ?_)
                              have hP : va_P (dC, dI) vcl (zm_W o ad cI cJ cZ 0 loc slw wst pk den (upd rch k ((rch k) + 1)) pol (upd ask k 0) xp (upd str k (pk 1)) (vp_updL rdl k ((zm_rd pk 4 4) * 65536)) (vp_updL rds k ((zm_rd pk 8 4) * 65536)) nn off del cam ins low high) H := hP
                              have hD : va_D A (zm_W o ad cI cJ cZ 0 loc slw wst pk den (upd rch k ((rch k) + 1)) pol (upd ask k 0) xp (upd str k (pk 1)) (vp_updL rdl k ((zm_rd pk 4 4) * 65536)) (vp_updL rds k ((zm_rd pk 8 4) * 65536)) nn off del cam ins low high) := hD
                              refine lv_bipush (v := 7) hx hb dM_receive_356 (by decide) ?_
                              refine lv_istore (lv' := [(15, .int 7), (13, .long 1152921504606846976), (11, .long dly9), (9, .long (zm_half ((zm_rd pk 32 8) - (xp k)) ((zm_rd pk 40 8) - loc))), (7, .long (zm_rd pk 40 8)), (5, .long (zm_rd pk 32 8)), (3, .long (xp k)), (2, .int 1), (0, .ref o), (1, .int (nI k))]) hx hb dM_receive_358 hl (by decide) rfl (fun ls hl => ?_)
                              have lp : ∀ (k9 : Nat) (i : Nat) (H : Heap) (locs : List Loc), i < k9 → (i ≤ 7) → va_P (dC, dI) vcl (zm_W o ad cI cJ cZ 0 loc slw wst pk den (upd rch k ((rch k) + 1)) pol (upd ask k 0) xp (upd str k (pk 1)) (vp_updL rdl k ((zm_rd pk 4 4) * 65536)) (vp_updL rds k ((zm_rd pk 8 4) * 65536)) nn (zm_sft off (8 * k) i) (zm_sft del (8 * k) i) (zm_sft cam (8 * k) i) ins low high) H → va_D A (zm_W o ad cI cJ cZ 0 loc slw wst pk den (upd rch k ((rch k) + 1)) pol (upd ask k 0) xp (upd str k (pk 1)) (vp_updL rdl k ((zm_rd pk 4 4) * 65536)) (vp_updL rds k ((zm_rd pk 8 4) * 65536)) nn (zm_sft off (8 * k) i) (zm_sft del (8 * k) i) (zm_sft cam (8 * k) i) ins low high) → va_S A s.heap H locs → ∀ ls : Array Slot, lv_has ls 16 [(0, .ref o), (1, .int (nI k)), (9, .long (zm_half ((zm_rd pk 32 8) - (xp k)) ((zm_rd pk 40 8) - loc))), (11, .long dly9), (15, .int (nI i))] → W p l e ({ frames := 2, cells := 0, slots := 0, locals := 48 } : Room) s m ([.ref o, .int (nI k)] : List Value).toArray below meth c H locs 0 0 (MQ below (zq_Q (dC, dI) vcl (some (.int 0)) (zm_W o ad cI cJ cZ thr loc slw wst pk den rch pol ask xp str rdl rds nn off del cam ins low high) (zm_W o ad cI cJ cZ 0 loc slw wst pk den (upd rch k (zm_odd (rch k))) pol (upd ask k 0) xp (upd str k (pk 1)) (vp_updL rdl k ((zm_rd pk 4 4) * 65536)) (vp_updL rds k ((zm_rd pk 8 4) * 65536)) (va_up nn k (zs_c8 (nn k))) (zm_push off k (zm_half ((zm_rd pk 32 8) - (xp k)) ((zm_rd pk 40 8) - loc))) (zm_push del k (zm_dly ((loc - (xp k)) - ((zm_rd pk 40 8) - (zm_rd pk 32 8))))) (zm_push cam k loc) ins low high) s.heap.size) ([.ref o, .int (nI k)] : List Value).toArray s 0 0 A) (F0 m 360 ls []) := by
                                intro k9
                                induction k9 with
                                | zero => intro i H locs hk9; exact absurd hk9 (Nat.not_lt_zero _)
                                | succ k9 ih_lp =>
                                  intro i H locs hk9 hi hP hD hS ls hl
                                  rcases i with _ | i
                                  · have hl : lv_has ls 16 [(0, .ref o), (1, .int (nI k)), (9, .long (zm_half ((zm_rd pk 32 8) - (xp k)) ((zm_rd pk 40 8) - loc))), (11, .long dly9), (15, .int 0)] := hl
                                    refine lv_iload hx hb dM_receive_360 (lv_at hl 4 rfl) ?_
                                    refine zz_zle (tgt := 449) hx hb dM_receive_362 (by decide) (fun _ => ?_) (fun h => absurd h (by decide))
                                    refine lv_aload_n hx hb dM_receive_449 rfl (lv_at hl 0 rfl) ?_
                                    refine zz_getM hx hb hT hown hK hP 0 rfl 14 (by decide) tw_631 rfl dM_receive_450 ?_
                                    refine lv_bipush (v := 8) hx hb dM_receive_453 (by decide) ?_
                                    refine lv_iload_n hx hb dM_receive_455 rfl (lv_at hl 1 rfl) ?_
                                    refine lv_imul hx hb dM_receive_456 ?_
                                    refine zz_ti (y := nI (8 * k)) (pk_mul 8 k) ?_
                                    refine lv_lload hx hb dM_receive_457 (lv_at hl 2 rfl) ?_
                                    refine zq_last hx hb hK hP hD hS 11 0 rfl rfl (8 * k) rfl (by first | omega | decide | assumption) (by decide) dM_receive_459 (fun H locs hP hD hS => ?_)
                                    have hP : va_P (dC, dI) vcl (zm_W o ad cI cJ cZ 0 loc slw wst pk den (upd rch k ((rch k) + 1)) pol (upd ask k 0) xp (upd str k (pk 1)) (vp_updL rdl k ((zm_rd pk 4 4) * 65536)) (vp_updL rds k ((zm_rd pk 8 4) * 65536)) nn (vp_updL (zm_sft off (8 * k) 0) (8 * k) (zm_half ((zm_rd pk 32 8) - (xp k)) ((zm_rd pk 40 8) - loc))) (zm_sft del (8 * k) 0) (zm_sft cam (8 * k) 0) ins low high) H := hP
                                    have hD : va_D A (zm_W o ad cI cJ cZ 0 loc slw wst pk den (upd rch k ((rch k) + 1)) pol (upd ask k 0) xp (upd str k (pk 1)) (vp_updL rdl k ((zm_rd pk 4 4) * 65536)) (vp_updL rds k ((zm_rd pk 8 4) * 65536)) nn (vp_updL (zm_sft off (8 * k) 0) (8 * k) (zm_half ((zm_rd pk 32 8) - (xp k)) ((zm_rd pk 40 8) - loc))) (zm_sft del (8 * k) 0) (zm_sft cam (8 * k) 0) ins low high) := hD
                                    refine lv_aload_n hx hb dM_receive_460 rfl (lv_at hl 0 rfl) ?_
                                    refine zz_getM hx hb hT hown hK hP 0 rfl 15 (by decide) tw_632 rfl dM_receive_461 ?_
                                    refine lv_bipush (v := 8) hx hb dM_receive_464 (by decide) ?_
                                    refine lv_iload_n hx hb dM_receive_466 rfl (lv_at hl 1 rfl) ?_
                                    refine lv_imul hx hb dM_receive_467 ?_
                                    refine zz_ti (y := nI (8 * k)) (pk_mul 8 k) ?_
                                    refine lv_lload hx hb dM_receive_468 (lv_at hl 3 rfl) ?_
                                    refine zq_last hx hb hK hP hD hS 12 0 rfl rfl (8 * k) rfl (by first | omega | decide | assumption) (by decide) dM_receive_470 (fun H locs hP hD hS => ?_)
                                    have hP : va_P (dC, dI) vcl (zm_W o ad cI cJ cZ 0 loc slw wst pk den (upd rch k ((rch k) + 1)) pol (upd ask k 0) xp (upd str k (pk 1)) (vp_updL rdl k ((zm_rd pk 4 4) * 65536)) (vp_updL rds k ((zm_rd pk 8 4) * 65536)) nn (vp_updL (zm_sft off (8 * k) 0) (8 * k) (zm_half ((zm_rd pk 32 8) - (xp k)) ((zm_rd pk 40 8) - loc))) (vp_updL (zm_sft del (8 * k) 0) (8 * k) dly9) (zm_sft cam (8 * k) 0) ins low high) H := hP
                                    have hD : va_D A (zm_W o ad cI cJ cZ 0 loc slw wst pk den (upd rch k ((rch k) + 1)) pol (upd ask k 0) xp (upd str k (pk 1)) (vp_updL rdl k ((zm_rd pk 4 4) * 65536)) (vp_updL rds k ((zm_rd pk 8 4) * 65536)) nn (vp_updL (zm_sft off (8 * k) 0) (8 * k) (zm_half ((zm_rd pk 32 8) - (xp k)) ((zm_rd pk 40 8) - loc))) (vp_updL (zm_sft del (8 * k) 0) (8 * k) dly9) (zm_sft cam (8 * k) 0) ins low high) := hD
                                    refine lv_aload_n hx hb dM_receive_471 rfl (lv_at hl 0 rfl) ?_
                                    refine zz_getM hx hb hT hown hK hP 0 rfl 16 (by decide) tw_633 rfl dM_receive_472 ?_
                                    refine lv_bipush (v := 8) hx hb dM_receive_475 (by decide) ?_
                                    refine lv_iload_n hx hb dM_receive_477 rfl (lv_at hl 1 rfl) ?_
                                    refine lv_imul hx hb dM_receive_478 ?_
                                    refine zz_ti (y := nI (8 * k)) (pk_mul 8 k) ?_
                                    refine lv_aload_n hx hb dM_receive_479 rfl (lv_at hl 0 rfl) ?_
                                    refine zz_getM hx hb hT hown hK hP 0 rfl 1 (by decide) tw_618 rfl dM_receive_480 ?_
                                    refine zq_last hx hb hK hP hD hS 13 0 rfl rfl (8 * k) rfl (by first | omega | decide | assumption) (by decide) dM_receive_483 (fun H locs hP hD hS => ?_)
                                    have hP : va_P (dC, dI) vcl (zm_W o ad cI cJ cZ 0 loc slw wst pk den (upd rch k ((rch k) + 1)) pol (upd ask k 0) xp (upd str k (pk 1)) (vp_updL rdl k ((zm_rd pk 4 4) * 65536)) (vp_updL rds k ((zm_rd pk 8 4) * 65536)) nn (vp_updL (zm_sft off (8 * k) 0) (8 * k) (zm_half ((zm_rd pk 32 8) - (xp k)) ((zm_rd pk 40 8) - loc))) (vp_updL (zm_sft del (8 * k) 0) (8 * k) dly9) (vp_updL (zm_sft cam (8 * k) 0) (8 * k) loc) ins low high) H := hP
                                    have hD : va_D A (zm_W o ad cI cJ cZ 0 loc slw wst pk den (upd rch k ((rch k) + 1)) pol (upd ask k 0) xp (upd str k (pk 1)) (vp_updL rdl k ((zm_rd pk 4 4) * 65536)) (vp_updL rds k ((zm_rd pk 8 4) * 65536)) nn (vp_updL (zm_sft off (8 * k) 0) (8 * k) (zm_half ((zm_rd pk 32 8) - (xp k)) ((zm_rd pk 40 8) - loc))) (vp_updL (zm_sft del (8 * k) 0) (8 * k) dly9) (vp_updL (zm_sft cam (8 * k) 0) (8 * k) loc) ins low high) := hD
                                    refine lv_aload_n hx hb dM_receive_484 rfl (lv_at hl 0 rfl) ?_
                                    refine zz_getM hx hb hT hown hK hP 0 rfl 13 (by decide) tw_630 rfl dM_receive_485 ?_
                                    refine lv_iload_n hx hb dM_receive_488 rfl (lv_at hl 1 rfl) ?_
                                    refine lv_aload_n hx hb dM_receive_489 rfl (lv_at hl 0 rfl) ?_
                                    refine zz_getM hx hb hT hown hK hP 0 rfl 13 (by decide) tw_630 rfl dM_receive_490 ?_
                                    refine lv_iload_n hx hb dM_receive_493 rfl (lv_at hl 1 rfl) ?_
                                    refine zz_iald hx hb hK hP 10 1 rfl rfl k rfl (by first | omega | decide | assumption) (by decide) dM_receive_494 ?_
                                    refine lv_bipush (v := 8) hx hb dM_receive_495 (by decide) ?_
                                    refine zz_ige (tgt := 511) hx hb dM_receive_497 (by decide) (fun h22 => ?_) (fun h22 => ?_)
                                    · have h22n := mt (zz_ltN (a := (nn k)) (b := 8) rfl rfl (by omega) (by omega)).mpr h22
                                      refine lv_bipush (v := 8) hx hb dM_receive_511 (by decide) ?_
                                      refine zq_iast hx hb hK hP hD hS 10 1 rfl rfl k rfl (by first | omega | decide | assumption) (by decide) dM_receive_513 (fun H locs hP hD hS => ?_)
                                      have hP : va_P (dC, dI) vcl (zm_W o ad cI cJ cZ 0 loc slw wst pk den (upd rch k ((rch k) + 1)) pol (upd ask k 0) xp (upd str k (pk 1)) (vp_updL rdl k ((zm_rd pk 4 4) * 65536)) (vp_updL rds k ((zm_rd pk 8 4) * 65536)) (va_up nn k 8) (vp_updL (zm_sft off (8 * k) 0) (8 * k) (zm_half ((zm_rd pk 32 8) - (xp k)) ((zm_rd pk 40 8) - loc))) (vp_updL (zm_sft del (8 * k) 0) (8 * k) dly9) (vp_updL (zm_sft cam (8 * k) 0) (8 * k) loc) ins low high) H := (by have h9 := hP; rw [zm_up8] at h9; exact h9)
                                      have hD : va_D A (zm_W o ad cI cJ cZ 0 loc slw wst pk den (upd rch k ((rch k) + 1)) pol (upd ask k 0) xp (upd str k (pk 1)) (vp_updL rdl k ((zm_rd pk 4 4) * 65536)) (vp_updL rds k ((zm_rd pk 8 4) * 65536)) (va_up nn k 8) (vp_updL (zm_sft off (8 * k) 0) (8 * k) (zm_half ((zm_rd pk 32 8) - (xp k)) ((zm_rd pk 40 8) - loc))) (vp_updL (zm_sft del (8 * k) 0) (8 * k) dly9) (vp_updL (zm_sft cam (8 * k) 0) (8 * k) loc) ins low high) := (by have h9 := hD; rw [zm_up8] at h9; exact h9)
                                      refine lv_iconst (v := 0) hx hb dM_receive_514 (by decide) ?_
                                      exact zq_iret hx hb hr hlocks dM_receive_515 (rfl) hAe (by rw [show upd rch k (zm_odd (rch k)) = upd rch k ((rch k) + 1) from congrArg (upd rch k) (if_pos h20)]; rw [show va_up nn k (zs_c8 (nn k)) = va_up nn k 8 from congrArg (va_up nn k) (if_neg h22n)]; rw [show zm_push off k (zm_half ((zm_rd pk 32 8) - (xp k)) ((zm_rd pk 40 8) - loc)) = vp_updL (zm_sft off (8 * k) 0) (8 * k) (zm_half ((zm_rd pk 32 8) - (xp k)) ((zm_rd pk 40 8) - loc)) from rfl]; rw [show zm_push del k (zm_dly ((loc - (xp k)) - ((zm_rd pk 40 8) - (zm_rd pk 32 8)))) = vp_updL (zm_sft del (8 * k) 0) (8 * k) dly9 from congrArg (fun z => vp_updL (zm_sft del (8 * k) 0) (8 * k) z) ((if_pos h10).trans hdly.symm)]; rw [show zm_push cam k loc = vp_updL (zm_sft cam (8 * k) 0) (8 * k) loc from rfl]; exact hP) (by rw [show upd rch k (zm_odd (rch k)) = upd rch k ((rch k) + 1) from congrArg (upd rch k) (if_pos h20)]; rw [show va_up nn k (zs_c8 (nn k)) = va_up nn k 8 from congrArg (va_up nn k) (if_neg h22n)]; rw [show zm_push off k (zm_half ((zm_rd pk 32 8) - (xp k)) ((zm_rd pk 40 8) - loc)) = vp_updL (zm_sft off (8 * k) 0) (8 * k) (zm_half ((zm_rd pk 32 8) - (xp k)) ((zm_rd pk 40 8) - loc)) from rfl]; rw [show zm_push del k (zm_dly ((loc - (xp k)) - ((zm_rd pk 40 8) - (zm_rd pk 32 8)))) = vp_updL (zm_sft del (8 * k) 0) (8 * k) dly9 from congrArg (fun z => vp_updL (zm_sft del (8 * k) 0) (8 * k) z) ((if_pos h10).trans hdly.symm)]; rw [show zm_push cam k loc = vp_updL (zm_sft cam (8 * k) 0) (8 * k) loc from rfl]; exact hD) hS
                                    · have h22n := (zz_ltN (a := (nn k)) (b := 8) rfl rfl (by omega) (by omega)).mp h22
                                      refine lv_aload_n hx hb dM_receive_500 rfl (lv_at hl 0 rfl) ?_
                                      refine zz_getM hx hb hT hown hK hP 0 rfl 13 (by decide) tw_630 rfl dM_receive_501 ?_
                                      refine lv_iload_n hx hb dM_receive_504 rfl (lv_at hl 1 rfl) ?_
                                      refine zz_iald hx hb hK hP 10 1 rfl rfl k rfl (by first | omega | decide | assumption) (by decide) dM_receive_505 ?_
                                      refine lv_iconst (v := 1) hx hb dM_receive_506 (by decide) ?_
                                      refine lv_iadd hx hb dM_receive_507 ?_
                                      refine zz_ti (y := nI (nn k + 1)) ((nI_succ _).symm) ?_
                                      refine lv_goto (tgt := 513) hx hb dM_receive_508 (by decide) ?_
                                      refine zq_iast hx hb hK hP hD hS 10 1 rfl rfl k rfl (by first | omega | decide | assumption) (by decide) dM_receive_513 (fun H locs hP hD hS => ?_)
                                      have hP : va_P (dC, dI) vcl (zm_W o ad cI cJ cZ 0 loc slw wst pk den (upd rch k ((rch k) + 1)) pol (upd ask k 0) xp (upd str k (pk 1)) (vp_updL rdl k ((zm_rd pk 4 4) * 65536)) (vp_updL rds k ((zm_rd pk 8 4) * 65536)) (va_up nn k (nn k + 1)) (vp_updL (zm_sft off (8 * k) 0) (8 * k) (zm_half ((zm_rd pk 32 8) - (xp k)) ((zm_rd pk 40 8) - loc))) (vp_updL (zm_sft del (8 * k) 0) (8 * k) dly9) (vp_updL (zm_sft cam (8 * k) 0) (8 * k) loc) ins low high) H := (by have h9 := hP; rw [zm_upn] at h9; exact h9)
                                      have hD : va_D A (zm_W o ad cI cJ cZ 0 loc slw wst pk den (upd rch k ((rch k) + 1)) pol (upd ask k 0) xp (upd str k (pk 1)) (vp_updL rdl k ((zm_rd pk 4 4) * 65536)) (vp_updL rds k ((zm_rd pk 8 4) * 65536)) (va_up nn k (nn k + 1)) (vp_updL (zm_sft off (8 * k) 0) (8 * k) (zm_half ((zm_rd pk 32 8) - (xp k)) ((zm_rd pk 40 8) - loc))) (vp_updL (zm_sft del (8 * k) 0) (8 * k) dly9) (vp_updL (zm_sft cam (8 * k) 0) (8 * k) loc) ins low high) := (by have h9 := hD; rw [zm_upn] at h9; exact h9)
                                      refine lv_iconst (v := 0) hx hb dM_receive_514 (by decide) ?_
                                      exact zq_iret hx hb hr hlocks dM_receive_515 (rfl) hAe (by rw [show upd rch k (zm_odd (rch k)) = upd rch k ((rch k) + 1) from congrArg (upd rch k) (if_pos h20)]; rw [show va_up nn k (zs_c8 (nn k)) = va_up nn k (nn k + 1) from congrArg (va_up nn k) (if_pos h22n)]; rw [show zm_push off k (zm_half ((zm_rd pk 32 8) - (xp k)) ((zm_rd pk 40 8) - loc)) = vp_updL (zm_sft off (8 * k) 0) (8 * k) (zm_half ((zm_rd pk 32 8) - (xp k)) ((zm_rd pk 40 8) - loc)) from rfl]; rw [show zm_push del k (zm_dly ((loc - (xp k)) - ((zm_rd pk 40 8) - (zm_rd pk 32 8)))) = vp_updL (zm_sft del (8 * k) 0) (8 * k) dly9 from congrArg (fun z => vp_updL (zm_sft del (8 * k) 0) (8 * k) z) ((if_pos h10).trans hdly.symm)]; rw [show zm_push cam k loc = vp_updL (zm_sft cam (8 * k) 0) (8 * k) loc from rfl]; exact hP) (by rw [show upd rch k (zm_odd (rch k)) = upd rch k ((rch k) + 1) from congrArg (upd rch k) (if_pos h20)]; rw [show va_up nn k (zs_c8 (nn k)) = va_up nn k (nn k + 1) from congrArg (va_up nn k) (if_pos h22n)]; rw [show zm_push off k (zm_half ((zm_rd pk 32 8) - (xp k)) ((zm_rd pk 40 8) - loc)) = vp_updL (zm_sft off (8 * k) 0) (8 * k) (zm_half ((zm_rd pk 32 8) - (xp k)) ((zm_rd pk 40 8) - loc)) from rfl]; rw [show zm_push del k (zm_dly ((loc - (xp k)) - ((zm_rd pk 40 8) - (zm_rd pk 32 8)))) = vp_updL (zm_sft del (8 * k) 0) (8 * k) dly9 from congrArg (fun z => vp_updL (zm_sft del (8 * k) 0) (8 * k) z) ((if_pos h10).trans hdly.symm)]; rw [show zm_push cam k loc = vp_updL (zm_sft cam (8 * k) 0) (8 * k) loc from rfl]; exact hD) hS
                                  · have hl : lv_has ls 16 [(0, .ref o), (1, .int (nI k)), (9, .long (zm_half ((zm_rd pk 32 8) - (xp k)) ((zm_rd pk 40 8) - loc))), (11, .long dly9), (15, .int (nI (i + 1)))] := hl
                                    refine lv_iload hx hb dM_receive_360 (lv_at hl 4 rfl) ?_
                                    refine zz_zle (tgt := 449) hx hb dM_receive_362 (by decide) (fun h => absurd ((zz_ltN (a := 0) (b := (i + 1)) rfl rfl (by omega) (by omega)).mpr (by omega)) h) (fun _ => ?_)
                                    refine lv_aload_n hx hb dM_receive_365 rfl (lv_at hl 0 rfl) ?_
                                    refine zz_getM hx hb hT hown hK hP 0 rfl 14 (by decide) tw_631 rfl dM_receive_366 ?_
                                    refine lv_bipush (v := 8) hx hb dM_receive_369 (by decide) ?_
                                    refine lv_iload_n hx hb dM_receive_371 rfl (lv_at hl 1 rfl) ?_
                                    refine lv_imul hx hb dM_receive_372 ?_
                                    refine zz_ti (y := nI (8 * k)) (pk_mul 8 k) ?_
                                    refine lv_iload hx hb dM_receive_373 (lv_at hl 4 rfl) ?_
                                    refine lv_iadd hx hb dM_receive_375 ?_
                                    refine zz_ti (y := nI (8 * k + (i + 1))) (nI_add _ _) ?_
                                    refine lv_aload_n hx hb dM_receive_376 rfl (lv_at hl 0 rfl) ?_
                                    refine zz_getM hx hb hT hown hK hP 0 rfl 14 (by decide) tw_631 rfl dM_receive_377 ?_
                                    refine lv_bipush (v := 8) hx hb dM_receive_380 (by decide) ?_
                                    refine lv_iload_n hx hb dM_receive_382 rfl (lv_at hl 1 rfl) ?_
                                    refine lv_imul hx hb dM_receive_383 ?_
                                    refine zz_ti (y := nI (8 * k)) (pk_mul 8 k) ?_
                                    refine lv_iload hx hb dM_receive_384 (lv_at hl 4 rfl) ?_
                                    refine lv_iadd hx hb dM_receive_386 ?_
                                    refine zz_ti (y := nI (8 * k + (i + 1))) (nI_add _ _) ?_
                                    refine lv_iconst (v := 1) hx hb dM_receive_387 (by decide) ?_
                                    refine lv_isub hx hb dM_receive_388 ?_
                                    refine zz_ti (y := nI (8 * k + i)) (nI_pred _) ?_
                                    refine zz_lald hx hb hK hP 11 0 rfl rfl (8 * k + i) rfl (by first | omega | decide | assumption) (by decide) dM_receive_389 ?_
                                    refine zq_last hx hb hK hP hD hS 11 0 rfl rfl (8 * k + (i + 1)) rfl (by first | omega | decide | assumption) (by decide) dM_receive_390 (fun H locs hP hD hS => ?_)
                                    have hP : va_P (dC, dI) vcl (zm_W o ad cI cJ cZ 0 loc slw wst pk den (upd rch k ((rch k) + 1)) pol (upd ask k 0) xp (upd str k (pk 1)) (vp_updL rdl k ((zm_rd pk 4 4) * 65536)) (vp_updL rds k ((zm_rd pk 8 4) * 65536)) nn (vp_updL (zm_sft off (8 * k) (i + 1)) (8 * k + (i + 1)) ((zm_sft off (8 * k) (i + 1)) (8 * k + i))) (zm_sft del (8 * k) (i + 1)) (zm_sft cam (8 * k) (i + 1)) ins low high) H := hP
                                    have hD : va_D A (zm_W o ad cI cJ cZ 0 loc slw wst pk den (upd rch k ((rch k) + 1)) pol (upd ask k 0) xp (upd str k (pk 1)) (vp_updL rdl k ((zm_rd pk 4 4) * 65536)) (vp_updL rds k ((zm_rd pk 8 4) * 65536)) nn (vp_updL (zm_sft off (8 * k) (i + 1)) (8 * k + (i + 1)) ((zm_sft off (8 * k) (i + 1)) (8 * k + i))) (zm_sft del (8 * k) (i + 1)) (zm_sft cam (8 * k) (i + 1)) ins low high) := hD
                                    refine lv_aload_n hx hb dM_receive_391 rfl (lv_at hl 0 rfl) ?_
                                    refine zz_getM hx hb hT hown hK hP 0 rfl 15 (by decide) tw_632 rfl dM_receive_392 ?_
                                    refine lv_bipush (v := 8) hx hb dM_receive_395 (by decide) ?_
                                    refine lv_iload_n hx hb dM_receive_397 rfl (lv_at hl 1 rfl) ?_
                                    refine lv_imul hx hb dM_receive_398 ?_
                                    refine zz_ti (y := nI (8 * k)) (pk_mul 8 k) ?_
                                    refine lv_iload hx hb dM_receive_399 (lv_at hl 4 rfl) ?_
                                    refine lv_iadd hx hb dM_receive_401 ?_
                                    refine zz_ti (y := nI (8 * k + (i + 1))) (nI_add _ _) ?_
                                    refine lv_aload_n hx hb dM_receive_402 rfl (lv_at hl 0 rfl) ?_
                                    refine zz_getM hx hb hT hown hK hP 0 rfl 15 (by decide) tw_632 rfl dM_receive_403 ?_
                                    refine lv_bipush (v := 8) hx hb dM_receive_406 (by decide) ?_
                                    refine lv_iload_n hx hb dM_receive_408 rfl (lv_at hl 1 rfl) ?_
                                    refine lv_imul hx hb dM_receive_409 ?_
                                    refine zz_ti (y := nI (8 * k)) (pk_mul 8 k) ?_
                                    refine lv_iload hx hb dM_receive_410 (lv_at hl 4 rfl) ?_
                                    refine lv_iadd hx hb dM_receive_412 ?_
                                    refine zz_ti (y := nI (8 * k + (i + 1))) (nI_add _ _) ?_
                                    refine lv_iconst (v := 1) hx hb dM_receive_413 (by decide) ?_
                                    refine lv_isub hx hb dM_receive_414 ?_
                                    refine zz_ti (y := nI (8 * k + i)) (nI_pred _) ?_
                                    refine zz_lald hx hb hK hP 12 0 rfl rfl (8 * k + i) rfl (by first | omega | decide | assumption) (by decide) dM_receive_415 ?_
                                    refine zq_last hx hb hK hP hD hS 12 0 rfl rfl (8 * k + (i + 1)) rfl (by first | omega | decide | assumption) (by decide) dM_receive_416 (fun H locs hP hD hS => ?_)
                                    have hP : va_P (dC, dI) vcl (zm_W o ad cI cJ cZ 0 loc slw wst pk den (upd rch k ((rch k) + 1)) pol (upd ask k 0) xp (upd str k (pk 1)) (vp_updL rdl k ((zm_rd pk 4 4) * 65536)) (vp_updL rds k ((zm_rd pk 8 4) * 65536)) nn (vp_updL (zm_sft off (8 * k) (i + 1)) (8 * k + (i + 1)) ((zm_sft off (8 * k) (i + 1)) (8 * k + i))) (vp_updL (zm_sft del (8 * k) (i + 1)) (8 * k + (i + 1)) ((zm_sft del (8 * k) (i + 1)) (8 * k + i))) (zm_sft cam (8 * k) (i + 1)) ins low high) H := hP
                                    have hD : va_D A (zm_W o ad cI cJ cZ 0 loc slw wst pk den (upd rch k ((rch k) + 1)) pol (upd ask k 0) xp (upd str k (pk 1)) (vp_updL rdl k ((zm_rd pk 4 4) * 65536)) (vp_updL rds k ((zm_rd pk 8 4) * 65536)) nn (vp_updL (zm_sft off (8 * k) (i + 1)) (8 * k + (i + 1)) ((zm_sft off (8 * k) (i + 1)) (8 * k + i))) (vp_updL (zm_sft del (8 * k) (i + 1)) (8 * k + (i + 1)) ((zm_sft del (8 * k) (i + 1)) (8 * k + i))) (zm_sft cam (8 * k) (i + 1)) ins low high) := hD
                                    refine lv_aload_n hx hb dM_receive_417 rfl (lv_at hl 0 rfl) ?_
                                    refine zz_getM hx hb hT hown hK hP 0 rfl 16 (by decide) tw_633 rfl dM_receive_418 ?_
                                    refine lv_bipush (v := 8) hx hb dM_receive_421 (by decide) ?_
                                    refine lv_iload_n hx hb dM_receive_423 rfl (lv_at hl 1 rfl) ?_
                                    refine lv_imul hx hb dM_receive_424 ?_
                                    refine zz_ti (y := nI (8 * k)) (pk_mul 8 k) ?_
                                    refine lv_iload hx hb dM_receive_425 (lv_at hl 4 rfl) ?_
                                    refine lv_iadd hx hb dM_receive_427 ?_
                                    refine zz_ti (y := nI (8 * k + (i + 1))) (nI_add _ _) ?_
                                    refine lv_aload_n hx hb dM_receive_428 rfl (lv_at hl 0 rfl) ?_
                                    refine zz_getM hx hb hT hown hK hP 0 rfl 16 (by decide) tw_633 rfl dM_receive_429 ?_
                                    refine lv_bipush (v := 8) hx hb dM_receive_432 (by decide) ?_
                                    refine lv_iload_n hx hb dM_receive_434 rfl (lv_at hl 1 rfl) ?_
                                    refine lv_imul hx hb dM_receive_435 ?_
                                    refine zz_ti (y := nI (8 * k)) (pk_mul 8 k) ?_
                                    refine lv_iload hx hb dM_receive_436 (lv_at hl 4 rfl) ?_
                                    refine lv_iadd hx hb dM_receive_438 ?_
                                    refine zz_ti (y := nI (8 * k + (i + 1))) (nI_add _ _) ?_
                                    refine lv_iconst (v := 1) hx hb dM_receive_439 (by decide) ?_
                                    refine lv_isub hx hb dM_receive_440 ?_
                                    refine zz_ti (y := nI (8 * k + i)) (nI_pred _) ?_
                                    refine zz_lald hx hb hK hP 13 0 rfl rfl (8 * k + i) rfl (by first | omega | decide | assumption) (by decide) dM_receive_441 ?_
                                    refine zq_last hx hb hK hP hD hS 13 0 rfl rfl (8 * k + (i + 1)) rfl (by first | omega | decide | assumption) (by decide) dM_receive_442 (fun H locs hP hD hS => ?_)
                                    have hP : va_P (dC, dI) vcl (zm_W o ad cI cJ cZ 0 loc slw wst pk den (upd rch k ((rch k) + 1)) pol (upd ask k 0) xp (upd str k (pk 1)) (vp_updL rdl k ((zm_rd pk 4 4) * 65536)) (vp_updL rds k ((zm_rd pk 8 4) * 65536)) nn (vp_updL (zm_sft off (8 * k) (i + 1)) (8 * k + (i + 1)) ((zm_sft off (8 * k) (i + 1)) (8 * k + i))) (vp_updL (zm_sft del (8 * k) (i + 1)) (8 * k + (i + 1)) ((zm_sft del (8 * k) (i + 1)) (8 * k + i))) (vp_updL (zm_sft cam (8 * k) (i + 1)) (8 * k + (i + 1)) ((zm_sft cam (8 * k) (i + 1)) (8 * k + i))) ins low high) H := hP
                                    have hD : va_D A (zm_W o ad cI cJ cZ 0 loc slw wst pk den (upd rch k ((rch k) + 1)) pol (upd ask k 0) xp (upd str k (pk 1)) (vp_updL rdl k ((zm_rd pk 4 4) * 65536)) (vp_updL rds k ((zm_rd pk 8 4) * 65536)) nn (vp_updL (zm_sft off (8 * k) (i + 1)) (8 * k + (i + 1)) ((zm_sft off (8 * k) (i + 1)) (8 * k + i))) (vp_updL (zm_sft del (8 * k) (i + 1)) (8 * k + (i + 1)) ((zm_sft del (8 * k) (i + 1)) (8 * k + i))) (vp_updL (zm_sft cam (8 * k) (i + 1)) (8 * k + (i + 1)) ((zm_sft cam (8 * k) (i + 1)) (8 * k + i))) ins low high) := hD
                                    refine lv_iinc (k := 4) (v := nI i) (lv' := [(15, .int (nI i)), (0, .ref o), (1, .int (nI k)), (9, .long (zm_half ((zm_rd pk 32 8) - (xp k)) ((zm_rd pk 40 8) - loc))), (11, .long dly9)]) hx hb dM_receive_443 hl rfl (pk_m1 _) (by decide) rfl (fun ls hl => ?_)
                                    refine lv_goto (tgt := 360) hx hb dM_receive_446 (by decide) ?_
                                    exact ih_lp i _ _ (by omega) (by omega) (by rw [show zm_sft off (8 * k) i = vp_updL (zm_sft off (8 * k) (i + 1)) (8 * k + (i + 1)) ((zm_sft off (8 * k) (i + 1)) (8 * k + i)) from zm_sft_s _ _ (by omega)]; rw [show zm_sft del (8 * k) i = vp_updL (zm_sft del (8 * k) (i + 1)) (8 * k + (i + 1)) ((zm_sft del (8 * k) (i + 1)) (8 * k + i)) from zm_sft_s _ _ (by omega)]; rw [show zm_sft cam (8 * k) i = vp_updL (zm_sft cam (8 * k) (i + 1)) (8 * k + (i + 1)) ((zm_sft cam (8 * k) (i + 1)) (8 * k + i)) from zm_sft_s _ _ (by omega)]; exact hP) (by rw [show zm_sft off (8 * k) i = vp_updL (zm_sft off (8 * k) (i + 1)) (8 * k + (i + 1)) ((zm_sft off (8 * k) (i + 1)) (8 * k + i)) from zm_sft_s _ _ (by omega)]; rw [show zm_sft del (8 * k) i = vp_updL (zm_sft del (8 * k) (i + 1)) (8 * k + (i + 1)) ((zm_sft del (8 * k) (i + 1)) (8 * k + i)) from zm_sft_s _ _ (by omega)]; rw [show zm_sft cam (8 * k) i = vp_updL (zm_sft cam (8 * k) (i + 1)) (8 * k + (i + 1)) ((zm_sft cam (8 * k) (i + 1)) (8 * k + i)) from zm_sft_s _ _ (by omega)]; exact hD) hS _ (lv_sub hl [1, 2, 3, 4, 0] rfl)
                              exact lp (7 + 1) 7 _ _ (by omega) (Nat.le_refl _) (by rw [show zm_sft off (8 * k) 7 = off from zm_sft_7 _ _]; rw [show zm_sft del (8 * k) 7 = del from zm_sft_7 _ _]; rw [show zm_sft cam (8 * k) 7 = cam from zm_sft_7 _ _]; exact hP) (by rw [show zm_sft off (8 * k) 7 = off from zm_sft_7 _ _]; rw [show zm_sft del (8 * k) 7 = del from zm_sft_7 _ _]; rw [show zm_sft cam (8 * k) 7 = cam from zm_sft_7 _ _]; exact hD) hS _ (by rw [show nI 7 = 7 from rfl]; exact lv_sub hl [8, 9, 3, 2, 0] rfl)
                          · exact absurd (Or.inr (Or.inr h19)) hwi
                  · exact absurd (Or.inr h9) hu
              · exact absurd h7 hs0
            · exact absurd hd2 h6
