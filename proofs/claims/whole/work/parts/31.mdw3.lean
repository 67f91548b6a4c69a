/-! The model: what it shows of a server -/
set_option maxHeartbeats 4000000 in
set_option maxRecDepth 100000 in
theorem ct_M_reach_no (l : Launch) {dC : Nat → ClassId} {dI : Nat → Nat → Nat} {cJ cI cB cZ cS : ClassId} {sz : Nat} {o : Nat} {ad : Nat → Nat} {thr wst : Int32} {loc slw low high : Int64} {pk den rch pol ask str ins : Nat → Int32} {xp rdl rds off del cam : Nat → Int64} {nn : Nat → Nat} {x : Int32} (hx9 : zm_isv x = 0) : Met l yM_reach [Cond.code yM_reach cM_reach 2 (some .int)] { frames := 1, cells := 0, slots := 0, locals := 20 } (va_Pc [.ref o, .int x] (zq_B (dC, dI) vcl (zz_T cJ cI cB cZ cS) (zm_W o ad cI cJ cZ thr loc slw wst pk den rch pol ask xp str rdl rds nn off del cam ins low high) sz)) (zq_Q (dC, dI) vcl (some (.int 0)) (zm_W o ad cI cJ cZ thr loc slw wst pk den rch pol ask xp str rdl rds nn off del cam ins low high) (zm_W o ad cI cJ cZ 1 loc slw wst pk den rch pol ask xp str rdl rds nn off del cam ins low high) sz) 0 0 (va_A (zm_W o ad cI cJ cZ thr loc slw wst pk den rch pol ask xp str rdl rds nn off del cam ins low high) sz) := by
  refine Met.ofW (cc := cM_reach) (maxL := 2) (ret := (some .int)) (by decide) rfl ?_
  intro p e s m args below meth c s₁ B hml hv
  obtain ⟨rfl, hsz, hT, hP, hK, hD0⟩ := hv
  subst hsz
  have hx := B.exec
  have hb := B.bytes
  have hr := B.returns
  have hlocks := B.notSynchronized
  have hown : s.vm.findClass RM = some m.cls := findClass_of_methodNamed B.named
  have hD := hD0.self (sz := s.heap.size)
  generalize hAe : va_A (zm_W o ad cI cJ cZ thr loc slw wst pk den rch pol ask xp str rdl rds nn off del cam ins low high) s.heap.size = A at hD ⊢
  have hA : ∀ q : Nat, s.heap.size ≤ q → A q := fun q h => by rw [← hAe]; exact Or.inr h
  have hS : va_S A s.heap s.heap [] := va_S.rf
  have hl := lv_entry ([.ref o, .int x]) (n := 2) (Nat.le_of_ble_eq_true rfl)
  rw [lg_entry_eq]
  generalize (lg_sl ([.ref o, .int x]) ++ List.replicate (2 - (lg_sl ([.ref o, .int x])).length) Slot.unset).toArray = ls at hl ⊢
  have hl : lv_has ls 2 [(0, .ref o), (1, .int x)] := hl
  refine lv_aload_n hx hb dM_reach_0 rfl (lv_at hl 0 rfl) ?_
  refine lv_iload_n hx hb dM_reach_1 rfl (lv_at hl 1 rfl) ?_
  refine zz_call (va_runS (Ts := []) (As := [.int x]) (own := RM) ⟨hx, hb, hml, hown, fun _ h => nomatch h⟩ (ct_M_isServer l) (zt_cs hT tc_M_isServer ts_M_isServer tw_711 ⟨Nat.le_of_ble_eq_true rfl, Nat.le_of_ble_eq_true rfl⟩) (zz_pre0 hT) rfl rfl hl.1 rfl (lv_room (Nat.le_of_ble_eq_true rfl)) dM_reach_2 ⟨Nat.zero_le _, Nat.zero_le _⟩) ?_
  refine zz_ti (y := 0) (hx9) ?_
  refine zz_zeq (tgt := 12) hx hb dM_reach_5 (by decide) (fun _ => ?_) (fun h => absurd h (by decide))
  refine lv_iconst (v := 1) hx hb dM_reach_12 (by decide) ?_
  refine zz_putM (ty := .int) hx hb hT hown hK hP hD hS 0 rfl 0 (by decide) tw_617 rfl (by decide +kernel) rfl rfl (Nat.le_of_ble_eq_true rfl) dM_reach_13 (fun H locs hP hD hS => ?_)
  have hP : va_P (dC, dI) vcl (zm_W o ad cI cJ cZ 1 loc slw wst pk den rch pol ask xp str rdl rds nn off del cam ins low high) H := hP
  have hD : va_D A (zm_W o ad cI cJ cZ 1 loc slw wst pk den rch pol ask xp str rdl rds nn off del cam ins low high) := hD
  refine lv_aload_n hx hb dM_reach_16 rfl (lv_at hl 0 rfl) ?_
  refine zz_getM hx hb hT hown hK hP 0 rfl 0 (by decide) tw_617 rfl dM_reach_17 ?_
  refine zz_zle (tgt := 27) hx hb dM_reach_20 (by decide) (fun h => absurd h (by decide)) (fun _ => ?_)
  refine lv_iconst (v := 0) hx hb dM_reach_23 (by decide) ?_
  refine lv_goto (tgt := 55) hx hb dM_reach_24 (by decide) ?_
  exact zq_iret hx hb hr hlocks dM_reach_55 (rfl) hAe hP hD hS
set_option maxHeartbeats 4000000 in
set_option maxRecDepth 100000 in
theorem ct_M_reach (l : Launch) {dC : Nat → ClassId} {dI : Nat → Nat → Nat} {cJ cI cB cZ cS : ClassId} {sz : Nat} {o : Nat} {ad : Nat → Nat} {thr wst : Int32} {loc slw low high : Int64} {pk den rch pol ask str ins : Nat → Int32} {xp rdl rds off del cam : Nat → Int64} {nn : Nat → Nat} {k : Nat} (hk : k < 5) : Met l yM_reach [Cond.code yM_reach cM_reach 2 (some .int)] { frames := 1, cells := 0, slots := 0, locals := 20 } (va_Pc [.ref o, .int (nI k)] (zq_B (dC, dI) vcl (zz_T cJ cI cB cZ cS) (zm_W o ad cI cJ cZ thr loc slw wst pk den rch pol ask xp str rdl rds nn off del cam ins low high) sz)) (zq_Q (dC, dI) vcl (some (.int (zm_rea den rch k))) (zm_W o ad cI cJ cZ thr loc slw wst pk den rch pol ask xp str rdl rds nn off del cam ins low high) (zm_W o ad cI cJ cZ 0 loc slw wst pk den rch pol ask xp str rdl rds nn off del cam ins low high) sz) 0 0 (va_A (zm_W o ad cI cJ cZ thr loc slw wst pk den rch pol ask xp str rdl rds nn off del cam ins low high) sz) := by
  refine Met.ofW (cc := cM_reach) (maxL := 2) (ret := (some .int)) (by decide) rfl ?_
  intro p e s m args below meth c s₁ B hml hv
  obtain ⟨rfl, hsz, hT, hP, hK, hD0⟩ := hv
  subst hsz
  have hx := B.exec
  have hb := B.bytes
  have hr := B.returns
  have hlocks := B.notSynchronized
  have hown : s.vm.findClass RM = some m.cls := findClass_of_methodNamed B.named
  have hD := hD0.self (sz := s.heap.size)
  generalize hAe : va_A (zm_W o ad cI cJ cZ thr loc slw wst pk den rch pol ask xp str rdl rds nn off del cam ins low high) s.heap.size = A at hD ⊢
  have hA : ∀ q : Nat, s.heap.size ≤ q → A q := fun q h => by rw [← hAe]; exact Or.inr h
  have hS : va_S A s.heap s.heap [] := va_S.rf
  have hl := lv_entry ([.ref o, .int (nI k)]) (n := 2) (Nat.le_of_ble_eq_true rfl)
  rw [lg_entry_eq]
  generalize (lg_sl ([.ref o, .int (nI k)]) ++ List.replicate (2 - (lg_sl ([.ref o, .int (nI k)])).length) Slot.unset).toArray = ls at hl ⊢
  have hl : lv_has ls 2 [(0, .ref o), (1, .int (nI k))] := hl
  refine lv_aload_n hx hb dM_reach_0 rfl (lv_at hl 0 rfl) ?_
  refine lv_iload_n hx hb dM_reach_1 rfl (lv_at hl 1 rfl) ?_
  refine zz_call (va_runS (Ts := []) (As := [.int (nI k)]) (own := RM) ⟨hx, hb, hml, hown, fun _ h => nomatch h⟩ (ct_M_isServer l) (zt_cs hT tc_M_isServer ts_M_isServer tw_711 ⟨Nat.le_of_ble_eq_true rfl, Nat.le_of_ble_eq_true rfl⟩) (zz_pre0 hT) rfl rfl hl.1 rfl (lv_room (Nat.le_of_ble_eq_true rfl)) dM_reach_2 ⟨Nat.zero_le _, Nat.zero_le _⟩) ?_
  refine zz_ti (y := 1) (zm_isv_k hk) ?_
  refine zz_zeq (tgt := 12) hx hb dM_reach_5 (by decide) (fun h => absurd h (by decide)) (fun _ => ?_)
  refine lv_iconst (v := 0) hx hb dM_reach_8 (by decide) ?_
  refine lv_goto (tgt := 13) hx hb dM_reach_9 (by decide) ?_
  refine zz_putM (ty := .int) hx hb hT hown hK hP hD hS 0 rfl 0 (by decide) tw_617 rfl (by decide +kernel) rfl rfl (Nat.le_of_ble_eq_true rfl) dM_reach_13 (fun H locs hP hD hS => ?_)
  have hP : va_P (dC, dI) vcl (zm_W o ad cI cJ cZ 0 loc slw wst pk den rch pol ask xp str rdl rds nn off del cam ins low high) H := hP
  have hD : va_D A (zm_W o ad cI cJ cZ 0 loc slw wst pk den rch pol ask xp str rdl rds nn off del cam ins low high) := hD
  refine lv_aload_n hx hb dM_reach_16 rfl (lv_at hl 0 rfl) ?_
  refine zz_getM hx hb hT hown hK hP 0 rfl 0 (by decide) tw_617 rfl dM_reach_17 ?_
  refine zz_zle (tgt := 27) hx hb dM_reach_20 (by decide) (fun _ => ?_) (fun h => absurd h (by decide))
  refine lv_aload_n hx hb dM_reach_27 rfl (lv_at hl 0 rfl) ?_
  refine zz_getM hx hb hT hown hK hP 0 rfl 5 (by decide) tw_622 rfl dM_reach_28 ?_
  refine lv_iload_n hx hb dM_reach_31 rfl (lv_at hl 1 rfl) ?_
  refine zz_zald hx hb hK hP 2 3 rfl rfl k rfl (by first | omega | decide | assumption) (by decide) dM_reach_32 ?_
  refine zz_zeq (tgt := 49) hx hb dM_reach_33 (by decide) (fun h1 => ?_) (fun h1 => ?_)
  · refine lv_aload_n hx hb dM_reach_49 rfl (lv_at hl 0 rfl) ?_
    refine zz_getM hx hb hT hown hK hP 0 rfl 6 (by decide) tw_623 rfl dM_reach_50 ?_
    refine lv_iload_n hx hb dM_reach_53 rfl (lv_at hl 1 rfl) ?_
    refine zz_iald hx hb hK hP 3 1 rfl rfl k rfl (by first | omega | decide | assumption) (by decide) dM_reach_54 ?_
    exact zq_iret hx hb hr hlocks dM_reach_55 ((if_pos h1).symm) hAe hP hD hS
  · refine lv_aload_n hx hb dM_reach_36 rfl (lv_at hl 0 rfl) ?_
    refine zz_getM hx hb hT hown hK hP 0 rfl 6 (by decide) tw_623 rfl dM_reach_37 ?_
    refine lv_iload_n hx hb dM_reach_40 rfl (lv_at hl 1 rfl) ?_
    refine zz_iald hx hb hK hP 3 1 rfl rfl k rfl (by first | omega | decide | assumption) (by decide) dM_reach_41 ?_
    refine lv_sipush (v := 256) hx hb dM_reach_42 (by decide) ?_
    refine lv_iadd hx hb dM_reach_45 ?_
    refine lv_goto (tgt := 55) hx hb dM_reach_46 (by decide) ?_
    exact zq_iret hx hb hr hlocks dM_reach_55 ((if_neg h1).symm) hAe hP hD hS
set_option maxHeartbeats 4000000 in
set_option maxRecDepth 100000 in
theorem ct_M_poll_no (l : Launch) {dC : Nat → ClassId} {dI : Nat → Nat → Nat} {cJ cI cB cZ cS : ClassId} {sz : Nat} {o : Nat} {ad : Nat → Nat} {thr wst : Int32} {loc slw low high : Int64} {pk den rch pol ask str ins : Nat → Int32} {xp rdl rds off del cam : Nat → Int64} {nn : Nat → Nat} {x : Int32} (hx9 : zm_isv x = 0) : Met l yM_poll [Cond.code yM_poll cM_poll 2 (some .int)] { frames := 1, cells := 0, slots := 0, locals := 20 } (va_Pc [.ref o, .int x] (zq_B (dC, dI) vcl (zz_T cJ cI cB cZ cS) (zm_W o ad cI cJ cZ thr loc slw wst pk den rch pol ask xp str rdl rds nn off del cam ins low high) sz)) (zq_Q (dC, dI) vcl (some (.int 0)) (zm_W o ad cI cJ cZ thr loc slw wst pk den rch pol ask xp str rdl rds nn off del cam ins low high) (zm_W o ad cI cJ cZ 1 loc slw wst pk den rch pol ask xp str rdl rds nn off del cam ins low high) sz) 0 0 (va_A (zm_W o ad cI cJ cZ thr loc slw wst pk den rch pol ask xp str rdl rds nn off del cam ins low high) sz) := by
  refine Met.ofW (cc := cM_poll) (maxL := 2) (ret := (some .int)) (by decide) rfl ?_
  intro p e s m args below meth c s₁ B hml hv
  obtain ⟨rfl, hsz, hT, hP, hK, hD0⟩ := hv
  subst hsz
  have hx := B.exec
  have hb := B.bytes
  have hr := B.returns
  have hlocks := B.notSynchronized
  have hown : s.vm.findClass RM = some m.cls := findClass_of_methodNamed B.named
  have hD := hD0.self (sz := s.heap.size)
  generalize hAe : va_A (zm_W o ad cI cJ cZ thr loc slw wst pk den rch pol ask xp str rdl rds nn off del cam ins low high) s.heap.size = A at hD ⊢
  have hA : ∀ q : Nat, s.heap.size ≤ q → A q := fun q h => by rw [← hAe]; exact Or.inr h
  have hS : va_S A s.heap s.heap [] := va_S.rf
  have hl := lv_entry ([.ref o, .int x]) (n := 2) (Nat.le_of_ble_eq_true rfl)
  rw [lg_entry_eq]
  generalize (lg_sl ([.ref o, .int x]) ++ List.replicate (2 - (lg_sl ([.ref o, .int x])).length) Slot.unset).toArray = ls at hl ⊢
  have hl : lv_has ls 2 [(0, .ref o), (1, .int x)] := hl
  refine lv_aload_n hx hb dM_poll_0 rfl (lv_at hl 0 rfl) ?_
  refine lv_iload_n hx hb dM_poll_1 rfl (lv_at hl 1 rfl) ?_
  refine zz_call (va_runS (Ts := []) (As := [.int x]) (own := RM) ⟨hx, hb, hml, hown, fun _ h => nomatch h⟩ (ct_M_isServer l) (zt_cs hT tc_M_isServer ts_M_isServer tw_711 ⟨Nat.le_of_ble_eq_true rfl, Nat.le_of_ble_eq_true rfl⟩) (zz_pre0 hT) rfl rfl hl.1 rfl (lv_room (Nat.le_of_ble_eq_true rfl)) dM_poll_2 ⟨Nat.zero_le _, Nat.zero_le _⟩) ?_
  refine zz_ti (y := 0) (hx9) ?_
  refine zz_zeq (tgt := 12) hx hb dM_poll_5 (by decide) (fun _ => ?_) (fun h => absurd h (by decide))
  refine lv_iconst (v := 1) hx hb dM_poll_12 (by decide) ?_
  refine zz_putM (ty := .int) hx hb hT hown hK hP hD hS 0 rfl 0 (by decide) tw_617 rfl (by decide +kernel) rfl rfl (Nat.le_of_ble_eq_true rfl) dM_poll_13 (fun H locs hP hD hS => ?_)
  have hP : va_P (dC, dI) vcl (zm_W o ad cI cJ cZ 1 loc slw wst pk den rch pol ask xp str rdl rds nn off del cam ins low high) H := hP
  have hD : va_D A (zm_W o ad cI cJ cZ 1 loc slw wst pk den rch pol ask xp str rdl rds nn off del cam ins low high) := hD
  refine lv_aload_n hx hb dM_poll_16 rfl (lv_at hl 0 rfl) ?_
  refine zz_getM hx hb hT hown hK hP 0 rfl 0 (by decide) tw_617 rfl dM_poll_17 ?_
  refine zz_zle (tgt := 27) hx hb dM_poll_20 (by decide) (fun h => absurd h (by decide)) (fun _ => ?_)
  refine lv_iconst (v := 0) hx hb dM_poll_23 (by decide) ?_
  refine lv_goto (tgt := 33) hx hb dM_poll_24 (by decide) ?_
  exact zq_iret hx hb hr hlocks dM_poll_33 (rfl) hAe hP hD hS
set_option maxHeartbeats 4000000 in
set_option maxRecDepth 100000 in
theorem ct_M_poll (l : Launch) {dC : Nat → ClassId} {dI : Nat → Nat → Nat} {cJ cI cB cZ cS : ClassId} {sz : Nat} {o : Nat} {ad : Nat → Nat} {thr wst : Int32} {loc slw low high : Int64} {pk den rch pol ask str ins : Nat → Int32} {xp rdl rds off del cam : Nat → Int64} {nn : Nat → Nat} {k : Nat} (hk : k < 5) : Met l yM_poll [Cond.code yM_poll cM_poll 2 (some .int)] { frames := 1, cells := 0, slots := 0, locals := 20 } (va_Pc [.ref o, .int (nI k)] (zq_B (dC, dI) vcl (zz_T cJ cI cB cZ cS) (zm_W o ad cI cJ cZ thr loc slw wst pk den rch pol ask xp str rdl rds nn off del cam ins low high) sz)) (zq_Q (dC, dI) vcl (some (.int (pol k))) (zm_W o ad cI cJ cZ thr loc slw wst pk den rch pol ask xp str rdl rds nn off del cam ins low high) (zm_W o ad cI cJ cZ 0 loc slw wst pk den rch pol ask xp str rdl rds nn off del cam ins low high) sz) 0 0 (va_A (zm_W o ad cI cJ cZ thr loc slw wst pk den rch pol ask xp str rdl rds nn off del cam ins low high) sz) := by
  refine Met.ofW (cc := cM_poll) (maxL := 2) (ret := (some .int)) (by decide) rfl ?_
  intro p e s m args below meth c s₁ B hml hv
  obtain ⟨rfl, hsz, hT, hP, hK, hD0⟩ := hv
  subst hsz
  have hx := B.exec
  have hb := B.bytes
  have hr := B.returns
  have hlocks := B.notSynchronized
  have hown : s.vm.findClass RM = some m.cls := findClass_of_methodNamed B.named
  have hD := hD0.self (sz := s.heap.size)
  generalize hAe : va_A (zm_W o ad cI cJ cZ thr loc slw wst pk den rch pol ask xp str rdl rds nn off del cam ins low high) s.heap.size = A at hD ⊢
  have hA : ∀ q : Nat, s.heap.size ≤ q → A q := fun q h => by rw [← hAe]; exact Or.inr h
  have hS : va_S A s.heap s.heap [] := va_S.rf
  have hl := lv_entry ([.ref o, .int (nI k)]) (n := 2) (Nat.le_of_ble_eq_true rfl)
  rw [lg_entry_eq]
  generalize (lg_sl ([.ref o, .int (nI k)]) ++ List.replicate (2 - (lg_sl ([.ref o, .int (nI k)])).length) Slot.unset).toArray = ls at hl ⊢
  have hl : lv_has ls 2 [(0, .ref o), (1, .int (nI k))] := hl
  refine lv_aload_n hx hb dM_poll_0 rfl (lv_at hl 0 rfl) ?_
  refine lv_iload_n hx hb dM_poll_1 rfl (lv_at hl 1 rfl) ?_
  refine zz_call (va_runS (Ts := []) (As := [.int (nI k)]) (own := RM) ⟨hx, hb, hml, hown, fun _ h => nomatch h⟩ (ct_M_isServer l) (zt_cs hT tc_M_isServer ts_M_isServer tw_711 ⟨Nat.le_of_ble_eq_true rfl, Nat.le_of_ble_eq_true rfl⟩) (zz_pre0 hT) rfl rfl hl.1 rfl (lv_room (Nat.le_of_ble_eq_true rfl)) dM_poll_2 ⟨Nat.zero_le _, Nat.zero_le _⟩) ?_
  refine zz_ti (y := 1) (zm_isv_k hk) ?_
  refine zz_zeq (tgt := 12) hx hb dM_poll_5 (by decide) (fun h => absurd h (by decide)) (fun _ => ?_)
  refine lv_iconst (v := 0) hx hb dM_poll_8 (by decide) ?_
  refine lv_goto (tgt := 13) hx hb dM_poll_9 (by decide) ?_
  refine zz_putM (ty := .int) hx hb hT hown hK hP hD hS 0 rfl 0 (by decide) tw_617 rfl (by decide +kernel) rfl rfl (Nat.le_of_ble_eq_true rfl) dM_poll_13 (fun H locs hP hD hS => ?_)
  have hP : va_P (dC, dI) vcl (zm_W o ad cI cJ cZ 0 loc slw wst pk den rch pol ask xp str rdl rds nn off del cam ins low high) H := hP
  have hD : va_D A (zm_W o ad cI cJ cZ 0 loc slw wst pk den rch pol ask xp str rdl rds nn off del cam ins low high) := hD
  refine lv_aload_n hx hb dM_poll_16 rfl (lv_at hl 0 rfl) ?_
  refine zz_getM hx hb hT hown hK hP 0 rfl 0 (by decide) tw_617 rfl dM_poll_17 ?_
  refine zz_zle (tgt := 27) hx hb dM_poll_20 (by decide) (fun _ => ?_) (fun h => absurd h (by decide))
  refine lv_aload_n hx hb dM_poll_27 rfl (lv_at hl 0 rfl) ?_
  refine zz_getM hx hb hT hown hK hP 0 rfl 7 (by decide) tw_624 rfl dM_poll_28 ?_
  refine lv_iload_n hx hb dM_poll_31 rfl (lv_at hl 1 rfl) ?_
  refine zz_iald hx hb hK hP 4 1 rfl rfl k rfl (by first | omega | decide | assumption) (by decide) dM_poll_32 ?_
  exact zq_iret hx hb hr hlocks dM_poll_33 (rfl) hAe hP hD hS
set_option maxHeartbeats 4000000 in
set_option maxRecDepth 100000 in
theorem ct_M_samples_no (l : Launch) {dC : Nat → ClassId} {dI : Nat → Nat → Nat} {cJ cI cB cZ cS : ClassId} {sz : Nat} {o : Nat} {ad : Nat → Nat} {thr wst : Int32} {loc slw low high : Int64} {pk den rch pol ask str ins : Nat → Int32} {xp rdl rds off del cam : Nat → Int64} {nn : Nat → Nat} {x : Int32} (hx9 : zm_isv x = 0) : Met l yM_samples [Cond.code yM_samples cM_samples 2 (some .int)] { frames := 1, cells := 0, slots := 0, locals := 20 } (va_Pc [.ref o, .int x] (zq_B (dC, dI) vcl (zz_T cJ cI cB cZ cS) (zm_W o ad cI cJ cZ thr loc slw wst pk den rch pol ask xp str rdl rds nn off del cam ins low high) sz)) (zq_Q (dC, dI) vcl (some (.int 0)) (zm_W o ad cI cJ cZ thr loc slw wst pk den rch pol ask xp str rdl rds nn off del cam ins low high) (zm_W o ad cI cJ cZ 1 loc slw wst pk den rch pol ask xp str rdl rds nn off del cam ins low high) sz) 0 0 (va_A (zm_W o ad cI cJ cZ thr loc slw wst pk den rch pol ask xp str rdl rds nn off del cam ins low high) sz) := by
  refine Met.ofW (cc := cM_samples) (maxL := 2) (ret := (some .int)) (by decide) rfl ?_
  intro p e s m args below meth c s₁ B hml hv
  obtain ⟨rfl, hsz, hT, hP, hK, hD0⟩ := hv
  subst hsz
  have hx := B.exec
  have hb := B.bytes
  have hr := B.returns
  have hlocks := B.notSynchronized
  have hown : s.vm.findClass RM = some m.cls := findClass_of_methodNamed B.named
  have hD := hD0.self (sz := s.heap.size)
  generalize hAe : va_A (zm_W o ad cI cJ cZ thr loc slw wst pk den rch pol ask xp str rdl rds nn off del cam ins low high) s.heap.size = A at hD ⊢
  have hA : ∀ q : Nat, s.heap.size ≤ q → A q := fun q h => by rw [← hAe]; exact Or.inr h
  have hS : va_S A s.heap s.heap [] := va_S.rf
  have hl := lv_entry ([.ref o, .int x]) (n := 2) (Nat.le_of_ble_eq_true rfl)
  rw [lg_entry_eq]
  generalize (lg_sl ([.ref o, .int x]) ++ List.replicate (2 - (lg_sl ([.ref o, .int x])).length) Slot.unset).toArray = ls at hl ⊢
  have hl : lv_has ls 2 [(0, .ref o), (1, .int x)] := hl
  refine lv_aload_n hx hb dM_samples_0 rfl (lv_at hl 0 rfl) ?_
  refine lv_iload_n hx hb dM_samples_1 rfl (lv_at hl 1 rfl) ?_
  refine zz_call (va_runS (Ts := []) (As := [.int x]) (own := RM) ⟨hx, hb, hml, hown, fun _ h => nomatch h⟩ (ct_M_isServer l) (zt_cs hT tc_M_isServer ts_M_isServer tw_711 ⟨Nat.le_of_ble_eq_true rfl, Nat.le_of_ble_eq_true rfl⟩) (zz_pre0 hT) rfl rfl hl.1 rfl (lv_room (Nat.le_of_ble_eq_true rfl)) dM_samples_2 ⟨Nat.zero_le _, Nat.zero_le _⟩) ?_
  refine zz_ti (y := 0) (hx9) ?_
  refine zz_zeq (tgt := 12) hx hb dM_samples_5 (by decide) (fun _ => ?_) (fun h => absurd h (by decide))
  refine lv_iconst (v := 1) hx hb dM_samples_12 (by decide) ?_
  refine zz_putM (ty := .int) hx hb hT hown hK hP hD hS 0 rfl 0 (by decide) tw_617 rfl (by decide +kernel) rfl rfl (Nat.le_of_ble_eq_true rfl) dM_samples_13 (fun H locs hP hD hS => ?_)
  have hP : va_P (dC, dI) vcl (zm_W o ad cI cJ cZ 1 loc slw wst pk den rch pol ask xp str rdl rds nn off del cam ins low high) H := hP
  have hD : va_D A (zm_W o ad cI cJ cZ 1 loc slw wst pk den rch pol ask xp str rdl rds nn off del cam ins low high) := hD
  refine lv_aload_n hx hb dM_samples_16 rfl (lv_at hl 0 rfl) ?_
  refine zz_getM hx hb hT hown hK hP 0 rfl 0 (by decide) tw_617 rfl dM_samples_17 ?_
  refine zz_zle (tgt := 27) hx hb dM_samples_20 (by decide) (fun h => absurd h (by decide)) (fun _ => ?_)
  refine lv_iconst (v := 0) hx hb dM_samples_23 (by decide) ?_
  refine lv_goto (tgt := 33) hx hb dM_samples_24 (by decide) ?_
  exact zq_iret hx hb hr hlocks dM_samples_33 (rfl) hAe hP hD hS
set_option maxHeartbeats 4000000 in
set_option maxRecDepth 100000 in
theorem ct_M_samples (l : Launch) {dC : Nat → ClassId} {dI : Nat → Nat → Nat} {cJ cI cB cZ cS : ClassId} {sz : Nat} {o : Nat} {ad : Nat → Nat} {thr wst : Int32} {loc slw low high : Int64} {pk den rch pol ask str ins : Nat → Int32} {xp rdl rds off del cam : Nat → Int64} {nn : Nat → Nat} {k : Nat} (hk : k < 5) : Met l yM_samples [Cond.code yM_samples cM_samples 2 (some .int)] { frames := 1, cells := 0, slots := 0, locals := 20 } (va_Pc [.ref o, .int (nI k)] (zq_B (dC, dI) vcl (zz_T cJ cI cB cZ cS) (zm_W o ad cI cJ cZ thr loc slw wst pk den rch pol ask xp str rdl rds nn off del cam ins low high) sz)) (zq_Q (dC, dI) vcl (some (.int (nI (nn k)))) (zm_W o ad cI cJ cZ thr loc slw wst pk den rch pol ask xp str rdl rds nn off del cam ins low high) (zm_W o ad cI cJ cZ 0 loc slw wst pk den rch pol ask xp str rdl rds nn off del cam ins low high) sz) 0 0 (va_A (zm_W o ad cI cJ cZ thr loc slw wst pk den rch pol ask xp str rdl rds nn off del cam ins low high) sz) := by
  refine Met.ofW (cc := cM_samples) (maxL := 2) (ret := (some .int)) (by decide) rfl ?_
  intro p e s m args below meth c s₁ B hml hv
  obtain ⟨rfl, hsz, hT, hP, hK, hD0⟩ := hv
  subst hsz
  have hx := B.exec
  have hb := B.bytes
  have hr := B.returns
  have hlocks := B.notSynchronized
  have hown : s.vm.findClass RM = some m.cls := findClass_of_methodNamed B.named
  have hD := hD0.self (sz := s.heap.size)
  generalize hAe : va_A (zm_W o ad cI cJ cZ thr loc slw wst pk den rch pol ask xp str rdl rds nn off del cam ins low high) s.heap.size = A at hD ⊢
  have hA : ∀ q : Nat, s.heap.size ≤ q → A q := fun q h => by rw [← hAe]; exact Or.inr h
  have hS : va_S A s.heap s.heap [] := va_S.rf
  have hl := lv_entry ([.ref o, .int (nI k)]) (n := 2) (Nat.le_of_ble_eq_true rfl)
  rw [lg_entry_eq]
  generalize (lg_sl ([.ref o, .int (nI k)]) ++ List.replicate (2 - (lg_sl ([.ref o, .int (nI k)])).length) Slot.unset).toArray = ls at hl ⊢
  have hl : lv_has ls 2 [(0, .ref o), (1, .int (nI k))] := hl
  refine lv_aload_n hx hb dM_samples_0 rfl (lv_at hl 0 rfl) ?_
  refine lv_iload_n hx hb dM_samples_1 rfl (lv_at hl 1 rfl) ?_
  refine zz_call (va_runS (Ts := []) (As := [.int (nI k)]) (own := RM) ⟨hx, hb, hml, hown, fun _ h => nomatch h⟩ (ct_M_isServer l) (zt_cs hT tc_M_isServer ts_M_isServer tw_711 ⟨Nat.le_of_ble_eq_true rfl, Nat.le_of_ble_eq_true rfl⟩) (zz_pre0 hT) rfl rfl hl.1 rfl (lv_room (Nat.le_of_ble_eq_true rfl)) dM_samples_2 ⟨Nat.zero_le _, Nat.zero_le _⟩) ?_
  refine zz_ti (y := 1) (zm_isv_k hk) ?_
  refine zz_zeq (tgt := 12) hx hb dM_samples_5 (by decide) (fun h => absurd h (by decide)) (fun _ => ?_)
  refine lv_iconst (v := 0) hx hb dM_samples_8 (by decide) ?_
  refine lv_goto (tgt := 13) hx hb dM_samples_9 (by decide) ?_
  refine zz_putM (ty := .int) hx hb hT hown hK hP hD hS 0 rfl 0 (by decide) tw_617 rfl (by decide +kernel) rfl rfl (Nat.le_of_ble_eq_true rfl) dM_samples_13 (fun H locs hP hD hS => ?_)
  have hP : va_P (dC, dI) vcl (zm_W o ad cI cJ cZ 0 loc slw wst pk den rch pol ask xp str rdl rds nn off del cam ins low high) H := hP
  have hD : va_D A (zm_W o ad cI cJ cZ 0 loc slw wst pk den rch pol ask xp str rdl rds nn off del cam ins low high) := hD
  refine lv_aload_n hx hb dM_samples_16 rfl (lv_at hl 0 rfl) ?_
  refine zz_getM hx hb hT hown hK hP 0 rfl 0 (by decide) tw_617 rfl dM_samples_17 ?_
  refine zz_zle (tgt := 27) hx hb dM_samples_20 (by decide) (fun _ => ?_) (fun h => absurd h (by decide))
  refine lv_aload_n hx hb dM_samples_27 rfl (lv_at hl 0 rfl) ?_
  refine zz_getM hx hb hT hown hK hP 0 rfl 13 (by decide) tw_630 rfl dM_samples_28 ?_
  refine lv_iload_n hx hb dM_samples_31 rfl (lv_at hl 1 rfl) ?_
  refine zz_iald hx hb hK hP 10 1 rfl rfl k rfl (by first | omega | decide | assumption) (by decide) dM_samples_32 ?_
  exact zq_iret hx hb hr hlocks dM_samples_33 (rfl) hAe hP hD hS
set_option maxHeartbeats 4000000 in
set_option maxRecDepth 100000 in
theorem ct_M_shows_no (l : Launch) {dC : Nat → ClassId} {dI : Nat → Nat → Nat} {cJ cI cB cZ cS : ClassId} {sz : Nat} {o : Nat} {ad : Nat → Nat} {thr wst : Int32} {loc slw low high : Int64} {pk den rch pol ask str ins : Nat → Int32} {xp rdl rds off del cam : Nat → Int64} {nn : Nat → Nat} {x : Int32} (hx9 : zm_isv x = 0) : Met l yM_shows [Cond.code yM_shows cM_shows 2 (some .boolean)] { frames := 1, cells := 0, slots := 0, locals := 20 } (va_Pc [.ref o, .int x] (zq_B (dC, dI) vcl (zz_T cJ cI cB cZ cS) (zm_W o ad cI cJ cZ thr loc slw wst pk den rch pol ask xp str rdl rds nn off del cam ins low high) sz)) (zq_Q (dC, dI) vcl (some (.int 0)) (zm_W o ad cI cJ cZ thr loc slw wst pk den rch pol ask xp str rdl rds nn off del cam ins low high) (zm_W o ad cI cJ cZ 1 loc slw wst pk den rch pol ask xp str rdl rds nn off del cam ins low high) sz) 0 0 (va_A (zm_W o ad cI cJ cZ thr loc slw wst pk den rch pol ask xp str rdl rds nn off del cam ins low high) sz) := by
  refine Met.ofW (cc := cM_shows) (maxL := 2) (ret := (some .boolean)) (by decide) rfl ?_
  intro p e s m args below meth c s₁ B hml hv
  obtain ⟨rfl, hsz, hT, hP, hK, hD0⟩ := hv
  subst hsz
  have hx := B.exec
  have hb := B.bytes
  have hr := B.returns
  have hlocks := B.notSynchronized
  have hown : s.vm.findClass RM = some m.cls := findClass_of_methodNamed B.named
  have hD := hD0.self (sz := s.heap.size)
  generalize hAe : va_A (zm_W o ad cI cJ cZ thr loc slw wst pk den rch pol ask xp str rdl rds nn off del cam ins low high) s.heap.size = A at hD ⊢
  have hA : ∀ q : Nat, s.heap.size ≤ q → A q := fun q h => by rw [← hAe]; exact Or.inr h
  have hS : va_S A s.heap s.heap [] := va_S.rf
  have hl := lv_entry ([.ref o, .int x]) (n := 2) (Nat.le_of_ble_eq_true rfl)
  rw [lg_entry_eq]
  generalize (lg_sl ([.ref o, .int x]) ++ List.replicate (2 - (lg_sl ([.ref o, .int x])).length) Slot.unset).toArray = ls at hl ⊢
  have hl : lv_has ls 2 [(0, .ref o), (1, .int x)] := hl
  refine lv_aload_n hx hb dM_shows_0 rfl (lv_at hl 0 rfl) ?_
  refine lv_iload_n hx hb dM_shows_1 rfl (lv_at hl 1 rfl) ?_
  refine zz_call (va_runS (Ts := []) (As := [.int x]) (own := RM) ⟨hx, hb, hml, hown, fun _ h => nomatch h⟩ (ct_M_isServer l) (zt_cs hT tc_M_isServer ts_M_isServer tw_711 ⟨Nat.le_of_ble_eq_true rfl, Nat.le_of_ble_eq_true rfl⟩) (zz_pre0 hT) rfl rfl hl.1 rfl (lv_room (Nat.le_of_ble_eq_true rfl)) dM_shows_2 ⟨Nat.zero_le _, Nat.zero_le _⟩) ?_
  refine zz_ti (y := 0) (hx9) ?_
  refine zz_zne (tgt := 12) hx hb dM_shows_5 (by decide) (fun h => absurd h (by decide)) (fun _ => ?_)
  refine lv_iconst (v := 1) hx hb dM_shows_8 (by decide) ?_
  refine lv_goto (tgt := 26) hx hb dM_shows_9 (by decide) ?_
  refine zz_putM (ty := .int) hx hb hT hown hK hP hD hS 0 rfl 0 (by decide) tw_617 rfl (by decide +kernel) rfl rfl (Nat.le_of_ble_eq_true rfl) dM_shows_26 (fun H locs hP hD hS => ?_)
  have hP : va_P (dC, dI) vcl (zm_W o ad cI cJ cZ 1 loc slw wst pk den rch pol ask xp str rdl rds nn off del cam ins low high) H := hP
  have hD : va_D A (zm_W o ad cI cJ cZ 1 loc slw wst pk den rch pol ask xp str rdl rds nn off del cam ins low high) := hD
  refine lv_aload_n hx hb dM_shows_29 rfl (lv_at hl 0 rfl) ?_
  refine zz_getM hx hb hT hown hK hP 0 rfl 0 (by decide) tw_617 rfl dM_shows_30 ?_
  refine zz_zne (tgt := 40) hx hb dM_shows_33 (by decide) (fun _ => ?_) (fun h => absurd h (by decide))
  refine lv_iconst (v := 0) hx hb dM_shows_40 (by decide) ?_
  exact zq_bret hx hb hr hlocks dM_shows_41 rfl (rfl) hAe hP hD hS
set_option maxHeartbeats 4000000 in
set_option maxRecDepth 100000 in
theorem ct_M_shows_0 (l : Launch) {dC : Nat → ClassId} {dI : Nat → Nat → Nat} {cJ cI cB cZ cS : ClassId} {sz : Nat} {o : Nat} {ad : Nat → Nat} {thr wst : Int32} {loc slw low high : Int64} {pk den rch pol ask str ins : Nat → Int32} {xp rdl rds off del cam : Nat → Int64} {nn : Nat → Nat} {k : Nat} (hk : k < 5) (h0 : nn k = 0) : Met l yM_shows [Cond.code yM_shows cM_shows 2 (some .boolean)] { frames := 1, cells := 0, slots := 0, locals := 20 } (va_Pc [.ref o, .int (nI k)] (zq_B (dC, dI) vcl (zz_T cJ cI cB cZ cS) (zm_W o ad cI cJ cZ thr loc slw wst pk den rch pol ask xp str rdl rds nn off del cam ins low high) sz)) (zq_Q (dC, dI) vcl (some (.int 0)) (zm_W o ad cI cJ cZ thr loc slw wst pk den rch pol ask xp str rdl rds nn off del cam ins low high) (zm_W o ad cI cJ cZ 2 loc slw wst pk den rch pol ask xp str rdl rds nn off del cam ins low high) sz) 0 0 (va_A (zm_W o ad cI cJ cZ thr loc slw wst pk den rch pol ask xp str rdl rds nn off del cam ins low high) sz) := by
  refine Met.ofW (cc := cM_shows) (maxL := 2) (ret := (some .boolean)) (by decide) rfl ?_
  intro p e s m args below meth c s₁ B hml hv
  obtain ⟨rfl, hsz, hT, hP, hK, hD0⟩ := hv
  subst hsz
  have hx := B.exec
  have hb := B.bytes
  have hr := B.returns
  have hlocks := B.notSynchronized
  have hown : s.vm.findClass RM = some m.cls := findClass_of_methodNamed B.named
  have hD := hD0.self (sz := s.heap.size)
  generalize hAe : va_A (zm_W o ad cI cJ cZ thr loc slw wst pk den rch pol ask xp str rdl rds nn off del cam ins low high) s.heap.size = A at hD ⊢
  have hA : ∀ q : Nat, s.heap.size ≤ q → A q := fun q h => by rw [← hAe]; exact Or.inr h
  have hS : va_S A s.heap s.heap [] := va_S.rf
  have hl := lv_entry ([.ref o, .int (nI k)]) (n := 2) (Nat.le_of_ble_eq_true rfl)
  rw [lg_entry_eq]
  generalize (lg_sl ([.ref o, .int (nI k)]) ++ List.replicate (2 - (lg_sl ([.ref o, .int (nI k)])).length) Slot.unset).toArray = ls at hl ⊢
  have hl : lv_has ls 2 [(0, .ref o), (1, .int (nI k))] := hl
  have hnk : nn k < 2 ^ 31 := by rw [h0]; decide
  refine lv_aload_n hx hb dM_shows_0 rfl (lv_at hl 0 rfl) ?_
  refine lv_iload_n hx hb dM_shows_1 rfl (lv_at hl 1 rfl) ?_
  refine zz_call (va_runS (Ts := []) (As := [.int (nI k)]) (own := RM) ⟨hx, hb, hml, hown, fun _ h => nomatch h⟩ (ct_M_isServer l) (zt_cs hT tc_M_isServer ts_M_isServer tw_711 ⟨Nat.le_of_ble_eq_true rfl, Nat.le_of_ble_eq_true rfl⟩) (zz_pre0 hT) rfl rfl hl.1 rfl (lv_room (Nat.le_of_ble_eq_true rfl)) dM_shows_2 ⟨Nat.zero_le _, Nat.zero_le _⟩) ?_
  refine zz_ti (y := 1) (zm_isv_k hk) ?_
  refine zz_zne (tgt := 12) hx hb dM_shows_5 (by decide) (fun _ => ?_) (fun h => absurd h (by decide))
  refine lv_aload_n hx hb dM_shows_12 rfl (lv_at hl 0 rfl) ?_
  refine zz_getM hx hb hT hown hK hP 0 rfl 13 (by decide) tw_630 rfl dM_shows_13 ?_
  refine lv_iload_n hx hb dM_shows_16 rfl (lv_at hl 1 rfl) ?_
  refine zz_iald hx hb hK hP 10 1 rfl rfl k rfl (by first | omega | decide | assumption) (by decide) dM_shows_17 ?_
  refine zz_zne (tgt := 25) hx hb dM_shows_18 (by decide) (fun h1 => ?_) (fun h1 => ?_)
  · have h1n := mt (zz_eqN (a := (nn k)) (b := 0) rfl rfl (by omega) (by omega)).mpr h1
    exact absurd h0 h1n
  · have h1n := (zz_eqN (a := (nn k)) (b := 0) rfl rfl (by omega) (by omega)).mp h1
    refine lv_iconst (v := 2) hx hb dM_shows_21 (by decide) ?_
    refine lv_goto (tgt := 26) hx hb dM_shows_22 (by decide) ?_
    refine zz_putM (ty := .int) hx hb hT hown hK hP hD hS 0 rfl 0 (by decide) tw_617 rfl (by decide +kernel) rfl rfl (Nat.le_of_ble_eq_true rfl) dM_shows_26 (fun H locs hP hD hS => ?_)
    have hP : va_P (dC, dI) vcl (zm_W o ad cI cJ cZ 2 loc slw wst pk den rch pol ask xp str rdl rds nn off del cam ins low high) H := hP
    have hD : va_D A (zm_W o ad cI cJ cZ 2 loc slw wst pk den rch pol ask xp str rdl rds nn off del cam ins low high) := hD
    refine lv_aload_n hx hb dM_shows_29 rfl (lv_at hl 0 rfl) ?_
    refine zz_getM hx hb hT hown hK hP 0 rfl 0 (by decide) tw_617 rfl dM_shows_30 ?_
    refine zz_zne (tgt := 40) hx hb dM_shows_33 (by decide) (fun _ => ?_) (fun h => absurd h (by decide))
    refine lv_iconst (v := 0) hx hb dM_shows_40 (by decide) ?_
    exact zq_bret hx hb hr hlocks dM_shows_41 rfl (rfl) hAe hP hD hS
set_option maxHeartbeats 4000000 in
set_option maxRecDepth 100000 in
theorem ct_M_shows (l : Launch) {dC : Nat → ClassId} {dI : Nat → Nat → Nat} {cJ cI cB cZ cS : ClassId} {sz : Nat} {o : Nat} {ad : Nat → Nat} {thr wst : Int32} {loc slw low high : Int64} {pk den rch pol ask str ins : Nat → Int32} {xp rdl rds off del cam : Nat → Int64} {nn : Nat → Nat} {k : Nat} (hk : k < 5) (h0 : ¬ nn k = 0) (hnk : nn k ≤ 8) : Met l yM_shows [Cond.code yM_shows cM_shows 2 (some .boolean)] { frames := 1, cells := 0, slots := 0, locals := 20 } (va_Pc [.ref o, .int (nI k)] (zq_B (dC, dI) vcl (zz_T cJ cI cB cZ cS) (zm_W o ad cI cJ cZ thr loc slw wst pk den rch pol ask xp str rdl rds nn off del cam ins low high) sz)) (zq_Q (dC, dI) vcl (some (.int 1)) (zm_W o ad cI cJ cZ thr loc slw wst pk den rch pol ask xp str rdl rds nn off del cam ins low high) (zm_W o ad cI cJ cZ 0 loc slw wst pk den rch pol ask xp str rdl rds nn off del cam ins low high) sz) 0 0 (va_A (zm_W o ad cI cJ cZ thr loc slw wst pk den rch pol ask xp str rdl rds nn off del cam ins low high) sz) := by
  refine Met.ofW (cc := cM_shows) (maxL := 2) (ret := (some .boolean)) (by decide) rfl ?_
  intro p e s m args below meth c s₁ B hml hv
  obtain ⟨rfl, hsz, hT, hP, hK, hD0⟩ := hv
  subst hsz
  have hx := B.exec
  have hb := B.bytes
  have hr := B.returns
  have hlocks := B.notSynchronized
  have hown : s.vm.findClass RM = some m.cls := findClass_of_methodNamed B.named
  have hD := hD0.self (sz := s.heap.size)
  generalize hAe : va_A (zm_W o ad cI cJ cZ thr loc slw wst pk den rch pol ask xp str rdl rds nn off del cam ins low high) s.heap.size = A at hD ⊢
  have hA : ∀ q : Nat, s.heap.size ≤ q → A q := fun q h => by rw [← hAe]; exact Or.inr h
  have hS : va_S A s.heap s.heap [] := va_S.rf
  have hl := lv_entry ([.ref o, .int (nI k)]) (n := 2) (Nat.le_of_ble_eq_true rfl)
  rw [lg_entry_eq]
  generalize (lg_sl ([.ref o, .int (nI k)]) ++ List.replicate (2 - (lg_sl ([.ref o, .int (nI k)])).length) Slot.unset).toArray = ls at hl ⊢
  have hl : lv_has ls 2 [(0, .ref o), (1, .int (nI k))] := hl
  refine lv_aload_n hx hb dM_shows_0 rfl (lv_at hl 0 rfl) ?_
  refine lv_iload_n hx hb dM_shows_1 rfl (lv_at hl 1 rfl) ?_
  refine zz_call (va_runS (Ts := []) (As := [.int (nI k)]) (own := RM) ⟨hx, hb, hml, hown, fun _ h => nomatch h⟩ (ct_M_isServer l) (zt_cs hT tc_M_isServer ts_M_isServer tw_711 ⟨Nat.le_of_ble_eq_true rfl, Nat.le_of_ble_eq_true rfl⟩) (zz_pre0 hT) rfl rfl hl.1 rfl (lv_room (Nat.le_of_ble_eq_true rfl)) dM_shows_2 ⟨Nat.zero_le _, Nat.zero_le _⟩) ?_
  refine zz_ti (y := 1) (zm_isv_k hk) ?_
  refine zz_zne (tgt := 12) hx hb dM_shows_5 (by decide) (fun _ => ?_) (fun h => absurd h (by decide))
  refine lv_aload_n hx hb dM_shows_12 rfl (lv_at hl 0 rfl) ?_
  refine zz_getM hx hb hT hown hK hP 0 rfl 13 (by decide) tw_630 rfl dM_shows_13 ?_
  refine lv_iload_n hx hb dM_shows_16 rfl (lv_at hl 1 rfl) ?_
  refine zz_iald hx hb hK hP 10 1 rfl rfl k rfl (by first | omega | decide | assumption) (by decide) dM_shows_17 ?_
  refine zz_zne (tgt := 25) hx hb dM_shows_18 (by decide) (fun h1 => ?_) (fun h1 => ?_)
  · have h1n := mt (zz_eqN (a := (nn k)) (b := 0) rfl rfl (by omega) (by omega)).mpr h1
    refine lv_iconst (v := 0) hx hb dM_shows_25 (by decide) ?_
    refine zz_putM (ty := .int) hx hb hT hown hK hP hD hS 0 rfl 0 (by decide) tw_617 rfl (by decide +kernel) rfl rfl (Nat.le_of_ble_eq_true rfl) dM_shows_26 (fun H locs hP hD hS => ?_)
    have hP : va_P (dC, dI) vcl (zm_W o ad cI cJ cZ 0 loc slw wst pk den rch pol ask xp str rdl rds nn off del cam ins low high) H := hP
    have hD : va_D A (zm_W o ad cI cJ cZ 0 loc slw wst pk den rch pol ask xp str rdl rds nn off del cam ins low high) := hD
    refine lv_aload_n hx hb dM_shows_29 rfl (lv_at hl 0 rfl) ?_
    refine zz_getM hx hb hT hown hK hP 0 rfl 0 (by decide) tw_617 rfl dM_shows_30 ?_
    refine zz_zne (tgt := 40) hx hb dM_shows_33 (by decide) (fun h => absurd h (by decide)) (fun _ => ?_)
    refine lv_iconst (v := 1) hx hb dM_shows_36 (by decide) ?_
    refine lv_goto (tgt := 41) hx hb dM_shows_37 (by decide) ?_
    exact zq_bret hx hb hr hlocks dM_shows_41 rfl (rfl) hAe hP hD hS
  · have h1n := (zz_eqN (a := (nn k)) (b := 0) rfl rfl (by omega) (by omega)).mp h1
    exact absurd h1n h0
set_option maxHeartbeats 4000000 in
set_option maxRecDepth 100000 in
theorem ct_M_offset_no (l : Launch) {dC : Nat → ClassId} {dI : Nat → Nat → Nat} {cJ cI cB cZ cS : ClassId} {sz : Nat} {o : Nat} {ad : Nat → Nat} {thr wst : Int32} {loc slw low high : Int64} {pk den rch pol ask str ins : Nat → Int32} {xp rdl rds off del cam : Nat → Int64} {nn : Nat → Nat} {x : Int32} (hx9 : zm_isv x = 0) : Met l yM_offset [Cond.code yM_offset cM_offset 2 (some .long)] { frames := 3, cells := 0, slots := 0, locals := 66 } (va_Pc [.ref o, .int x] (zq_B (dC, dI) vcl (zz_T cJ cI cB cZ cS) (zm_W o ad cI cJ cZ thr loc slw wst pk den rch pol ask xp str rdl rds nn off del cam ins low high) sz)) (zq_Q (dC, dI) vcl (some (.long 0)) (zm_W o ad cI cJ cZ thr loc slw wst pk den rch pol ask xp str rdl rds nn off del cam ins low high) (zm_W o ad cI cJ cZ 1 loc slw wst pk den rch pol ask xp str rdl rds nn off del cam ins low high) sz) 0 0 (va_A (zm_W o ad cI cJ cZ thr loc slw wst pk den rch pol ask xp str rdl rds nn off del cam ins low high) sz) := by
  refine Met.ofW (cc := cM_offset) (maxL := 2) (ret := (some .long)) (by decide) rfl ?_
  intro p e s m args below meth c s₁ B hml hv
  obtain ⟨rfl, hsz, hT, hP, hK, hD0⟩ := hv
  subst hsz
  have hx := B.exec
  have hb := B.bytes
  have hr := B.returns
  have hlocks := B.notSynchronized
  have hown : s.vm.findClass RM = some m.cls := findClass_of_methodNamed B.named
  have hD := hD0.self (sz := s.heap.size)
  generalize hAe : va_A (zm_W o ad cI cJ cZ thr loc slw wst pk den rch pol ask xp str rdl rds nn off del cam ins low high) s.heap.size = A at hD ⊢
  have hA : ∀ q : Nat, s.heap.size ≤ q → A q := fun q h => by rw [← hAe]; exact Or.inr h
  have hS : va_S A s.heap s.heap [] := va_S.rf
  have hl := lv_entry ([.ref o, .int x]) (n := 2) (Nat.le_of_ble_eq_true rfl)
  rw [lg_entry_eq]
  generalize (lg_sl ([.ref o, .int x]) ++ List.replicate (2 - (lg_sl ([.ref o, .int x])).length) Slot.unset).toArray = ls at hl ⊢
  have hl : lv_has ls 2 [(0, .ref o), (1, .int x)] := hl
  refine lv_aload_n hx hb dM_offset_0 rfl (lv_at hl 0 rfl) ?_
  refine lv_iload_n hx hb dM_offset_1 rfl (lv_at hl 1 rfl) ?_
  refine zq_call0 (va_runV (Ts := []) (As := [.int x]) (own := RM) ⟨hx, hb, hml, hown, fun _ h => nomatch h⟩ (ct_M_shows_no l hx9) (zt_cv hT tc_M_shows tv_M_shows tw_755 ⟨Nat.le_of_ble_eq_true rfl, Nat.le_of_ble_eq_true rfl⟩) (zq_preV (q0 := 0) hT hP hK hD rfl rfl) rfl rfl hl.1 rfl (lv_room (Nat.le_of_ble_eq_true rfl)) dM_offset_2 ⟨Nat.zero_le _, Nat.zero_le _⟩) hP hD hS hA (fun H locs hP hD hS => ?_)
  have hP : va_P (dC, dI) vcl (zm_W o ad cI cJ cZ 1 loc slw wst pk den rch pol ask xp str rdl rds nn off del cam ins low high) H := hP
  have hD : va_D A (zm_W o ad cI cJ cZ 1 loc slw wst pk den rch pol ask xp str rdl rds nn off del cam ins low high) := hD
  refine W.eq (g2 := F0 m 5 ls [.int 0]) rfl ?_
  refine zz_zeq (tgt := 16) hx hb dM_offset_5 (by decide) (fun _ => ?_) (fun h => absurd h (by decide))
  refine lv_lconst (v := 0) hx hb dM_offset_16 (by decide) ?_
  exact zq_lret hx hb hr hlocks dM_offset_17 (rfl) hAe hP hD hS
set_option maxHeartbeats 4000000 in
set_option maxRecDepth 100000 in
theorem ct_M_offset_0 (l : Launch) {dC : Nat → ClassId} {dI : Nat → Nat → Nat} {cJ cI cB cZ cS : ClassId} {sz : Nat} {o : Nat} {ad : Nat → Nat} {thr wst : Int32} {loc slw low high : Int64} {pk den rch pol ask str ins : Nat → Int32} {xp rdl rds off del cam : Nat → Int64} {nn : Nat → Nat} {k : Nat} (hk : k < 5) (h0 : nn k = 0) : Met l yM_offset [Cond.code yM_offset cM_offset 2 (some .long)] { frames := 3, cells := 0, slots := 0, locals := 66 } (va_Pc [.ref o, .int (nI k)] (zq_B (dC, dI) vcl (zz_T cJ cI cB cZ cS) (zm_W o ad cI cJ cZ thr loc slw wst pk den rch pol ask xp str rdl rds nn off del cam ins low high) sz)) (zq_Q (dC, dI) vcl (some (.long 0)) (zm_W o ad cI cJ cZ thr loc slw wst pk den rch pol ask xp str rdl rds nn off del cam ins low high) (zm_W o ad cI cJ cZ 2 loc slw wst pk den rch pol ask xp str rdl rds nn off del cam ins low high) sz) 0 0 (va_A (zm_W o ad cI cJ cZ thr loc slw wst pk den rch pol ask xp str rdl rds nn off del cam ins low high) sz) := by
  refine Met.ofW (cc := cM_offset) (maxL := 2) (ret := (some .long)) (by decide) rfl ?_
  intro p e s m args below meth c s₁ B hml hv
  obtain ⟨rfl, hsz, hT, hP, hK, hD0⟩ := hv
  subst hsz
  have hx := B.exec
  have hb := B.bytes
  have hr := B.returns
  have hlocks := B.notSynchronized
  have hown : s.vm.findClass RM = some m.cls := findClass_of_methodNamed B.named
  have hD := hD0.self (sz := s.heap.size)
  generalize hAe : va_A (zm_W o ad cI cJ cZ thr loc slw wst pk den rch pol ask xp str rdl rds nn off del cam ins low high) s.heap.size = A at hD ⊢
  have hA : ∀ q : Nat, s.heap.size ≤ q → A q := fun q h => by rw [← hAe]; exact Or.inr h
  have hS : va_S A s.heap s.heap [] := va_S.rf
  have hl := lv_entry ([.ref o, .int (nI k)]) (n := 2) (Nat.le_of_ble_eq_true rfl)
  rw [lg_entry_eq]
  generalize (lg_sl ([.ref o, .int (nI k)]) ++ List.replicate (2 - (lg_sl ([.ref o, .int (nI k)])).length) Slot.unset).toArray = ls at hl ⊢
  have hl : lv_has ls 2 [(0, .ref o), (1, .int (nI k))] := hl
  refine lv_aload_n hx hb dM_offset_0 rfl (lv_at hl 0 rfl) ?_
  refine lv_iload_n hx hb dM_offset_1 rfl (lv_at hl 1 rfl) ?_
  refine zq_call0 (va_runV (Ts := []) (As := [.int (nI k)]) (own := RM) ⟨hx, hb, hml, hown, fun _ h => nomatch h⟩ (ct_M_shows_0 l hk h0) (zt_cv hT tc_M_shows tv_M_shows tw_755 ⟨Nat.le_of_ble_eq_true rfl, Nat.le_of_ble_eq_true rfl⟩) (zq_preV (q0 := 0) hT hP hK hD rfl rfl) rfl rfl hl.1 rfl (lv_room (Nat.le_of_ble_eq_true rfl)) dM_offset_2 ⟨Nat.zero_le _, Nat.zero_le _⟩) hP hD hS hA (fun H locs hP hD hS => ?_)
  have hP : va_P (dC, dI) vcl (zm_W o ad cI cJ cZ 2 loc slw wst pk den rch pol ask xp str rdl rds nn off del cam ins low high) H := hP
  have hD : va_D A (zm_W o ad cI cJ cZ 2 loc slw wst pk den rch pol ask xp str rdl rds nn off del cam ins low high) := hD
  refine W.eq (g2 := F0 m 5 ls [.int 0]) rfl ?_
  refine zz_zeq (tgt := 16) hx hb dM_offset_5 (by decide) (fun _ => ?_) (fun h => absurd h (by decide))
  refine lv_lconst (v := 0) hx hb dM_offset_16 (by decide) ?_
  exact zq_lret hx hb hr hlocks dM_offset_17 (rfl) hAe hP hD hS
set_option maxHeartbeats 4000000 in
set_option maxRecDepth 100000 in
theorem ct_M_offset (l : Launch) {dC : Nat → ClassId} {dI : Nat → Nat → Nat} {cJ cI cB cZ cS : ClassId} {sz : Nat} {o : Nat} {ad : Nat → Nat} {thr wst : Int32} {loc slw low high : Int64} {pk den rch pol ask str ins : Nat → Int32} {xp rdl rds off del cam : Nat → Int64} {nn : Nat → Nat} {k : Nat} (hk : k < 5) (h0 : ¬ nn k = 0) (hn : ∀ k, nn k ≤ 8) : Met l yM_offset [Cond.code yM_offset cM_offset 2 (some .long)] { frames := 3, cells := 0, slots := 0, locals := 66 } (va_Pc [.ref o, .int (nI k)] (zq_B (dC, dI) vcl (zz_T cJ cI cB cZ cS) (zm_W o ad cI cJ cZ thr loc slw wst pk den rch pol ask xp str rdl rds nn off del cam ins low high) sz)) (zq_Q (dC, dI) vcl (some (.long (zm_o off del cam loc nn k))) (zm_W o ad cI cJ cZ thr loc slw wst pk den rch pol ask xp str rdl rds nn off del cam ins low high) (zm_W o ad cI cJ cZ 0 loc slw wst pk den rch pol ask xp str rdl rds nn off del cam ins low high) sz) 0 0 (va_A (zm_W o ad cI cJ cZ thr loc slw wst pk den rch pol ask xp str rdl rds nn off del cam ins low high) sz) := by
  refine Met.ofW (cc := cM_offset) (maxL := 2) (ret := (some .long)) (by decide) rfl ?_
  intro p e s m args below meth c s₁ B hml hv
  obtain ⟨rfl, hsz, hT, hP, hK, hD0⟩ := hv
  subst hsz
  have hx := B.exec
  have hb := B.bytes
  have hr := B.returns
  have hlocks := B.notSynchronized
  have hown : s.vm.findClass RM = some m.cls := findClass_of_methodNamed B.named
  have hD := hD0.self (sz := s.heap.size)
  generalize hAe : va_A (zm_W o ad cI cJ cZ thr loc slw wst pk den rch pol ask xp str rdl rds nn off del cam ins low high) s.heap.size = A at hD ⊢
  have hA : ∀ q : Nat, s.heap.size ≤ q → A q := fun q h => by rw [← hAe]; exact Or.inr h
  have hS : va_S A s.heap s.heap [] := va_S.rf
  have hl := lv_entry ([.ref o, .int (nI k)]) (n := 2) (Nat.le_of_ble_eq_true rfl)
  rw [lg_entry_eq]
  generalize (lg_sl ([.ref o, .int (nI k)]) ++ List.replicate (2 - (lg_sl ([.ref o, .int (nI k)])).length) Slot.unset).toArray = ls at hl ⊢
  have hl : lv_has ls 2 [(0, .ref o), (1, .int (nI k))] := hl
  refine lv_aload_n hx hb dM_offset_0 rfl (lv_at hl 0 rfl) ?_
  refine lv_iload_n hx hb dM_offset_1 rfl (lv_at hl 1 rfl) ?_
  refine zq_call0 (va_runV (Ts := []) (As := [.int (nI k)]) (own := RM) ⟨hx, hb, hml, hown, fun _ h => nomatch h⟩ (ct_M_shows l hk h0 (hn k)) (zt_cv hT tc_M_shows tv_M_shows tw_755 ⟨Nat.le_of_ble_eq_true rfl, Nat.le_of_ble_eq_true rfl⟩) (zq_preV (q0 := 0) hT hP hK hD rfl rfl) rfl rfl hl.1 rfl (lv_room (Nat.le_of_ble_eq_true rfl)) dM_offset_2 ⟨Nat.zero_le _, Nat.zero_le _⟩) hP hD hS hA (fun H locs hP hD hS => ?_)
  have hP : va_P (dC, dI) vcl (zm_W o ad cI cJ cZ 0 loc slw wst pk den rch pol ask xp str rdl rds nn off del cam ins low high) H := hP
  have hD : va_D A (zm_W o ad cI cJ cZ 0 loc slw wst pk den rch pol ask xp str rdl rds nn off del cam ins low high) := hD
  refine W.eq (g2 := F0 m 5 ls [.int 1]) rfl ?_
  refine zz_zeq (tgt := 16) hx hb dM_offset_5 (by decide) (fun h => absurd h (by decide)) (fun _ => ?_)
  refine lv_aload_n hx hb dM_offset_8 rfl (lv_at hl 0 rfl) ?_
  refine lv_iload_n hx hb dM_offset_9 rfl (lv_at hl 1 rfl) ?_
  refine zz_call (va_runV (Ts := []) (As := [.int (nI k)]) (own := RM) ⟨hx, hb, hml, hown, fun _ h => nomatch h⟩ (ct_M_offsetOf l (k := k) (by omega) (hn _)) (zt_cv hT tc_M_offsetOf tv_M_offsetOf tw_759 ⟨Nat.le_of_ble_eq_true rfl, Nat.le_of_ble_eq_true rfl⟩) (zz_preV (q0 := 0) hT hP hK rfl rfl) rfl rfl hl.1 rfl (lv_room (Nat.le_of_ble_eq_true rfl)) dM_offset_10 ⟨Nat.zero_le _, Nat.zero_le _⟩) ?_
  refine lv_goto (tgt := 17) hx hb dM_offset_13 (by decide) ?_
  exact zq_lret hx hb hr hlocks dM_offset_17 (rfl) hAe hP hD hS
set_option maxHeartbeats 4000000 in
set_option maxRecDepth 100000 in
theorem ct_M_delay_no (l : Launch) {dC : Nat → ClassId} {dI : Nat → Nat → Nat} {cJ cI cB cZ cS : ClassId} {sz : Nat} {o : Nat} {ad : Nat → Nat} {thr wst : Int32} {loc slw low high : Int64} {pk den rch pol ask str ins : Nat → Int32} {xp rdl rds off del cam : Nat → Int64} {nn : Nat → Nat} {x : Int32} (hx9 : zm_isv x = 0) : Met l yM_delay [Cond.code yM_delay cM_delay 2 (some .long)] { frames := 2, cells := 0, slots := 0, locals := 45 } (va_Pc [.ref o, .int x] (zq_B (dC, dI) vcl (zz_T cJ cI cB cZ cS) (zm_W o ad cI cJ cZ thr loc slw wst pk den rch pol ask xp str rdl rds nn off del cam ins low high) sz)) (zq_Q (dC, dI) vcl (some (.long 0)) (zm_W o ad cI cJ cZ thr loc slw wst pk den rch pol ask xp str rdl rds nn off del cam ins low high) (zm_W o ad cI cJ cZ 1 loc slw wst pk den rch pol ask xp str rdl rds nn off del cam ins low high) sz) 0 0 (va_A (zm_W o ad cI cJ cZ thr loc slw wst pk den rch pol ask xp str rdl rds nn off del cam ins low high) sz) := by
  refine Met.ofW (cc := cM_delay) (maxL := 2) (ret := (some .long)) (by decide) rfl ?_
  intro p e s m args below meth c s₁ B hml hv
  obtain ⟨rfl, hsz, hT, hP, hK, hD0⟩ := hv
  subst hsz
  have hx := B.exec
  have hb := B.bytes
  have hr := B.returns
  have hlocks := B.notSynchronized
  have hown : s.vm.findClass RM = some m.cls := findClass_of_methodNamed B.named
  have hD := hD0.self (sz := s.heap.size)
  generalize hAe : va_A (zm_W o ad cI cJ cZ thr loc slw wst pk den rch pol ask xp str rdl rds nn off del cam ins low high) s.heap.size = A at hD ⊢
  have hA : ∀ q : Nat, s.heap.size ≤ q → A q := fun q h => by rw [← hAe]; exact Or.inr h
  have hS : va_S A s.heap s.heap [] := va_S.rf
  have hl := lv_entry ([.ref o, .int x]) (n := 2) (Nat.le_of_ble_eq_true rfl)
  rw [lg_entry_eq]
  generalize (lg_sl ([.ref o, .int x]) ++ List.replicate (2 - (lg_sl ([.ref o, .int x])).length) Slot.unset).toArray = ls at hl ⊢
  have hl : lv_has ls 2 [(0, .ref o), (1, .int x)] := hl
  refine lv_aload_n hx hb dM_delay_0 rfl (lv_at hl 0 rfl) ?_
  refine lv_iload_n hx hb dM_delay_1 rfl (lv_at hl 1 rfl) ?_
  refine zq_call0 (va_runV (Ts := []) (As := [.int x]) (own := RM) ⟨hx, hb, hml, hown, fun _ h => nomatch h⟩ (ct_M_shows_no l hx9) (zt_cv hT tc_M_shows tv_M_shows tw_755 ⟨Nat.le_of_ble_eq_true rfl, Nat.le_of_ble_eq_true rfl⟩) (zq_preV (q0 := 0) hT hP hK hD rfl rfl) rfl rfl hl.1 rfl (lv_room (Nat.le_of_ble_eq_true rfl)) dM_delay_2 ⟨Nat.zero_le _, Nat.zero_le _⟩) hP hD hS hA (fun H locs hP hD hS => ?_)
  have hP : va_P (dC, dI) vcl (zm_W o ad cI cJ cZ 1 loc slw wst pk den rch pol ask xp str rdl rds nn off del cam ins low high) H := hP
  have hD : va_D A (zm_W o ad cI cJ cZ 1 loc slw wst pk den rch pol ask xp str rdl rds nn off del cam ins low high) := hD
  refine W.eq (g2 := F0 m 5 ls [.int 0]) rfl ?_
  refine zz_zeq (tgt := 21) hx hb dM_delay_5 (by decide) (fun _ => ?_) (fun h => absurd h (by decide))
  refine lv_lconst (v := 0) hx hb dM_delay_21 (by decide) ?_
  exact zq_lret hx hb hr hlocks dM_delay_22 (rfl) hAe hP hD hS
set_option maxHeartbeats 4000000 in
set_option maxRecDepth 100000 in
theorem ct_M_delay_0 (l : Launch) {dC : Nat → ClassId} {dI : Nat → Nat → Nat} {cJ cI cB cZ cS : ClassId} {sz : Nat} {o : Nat} {ad : Nat → Nat} {thr wst : Int32} {loc slw low high : Int64} {pk den rch pol ask str ins : Nat → Int32} {xp rdl rds off del cam : Nat → Int64} {nn : Nat → Nat} {k : Nat} (hk : k < 5) (h0 : nn k = 0) : Met l yM_delay [Cond.code yM_delay cM_delay 2 (some .long)] { frames := 2, cells := 0, slots := 0, locals := 45 } (va_Pc [.ref o, .int (nI k)] (zq_B (dC, dI) vcl (zz_T cJ cI cB cZ cS) (zm_W o ad cI cJ cZ thr loc slw wst pk den rch pol ask xp str rdl rds nn off del cam ins low high) sz)) (zq_Q (dC, dI) vcl (some (.long 0)) (zm_W o ad cI cJ cZ thr loc slw wst pk den rch pol ask xp str rdl rds nn off del cam ins low high) (zm_W o ad cI cJ cZ 2 loc slw wst pk den rch pol ask xp str rdl rds nn off del cam ins low high) sz) 0 0 (va_A (zm_W o ad cI cJ cZ thr loc slw wst pk den rch pol ask xp str rdl rds nn off del cam ins low high) sz) := by
  refine Met.ofW (cc := cM_delay) (maxL := 2) (ret := (some .long)) (by decide) rfl ?_
  intro p e s m args below meth c s₁ B hml hv
  obtain ⟨rfl, hsz, hT, hP, hK, hD0⟩ := hv
  subst hsz
  have hx := B.exec
  have hb := B.bytes
  have hr := B.returns
  have hlocks := B.notSynchronized
  have hown : s.vm.findClass RM = some m.cls := findClass_of_methodNamed B.named
  have hD := hD0.self (sz := s.heap.size)
  generalize hAe : va_A (zm_W o ad cI cJ cZ thr loc slw wst pk den rch pol ask xp str rdl rds nn off del cam ins low high) s.heap.size = A at hD ⊢
  have hA : ∀ q : Nat, s.heap.size ≤ q → A q := fun q h => by rw [← hAe]; exact Or.inr h
  have hS : va_S A s.heap s.heap [] := va_S.rf
  have hl := lv_entry ([.ref o, .int (nI k)]) (n := 2) (Nat.le_of_ble_eq_true rfl)
  rw [lg_entry_eq]
  generalize (lg_sl ([.ref o, .int (nI k)]) ++ List.replicate (2 - (lg_sl ([.ref o, .int (nI k)])).length) Slot.unset).toArray = ls at hl ⊢
  have hl : lv_has ls 2 [(0, .ref o), (1, .int (nI k))] := hl
  refine lv_aload_n hx hb dM_delay_0 rfl (lv_at hl 0 rfl) ?_
  refine lv_iload_n hx hb dM_delay_1 rfl (lv_at hl 1 rfl) ?_
  refine zq_call0 (va_runV (Ts := []) (As := [.int (nI k)]) (own := RM) ⟨hx, hb, hml, hown, fun _ h => nomatch h⟩ (ct_M_shows_0 l hk h0) (zt_cv hT tc_M_shows tv_M_shows tw_755 ⟨Nat.le_of_ble_eq_true rfl, Nat.le_of_ble_eq_true rfl⟩) (zq_preV (q0 := 0) hT hP hK hD rfl rfl) rfl rfl hl.1 rfl (lv_room (Nat.le_of_ble_eq_true rfl)) dM_delay_2 ⟨Nat.zero_le _, Nat.zero_le _⟩) hP hD hS hA (fun H locs hP hD hS => ?_)
  have hP : va_P (dC, dI) vcl (zm_W o ad cI cJ cZ 2 loc slw wst pk den rch pol ask xp str rdl rds nn off del cam ins low high) H := hP
  have hD : va_D A (zm_W o ad cI cJ cZ 2 loc slw wst pk den rch pol ask xp str rdl rds nn off del cam ins low high) := hD
  refine W.eq (g2 := F0 m 5 ls [.int 0]) rfl ?_
  refine zz_zeq (tgt := 21) hx hb dM_delay_5 (by decide) (fun _ => ?_) (fun h => absurd h (by decide))
  refine lv_lconst (v := 0) hx hb dM_delay_21 (by decide) ?_
  exact zq_lret hx hb hr hlocks dM_delay_22 (rfl) hAe hP hD hS
set_option maxHeartbeats 4000000 in
set_option maxRecDepth 100000 in
theorem ct_M_delay (l : Launch) {dC : Nat → ClassId} {dI : Nat → Nat → Nat} {cJ cI cB cZ cS : ClassId} {sz : Nat} {o : Nat} {ad : Nat → Nat} {thr wst : Int32} {loc slw low high : Int64} {pk den rch pol ask str ins : Nat → Int32} {xp rdl rds off del cam : Nat → Int64} {nn : Nat → Nat} {k : Nat} (hk : k < 5) (h0 : ¬ nn k = 0) (hn : ∀ k, nn k ≤ 8) : Met l yM_delay [Cond.code yM_delay cM_delay 2 (some .long)] { frames := 2, cells := 0, slots := 0, locals := 45 } (va_Pc [.ref o, .int (nI k)] (zq_B (dC, dI) vcl (zz_T cJ cI cB cZ cS) (zm_W o ad cI cJ cZ thr loc slw wst pk den rch pol ask xp str rdl rds nn off del cam ins low high) sz)) (zq_Q (dC, dI) vcl (some (.long (del (zm_b del cam loc nn k)))) (zm_W o ad cI cJ cZ thr loc slw wst pk den rch pol ask xp str rdl rds nn off del cam ins low high) (zm_W o ad cI cJ cZ 0 loc slw wst pk den rch pol ask xp str rdl rds nn off del cam ins low high) sz) 0 0 (va_A (zm_W o ad cI cJ cZ thr loc slw wst pk den rch pol ask xp str rdl rds nn off del cam ins low high) sz) := by
  refine Met.ofW (cc := cM_delay) (maxL := 2) (ret := (some .long)) (by decide) rfl ?_
  intro p e s m args below meth c s₁ B hml hv
  obtain ⟨rfl, hsz, hT, hP, hK, hD0⟩ := hv
  subst hsz
  have hx := B.exec
  have hb := B.bytes
  have hr := B.returns
  have hlocks := B.notSynchronized
  have hown : s.vm.findClass RM = some m.cls := findClass_of_methodNamed B.named
  have hD := hD0.self (sz := s.heap.size)
  generalize hAe : va_A (zm_W o ad cI cJ cZ thr loc slw wst pk den rch pol ask xp str rdl rds nn off del cam ins low high) s.heap.size = A at hD ⊢
  have hA : ∀ q : Nat, s.heap.size ≤ q → A q := fun q h => by rw [← hAe]; exact Or.inr h
  have hS : va_S A s.heap s.heap [] := va_S.rf
  have hl := lv_entry ([.ref o, .int (nI k)]) (n := 2) (Nat.le_of_ble_eq_true rfl)
  rw [lg_entry_eq]
  generalize (lg_sl ([.ref o, .int (nI k)]) ++ List.replicate (2 - (lg_sl ([.ref o, .int (nI k)])).length) Slot.unset).toArray = ls at hl ⊢
  have hl : lv_has ls 2 [(0, .ref o), (1, .int (nI k))] := hl
  refine lv_aload_n hx hb dM_delay_0 rfl (lv_at hl 0 rfl) ?_
  refine lv_iload_n hx hb dM_delay_1 rfl (lv_at hl 1 rfl) ?_
  refine zq_call0 (va_runV (Ts := []) (As := [.int (nI k)]) (own := RM) ⟨hx, hb, hml, hown, fun _ h => nomatch h⟩ (ct_M_shows l hk h0 (hn k)) (zt_cv hT tc_M_shows tv_M_shows tw_755 ⟨Nat.le_of_ble_eq_true rfl, Nat.le_of_ble_eq_true rfl⟩) (zq_preV (q0 := 0) hT hP hK hD rfl rfl) rfl rfl hl.1 rfl (lv_room (Nat.le_of_ble_eq_true rfl)) dM_delay_2 ⟨Nat.zero_le _, Nat.zero_le _⟩) hP hD hS hA (fun H locs hP hD hS => ?_)
  have hP : va_P (dC, dI) vcl (zm_W o ad cI cJ cZ 0 loc slw wst pk den rch pol ask xp str rdl rds nn off del cam ins low high) H := hP
  have hD : va_D A (zm_W o ad cI cJ cZ 0 loc slw wst pk den rch pol ask xp str rdl rds nn off del cam ins low high) := hD
  refine W.eq (g2 := F0 m 5 ls [.int 1]) rfl ?_
  refine zz_zeq (tgt := 21) hx hb dM_delay_5 (by decide) (fun h => absurd h (by decide)) (fun _ => ?_)
  refine lv_aload_n hx hb dM_delay_8 rfl (lv_at hl 0 rfl) ?_
  refine zz_getM hx hb hT hown hK hP 0 rfl 15 (by decide) tw_632 rfl dM_delay_9 ?_
  refine lv_aload_n hx hb dM_delay_12 rfl (lv_at hl 0 rfl) ?_
  refine lv_iload_n hx hb dM_delay_13 rfl (lv_at hl 1 rfl) ?_
  refine zz_call (va_runV (Ts := []) (As := [.int (nI k)]) (own := RM) ⟨hx, hb, hml, hown, fun _ h => nomatch h⟩ (ct_M_best l (k := k) (by omega) (hn _)) (zt_cv hT tc_M_best tv_M_best tw_763 ⟨Nat.le_of_ble_eq_true rfl, Nat.le_of_ble_eq_true rfl⟩) (zz_preV (q0 := 0) hT hP hK rfl rfl) rfl rfl hl.1 rfl (lv_room (Nat.le_of_ble_eq_true rfl)) dM_delay_14 ⟨Nat.zero_le _, Nat.zero_le _⟩) ?_
  refine zz_lald hx hb hK hP 12 0 rfl rfl (zm_b del cam loc nn k) rfl (zm_b_lt (by omega) (hn _)) (by decide) dM_delay_17 ?_
  refine lv_goto (tgt := 22) hx hb dM_delay_18 (by decide) ?_
  exact zq_lret hx hb hr hlocks dM_delay_22 (rfl) hAe hP hD hS
set_option maxHeartbeats 4000000 in
set_option maxRecDepth 100000 in
theorem ct_M_jitter_no (l : Launch) {dC : Nat → ClassId} {dI : Nat → Nat → Nat} {cJ cI cB cZ cS : ClassId} {sz : Nat} {o : Nat} {ad : Nat → Nat} {thr wst : Int32} {loc slw low high : Int64} {pk den rch pol ask str ins : Nat → Int32} {xp rdl rds off del cam : Nat → Int64} {nn : Nat → Nat} {x : Int32} (hx9 : zm_isv x = 0) : Met l yM_jitter [Cond.code yM_jitter cM_jitter 2 (some .long)] { frames := 3, cells := 0, slots := 0, locals := 73 } (va_Pc [.ref o, .int x] (zq_B (dC, dI) vcl (zz_T cJ cI cB cZ cS) (zm_W o ad cI cJ cZ thr loc slw wst pk den rch pol ask xp str rdl rds nn off del cam ins low high) sz)) (zq_Q (dC, dI) vcl (some (.long 0)) (zm_W o ad cI cJ cZ thr loc slw wst pk den rch pol ask xp str rdl rds nn off del cam ins low high) (zm_W o ad cI cJ cZ 1 loc slw wst pk den rch pol ask xp str rdl rds nn off del cam ins low high) sz) 0 0 (va_A (zm_W o ad cI cJ cZ thr loc slw wst pk den rch pol ask xp str rdl rds nn off del cam ins low high) sz) := by
  refine Met.ofW (cc := cM_jitter) (maxL := 2) (ret := (some .long)) (by decide) rfl ?_
  intro p e s m args below meth c s₁ B hml hv
  obtain ⟨rfl, hsz, hT, hP, hK, hD0⟩ := hv
  subst hsz
  have hx := B.exec
  have hb := B.bytes
  have hr := B.returns
  have hlocks := B.notSynchronized
  have hown : s.vm.findClass RM = some m.cls := findClass_of_methodNamed B.named
  have hD := hD0.self (sz := s.heap.size)
  generalize hAe : va_A (zm_W o ad cI cJ cZ thr loc slw wst pk den rch pol ask xp str rdl rds nn off del cam ins low high) s.heap.size = A at hD ⊢
  have hA : ∀ q : Nat, s.heap.size ≤ q → A q := fun q h => by rw [← hAe]; exact Or.inr h
  have hS : va_S A s.heap s.heap [] := va_S.rf
  have hl := lv_entry ([.ref o, .int x]) (n := 2) (Nat.le_of_ble_eq_true rfl)
  rw [lg_entry_eq]
  generalize (lg_sl ([.ref o, .int x]) ++ List.replicate (2 - (lg_sl ([.ref o, .int x])).length) Slot.unset).toArray = ls at hl ⊢
  have hl : lv_has ls 2 [(0, .ref o), (1, .int x)] := hl
  refine lv_aload_n hx hb dM_jitter_0 rfl (lv_at hl 0 rfl) ?_
  refine lv_iload_n hx hb dM_jitter_1 rfl (lv_at hl 1 rfl) ?_
  refine zq_call0 (va_runV (Ts := []) (As := [.int x]) (own := RM) ⟨hx, hb, hml, hown, fun _ h => nomatch h⟩ (ct_M_shows_no l hx9) (zt_cv hT tc_M_shows tv_M_shows tw_755 ⟨Nat.le_of_ble_eq_true rfl, Nat.le_of_ble_eq_true rfl⟩) (zq_preV (q0 := 0) hT hP hK hD rfl rfl) rfl rfl hl.1 rfl (lv_room (Nat.le_of_ble_eq_true rfl)) dM_jitter_2 ⟨Nat.zero_le _, Nat.zero_le _⟩) hP hD hS hA (fun H locs hP hD hS => ?_)
  have hP : va_P (dC, dI) vcl (zm_W o ad cI cJ cZ 1 loc slw wst pk den rch pol ask xp str rdl rds nn off del cam ins low high) H := hP
  have hD : va_D A (zm_W o ad cI cJ cZ 1 loc slw wst pk den rch pol ask xp str rdl rds nn off del cam ins low high) := hD
  refine W.eq (g2 := F0 m 5 ls [.int 0]) rfl ?_
  refine zz_zeq (tgt := 16) hx hb dM_jitter_5 (by decide) (fun _ => ?_) (fun h => absurd h (by decide))
  refine lv_lconst (v := 0) hx hb dM_jitter_16 (by decide) ?_
  exact zq_lret hx hb hr hlocks dM_jitter_17 (rfl) hAe hP hD hS
set_option maxHeartbeats 4000000 in
set_option maxRecDepth 100000 in
theorem ct_M_jitter_0 (l : Launch) {dC : Nat → ClassId} {dI : Nat → Nat → Nat} {cJ cI cB cZ cS : ClassId} {sz : Nat} {o : Nat} {ad : Nat → Nat} {thr wst : Int32} {loc slw low high : Int64} {pk den rch pol ask str ins : Nat → Int32} {xp rdl rds off del cam : Nat → Int64} {nn : Nat → Nat} {k : Nat} (hk : k < 5) (h0 : nn k = 0) : Met l yM_jitter [Cond.code yM_jitter cM_jitter 2 (some .long)] { frames := 3, cells := 0, slots := 0, locals := 73 } (va_Pc [.ref o, .int (nI k)] (zq_B (dC, dI) vcl (zz_T cJ cI cB cZ cS) (zm_W o ad cI cJ cZ thr loc slw wst pk den rch pol ask xp str rdl rds nn off del cam ins low high) sz)) (zq_Q (dC, dI) vcl (some (.long 0)) (zm_W o ad cI cJ cZ thr loc slw wst pk den rch pol ask xp str rdl rds nn off del cam ins low high) (zm_W o ad cI cJ cZ 2 loc slw wst pk den rch pol ask xp str rdl rds nn off del cam ins low high) sz) 0 0 (va_A (zm_W o ad cI cJ cZ thr loc slw wst pk den rch pol ask xp str rdl rds nn off del cam ins low high) sz) := by
  refine Met.ofW (cc := cM_jitter) (maxL := 2) (ret := (some .long)) (by decide) rfl ?_
  intro p e s m args below meth c s₁ B hml hv
  obtain ⟨rfl, hsz, hT, hP, hK, hD0⟩ := hv
  subst hsz
  have hx := B.exec
  have hb := B.bytes
  have hr := B.returns
  have hlocks := B.notSynchronized
  have hown : s.vm.findClass RM = some m.cls := findClass_of_methodNamed B.named
  have hD := hD0.self (sz := s.heap.size)
  generalize hAe : va_A (zm_W o ad cI cJ cZ thr loc slw wst pk den rch pol ask xp str rdl rds nn off del cam ins low high) s.heap.size = A at hD ⊢
  have hA : ∀ q : Nat, s.heap.size ≤ q → A q := fun q h => by rw [← hAe]; exact Or.inr h
  have hS : va_S A s.heap s.heap [] := va_S.rf
  have hl := lv_entry ([.ref o, .int (nI k)]) (n := 2) (Nat.le_of_ble_eq_true rfl)
  rw [lg_entry_eq]
  generalize (lg_sl ([.ref o, .int (nI k)]) ++ List.replicate (2 - (lg_sl ([.ref o, .int (nI k)])).length) Slot.unset).toArray = ls at hl ⊢
  have hl : lv_has ls 2 [(0, .ref o), (1, .int (nI k))] := hl
  refine lv_aload_n hx hb dM_jitter_0 rfl (lv_at hl 0 rfl) ?_
  refine lv_iload_n hx hb dM_jitter_1 rfl (lv_at hl 1 rfl) ?_
  refine zq_call0 (va_runV (Ts := []) (As := [.int (nI k)]) (own := RM) ⟨hx, hb, hml, hown, fun _ h => nomatch h⟩ (ct_M_shows_0 l hk h0) (zt_cv hT tc_M_shows tv_M_shows tw_755 ⟨Nat.le_of_ble_eq_true rfl, Nat.le_of_ble_eq_true rfl⟩) (zq_preV (q0 := 0) hT hP hK hD rfl rfl) rfl rfl hl.1 rfl (lv_room (Nat.le_of_ble_eq_true rfl)) dM_jitter_2 ⟨Nat.zero_le _, Nat.zero_le _⟩) hP hD hS hA (fun H locs hP hD hS => ?_)
  have hP : va_P (dC, dI) vcl (zm_W o ad cI cJ cZ 2 loc slw wst pk den rch pol ask xp str rdl rds nn off del cam ins low high) H := hP
  have hD : va_D A (zm_W o ad cI cJ cZ 2 loc slw wst pk den rch pol ask xp str rdl rds nn off del cam ins low high) := hD
  refine W.eq (g2 := F0 m 5 ls [.int 0]) rfl ?_
  refine zz_zeq (tgt := 16) hx hb dM_jitter_5 (by decide) (fun _ => ?_) (fun h => absurd h (by decide))
  refine lv_lconst (v := 0) hx hb dM_jitter_16 (by decide) ?_
  exact zq_lret hx hb hr hlocks dM_jitter_17 (rfl) hAe hP hD hS
set_option maxHeartbeats 4000000 in
set_option maxRecDepth 100000 in
theorem ct_M_jitter (l : Launch) {dC : Nat → ClassId} {dI : Nat → Nat → Nat} {cJ cI cB cZ cS : ClassId} {sz : Nat} {o : Nat} {ad : Nat → Nat} {thr wst : Int32} {loc slw low high : Int64} {pk den rch pol ask str ins : Nat → Int32} {xp rdl rds off del cam : Nat → Int64} {nn : Nat → Nat} {k : Nat} (hk : k < 5) (h0 : ¬ nn k = 0) (hn : ∀ k, nn k ≤ 8) : Met l yM_jitter [Cond.code yM_jitter cM_jitter 2 (some .long)] { frames := 3, cells := 0, slots := 0, locals := 73 } (va_Pc [.ref o, .int (nI k)] (zq_B (dC, dI) vcl (zz_T cJ cI cB cZ cS) (zm_W o ad cI cJ cZ thr loc slw wst pk den rch pol ask xp str rdl rds nn off del cam ins low high) sz)) (zq_Q (dC, dI) vcl (some (.long (zm_jit off del cam loc nn k))) (zm_W o ad cI cJ cZ thr loc slw wst pk den rch pol ask xp str rdl rds nn off del cam ins low high) (zm_W o ad cI cJ cZ 0 loc slw wst pk den rch pol ask xp str rdl rds nn off del cam ins low high) sz) 0 0 (va_A (zm_W o ad cI cJ cZ thr loc slw wst pk den rch pol ask xp str rdl rds nn off del cam ins low high) sz) := by
  refine Met.ofW (cc := cM_jitter) (maxL := 2) (ret := (some .long)) (by decide) rfl ?_
  intro p e s m args below meth c s₁ B hml hv
  obtain ⟨rfl, hsz, hT, hP, hK, hD0⟩ := hv
  subst hsz
  have hx := B.exec
  have hb := B.bytes
  have hr := B.returns
  have hlocks := B.notSynchronized
  have hown : s.vm.findClass RM = some m.cls := findClass_of_methodNamed B.named
  have hD := hD0.self (sz := s.heap.size)
  generalize hAe : va_A (zm_W o ad cI cJ cZ thr loc slw wst pk den rch pol ask xp str rdl rds nn off del cam ins low high) s.heap.size = A at hD ⊢
  have hA : ∀ q : Nat, s.heap.size ≤ q → A q := fun q h => by rw [← hAe]; exact Or.inr h
  have hS : va_S A s.heap s.heap [] := va_S.rf
  have hl := lv_entry ([.ref o, .int (nI k)]) (n := 2) (Nat.le_of_ble_eq_true rfl)
  rw [lg_entry_eq]
  generalize (lg_sl ([.ref o, .int (nI k)]) ++ List.replicate (2 - (lg_sl ([.ref o, .int (nI k)])).length) Slot.unset).toArray = ls at hl ⊢
  have hl : lv_has ls 2 [(0, .ref o), (1, .int (nI k))] := hl
  refine lv_aload_n hx hb dM_jitter_0 rfl (lv_at hl 0 rfl) ?_
  refine lv_iload_n hx hb dM_jitter_1 rfl (lv_at hl 1 rfl) ?_
  refine zq_call0 (va_runV (Ts := []) (As := [.int (nI k)]) (own := RM) ⟨hx, hb, hml, hown, fun _ h => nomatch h⟩ (ct_M_shows l hk h0 (hn k)) (zt_cv hT tc_M_shows tv_M_shows tw_755 ⟨Nat.le_of_ble_eq_true rfl, Nat.le_of_ble_eq_true rfl⟩) (zq_preV (q0 := 0) hT hP hK hD rfl rfl) rfl rfl hl.1 rfl (lv_room (Nat.le_of_ble_eq_true rfl)) dM_jitter_2 ⟨Nat.zero_le _, Nat.zero_le _⟩) hP hD hS hA (fun H locs hP hD hS => ?_)
  have hP : va_P (dC, dI) vcl (zm_W o ad cI cJ cZ 0 loc slw wst pk den rch pol ask xp str rdl rds nn off del cam ins low high) H := hP
  have hD : va_D A (zm_W o ad cI cJ cZ 0 loc slw wst pk den rch pol ask xp str rdl rds nn off del cam ins low high) := hD
  refine W.eq (g2 := F0 m 5 ls [.int 1]) rfl ?_
  refine zz_zeq (tgt := 16) hx hb dM_jitter_5 (by decide) (fun h => absurd h (by decide)) (fun _ => ?_)
  refine lv_aload_n hx hb dM_jitter_8 rfl (lv_at hl 0 rfl) ?_
  refine lv_iload_n hx hb dM_jitter_9 rfl (lv_at hl 1 rfl) ?_
  refine zz_call (va_runV (Ts := []) (As := [.int (nI k)]) (own := RM) ⟨hx, hb, hml, hown, fun _ h => nomatch h⟩ (ct_M_jitterOf l (k := k) (by omega) (hn _)) (zt_cv hT tc_M_jitterOf tv_M_jitterOf tw_780 ⟨Nat.le_of_ble_eq_true rfl, Nat.le_of_ble_eq_true rfl⟩) (zz_preV (q0 := 0) hT hP hK rfl rfl) rfl rfl hl.1 rfl (lv_room (Nat.le_of_ble_eq_true rfl)) dM_jitter_10 ⟨Nat.zero_le _, Nat.zero_le _⟩) ?_
  refine lv_goto (tgt := 17) hx hb dM_jitter_13 (by decide) ?_
  exact zq_lret hx hb hr hlocks dM_jitter_17 (rfl) hAe hP hD hS
set_option maxHeartbeats 4000000 in
set_option maxRecDepth 100000 in
theorem ct_M_distance_no (l : Launch) {dC : Nat → ClassId} {dI : Nat → Nat → Nat} {cJ cI cB cZ cS : ClassId} {sz : Nat} {o : Nat} {ad : Nat → Nat} {thr wst : Int32} {loc slw low high : Int64} {pk den rch pol ask str ins : Nat → Int32} {xp rdl rds off del cam : Nat → Int64} {nn : Nat → Nat} {x : Int32} (hx9 : zm_isv x = 0) : Met l yM_distance [Cond.code yM_distance cM_distance 2 (some .long)] { frames := 4, cells := 0, slots := 0, locals := 95 } (va_Pc [.ref o, .int x] (zq_B (dC, dI) vcl (zz_T cJ cI cB cZ cS) (zm_W o ad cI cJ cZ thr loc slw wst pk den rch pol ask xp str rdl rds nn off del cam ins low high) sz)) (zq_Q (dC, dI) vcl (some (.long 0)) (zm_W o ad cI cJ cZ thr loc slw wst pk den rch pol ask xp str rdl rds nn off del cam ins low high) (zm_W o ad cI cJ cZ 1 loc slw wst pk den rch pol ask xp str rdl rds nn off del cam ins low high) sz) 0 0 (va_A (zm_W o ad cI cJ cZ thr loc slw wst pk den rch pol ask xp str rdl rds nn off del cam ins low high) sz) := by
  refine Met.ofW (cc := cM_distance) (maxL := 2) (ret := (some .long)) (by decide) rfl ?_
  intro p e s m args below meth c s₁ B hml hv
  obtain ⟨rfl, hsz, hT, hP, hK, hD0⟩ := hv
  subst hsz
  have hx := B.exec
  have hb := B.bytes
  have hr := B.returns
  have hlocks := B.notSynchronized
  have hown : s.vm.findClass RM = some m.cls := findClass_of_methodNamed B.named
  have hD := hD0.self (sz := s.heap.size)
  generalize hAe : va_A (zm_W o ad cI cJ cZ thr loc slw wst pk den rch pol ask xp str rdl rds nn off del cam ins low high) s.heap.size = A at hD ⊢
  have hA : ∀ q : Nat, s.heap.size ≤ q → A q := fun q h => by rw [← hAe]; exact Or.inr h
  have hS : va_S A s.heap s.heap [] := va_S.rf
  have hl := lv_entry ([.ref o, .int x]) (n := 2) (Nat.le_of_ble_eq_true rfl)
  rw [lg_entry_eq]
  generalize (lg_sl ([.ref o, .int x]) ++ List.replicate (2 - (lg_sl ([.ref o, .int x])).length) Slot.unset).toArray = ls at hl ⊢
  have hl : lv_has ls 2 [(0, .ref o), (1, .int x)] := hl
  refine lv_aload_n hx hb dM_distance_0 rfl (lv_at hl 0 rfl) ?_
  refine lv_iload_n hx hb dM_distance_1 rfl (lv_at hl 1 rfl) ?_
  refine zq_call0 (va_runV (Ts := []) (As := [.int x]) (own := RM) ⟨hx, hb, hml, hown, fun _ h => nomatch h⟩ (ct_M_shows_no l hx9) (zt_cv hT tc_M_shows tv_M_shows tw_755 ⟨Nat.le_of_ble_eq_true rfl, Nat.le_of_ble_eq_true rfl⟩) (zq_preV (q0 := 0) hT hP hK hD rfl rfl) rfl rfl hl.1 rfl (lv_room (Nat.le_of_ble_eq_true rfl)) dM_distance_2 ⟨Nat.zero_le _, Nat.zero_le _⟩) hP hD hS hA (fun H locs hP hD hS => ?_)
  have hP : va_P (dC, dI) vcl (zm_W o ad cI cJ cZ 1 loc slw wst pk den rch pol ask xp str rdl rds nn off del cam ins low high) H := hP
  have hD : va_D A (zm_W o ad cI cJ cZ 1 loc slw wst pk den rch pol ask xp str rdl rds nn off del cam ins low high) := hD
  refine W.eq (g2 := F0 m 5 ls [.int 0]) rfl ?_
  refine zz_zeq (tgt := 16) hx hb dM_distance_5 (by decide) (fun _ => ?_) (fun h => absurd h (by decide))
  refine lv_lconst (v := 0) hx hb dM_distance_16 (by decide) ?_
  exact zq_lret hx hb hr hlocks dM_distance_17 (rfl) hAe hP hD hS
set_option maxHeartbeats 4000000 in
set_option maxRecDepth 100000 in
theorem ct_M_distance_0 (l : Launch) {dC : Nat → ClassId} {dI : Nat → Nat → Nat} {cJ cI cB cZ cS : ClassId} {sz : Nat} {o : Nat} {ad : Nat → Nat} {thr wst : Int32} {loc slw low high : Int64} {pk den rch pol ask str ins : Nat → Int32} {xp rdl rds off del cam : Nat → Int64} {nn : Nat → Nat} {k : Nat} (hk : k < 5) (h0 : nn k = 0) : Met l yM_distance [Cond.code yM_distance cM_distance 2 (some .long)] { frames := 4, cells := 0, slots := 0, locals := 95 } (va_Pc [.ref o, .int (nI k)] (zq_B (dC, dI) vcl (zz_T cJ cI cB cZ cS) (zm_W o ad cI cJ cZ thr loc slw wst pk den rch pol ask xp str rdl rds nn off del cam ins low high) sz)) (zq_Q (dC, dI) vcl (some (.long 0)) (zm_W o ad cI cJ cZ thr loc slw wst pk den rch pol ask xp str rdl rds nn off del cam ins low high) (zm_W o ad cI cJ cZ 2 loc slw wst pk den rch pol ask xp str rdl rds nn off del cam ins low high) sz) 0 0 (va_A (zm_W o ad cI cJ cZ thr loc slw wst pk den rch pol ask xp str rdl rds nn off del cam ins low high) sz) := by
  refine Met.ofW (cc := cM_distance) (maxL := 2) (ret := (some .long)) (by decide) rfl ?_
  intro p e s m args below meth c s₁ B hml hv
  obtain ⟨rfl, hsz, hT, hP, hK, hD0⟩ := hv
  subst hsz
  have hx := B.exec
  have hb := B.bytes
  have hr := B.returns
  have hlocks := B.notSynchronized
  have hown : s.vm.findClass RM = some m.cls := findClass_of_methodNamed B.named
  have hD := hD0.self (sz := s.heap.size)
  generalize hAe : va_A (zm_W o ad cI cJ cZ thr loc slw wst pk den rch pol ask xp str rdl rds nn off del cam ins low high) s.heap.size = A at hD ⊢
  have hA : ∀ q : Nat, s.heap.size ≤ q → A q := fun q h => by rw [← hAe]; exact Or.inr h
  have hS : va_S A s.heap s.heap [] := va_S.rf
  have hl := lv_entry ([.ref o, .int (nI k)]) (n := 2) (Nat.le_of_ble_eq_true rfl)
  rw [lg_entry_eq]
  generalize (lg_sl ([.ref o, .int (nI k)]) ++ List.replicate (2 - (lg_sl ([.ref o, .int (nI k)])).length) Slot.unset).toArray = ls at hl ⊢
  have hl : lv_has ls 2 [(0, .ref o), (1, .int (nI k))] := hl
  refine lv_aload_n hx hb dM_distance_0 rfl (lv_at hl 0 rfl) ?_
  refine lv_iload_n hx hb dM_distance_1 rfl (lv_at hl 1 rfl) ?_
  refine zq_call0 (va_runV (Ts := []) (As := [.int (nI k)]) (own := RM) ⟨hx, hb, hml, hown, fun _ h => nomatch h⟩ (ct_M_shows_0 l hk h0) (zt_cv hT tc_M_shows tv_M_shows tw_755 ⟨Nat.le_of_ble_eq_true rfl, Nat.le_of_ble_eq_true rfl⟩) (zq_preV (q0 := 0) hT hP hK hD rfl rfl) rfl rfl hl.1 rfl (lv_room (Nat.le_of_ble_eq_true rfl)) dM_distance_2 ⟨Nat.zero_le _, Nat.zero_le _⟩) hP hD hS hA (fun H locs hP hD hS => ?_)
  have hP : va_P (dC, dI) vcl (zm_W o ad cI cJ cZ 2 loc slw wst pk den rch pol ask xp str rdl rds nn off del cam ins low high) H := hP
  have hD : va_D A (zm_W o ad cI cJ cZ 2 loc slw wst pk den rch pol ask xp str rdl rds nn off del cam ins low high) := hD
  refine W.eq (g2 := F0 m 5 ls [.int 0]) rfl ?_
  refine zz_zeq (tgt := 16) hx hb dM_distance_5 (by decide) (fun _ => ?_) (fun h => absurd h (by decide))
  refine lv_lconst (v := 0) hx hb dM_distance_16 (by decide) ?_
  exact zq_lret hx hb hr hlocks dM_distance_17 (rfl) hAe hP hD hS
set_option maxHeartbeats 4000000 in
set_option maxRecDepth 100000 in
theorem ct_M_distance (l : Launch) {dC : Nat → ClassId} {dI : Nat → Nat → Nat} {cJ cI cB cZ cS : ClassId} {sz : Nat} {o : Nat} {ad : Nat → Nat} {thr wst : Int32} {loc slw low high : Int64} {pk den rch pol ask str ins : Nat → Int32} {xp rdl rds off del cam : Nat → Int64} {nn : Nat → Nat} {k : Nat} (hk : k < 5) (h0 : ¬ nn k = 0) (hn : ∀ k, nn k ≤ 8) : Met l yM_distance [Cond.code yM_distance cM_distance 2 (some .long)] { frames := 4, cells := 0, slots := 0, locals := 95 } (va_Pc [.ref o, .int (nI k)] (zq_B (dC, dI) vcl (zz_T cJ cI cB cZ cS) (zm_W o ad cI cJ cZ thr loc slw wst pk den rch pol ask xp str rdl rds nn off del cam ins low high) sz)) (zq_Q (dC, dI) vcl (some (.long (zm_d rdl rds off del cam loc nn k))) (zm_W o ad cI cJ cZ thr loc slw wst pk den rch pol ask xp str rdl rds nn off del cam ins low high) (zm_W o ad cI cJ cZ 0 loc slw wst pk den rch pol ask xp str rdl rds nn off del cam ins low high) sz) 0 0 (va_A (zm_W o ad cI cJ cZ thr loc slw wst pk den rch pol ask xp str rdl rds nn off del cam ins low high) sz) := by
  refine Met.ofW (cc := cM_distance) (maxL := 2) (ret := (some .long)) (by decide) rfl ?_
  intro p e s m args below meth c s₁ B hml hv
  obtain ⟨rfl, hsz, hT, hP, hK, hD0⟩ := hv
  subst hsz
  have hx := B.exec
  have hb := B.bytes
  have hr := B.returns
  have hlocks := B.notSynchronized
  have hown : s.vm.findClass RM = some m.cls := findClass_of_methodNamed B.named
  have hD := hD0.self (sz := s.heap.size)
  generalize hAe : va_A (zm_W o ad cI cJ cZ thr loc slw wst pk den rch pol ask xp str rdl rds nn off del cam ins low high) s.heap.size = A at hD ⊢
  have hA : ∀ q : Nat, s.heap.size ≤ q → A q := fun q h => by rw [← hAe]; exact Or.inr h
  have hS : va_S A s.heap s.heap [] := va_S.rf
  have hl := lv_entry ([.ref o, .int (nI k)]) (n := 2) (Nat.le_of_ble_eq_true rfl)
  rw [lg_entry_eq]
  generalize (lg_sl ([.ref o, .int (nI k)]) ++ List.replicate (2 - (lg_sl ([.ref o, .int (nI k)])).length) Slot.unset).toArray = ls at hl ⊢
  have hl : lv_has ls 2 [(0, .ref o), (1, .int (nI k))] := hl
  refine lv_aload_n hx hb dM_distance_0 rfl (lv_at hl 0 rfl) ?_
  refine lv_iload_n hx hb dM_distance_1 rfl (lv_at hl 1 rfl) ?_
  refine zq_call0 (va_runV (Ts := []) (As := [.int (nI k)]) (own := RM) ⟨hx, hb, hml, hown, fun _ h => nomatch h⟩ (ct_M_shows l hk h0 (hn k)) (zt_cv hT tc_M_shows tv_M_shows tw_755 ⟨Nat.le_of_ble_eq_true rfl, Nat.le_of_ble_eq_true rfl⟩) (zq_preV (q0 := 0) hT hP hK hD rfl rfl) rfl rfl hl.1 rfl (lv_room (Nat.le_of_ble_eq_true rfl)) dM_distance_2 ⟨Nat.zero_le _, Nat.zero_le _⟩) hP hD hS hA (fun H locs hP hD hS => ?_)
  have hP : va_P (dC, dI) vcl (zm_W o ad cI cJ cZ 0 loc slw wst pk den rch pol ask xp str rdl rds nn off del cam ins low high) H := hP
  have hD : va_D A (zm_W o ad cI cJ cZ 0 loc slw wst pk den rch pol ask xp str rdl rds nn off del cam ins low high) := hD
  refine W.eq (g2 := F0 m 5 ls [.int 1]) rfl ?_
  refine zz_zeq (tgt := 16) hx hb dM_distance_5 (by decide) (fun h => absurd h (by decide)) (fun _ => ?_)
  refine lv_aload_n hx hb dM_distance_8 rfl (lv_at hl 0 rfl) ?_
  refine lv_iload_n hx hb dM_distance_9 rfl (lv_at hl 1 rfl) ?_
  refine zz_call (va_runV (Ts := []) (As := [.int (nI k)]) (own := RM) ⟨hx, hb, hml, hown, fun _ h => nomatch h⟩ (ct_M_distanceOf l (k := k) (by omega) (hn _)) (zt_cv hT tc_M_distanceOf tv_M_distanceOf tw_791 ⟨Nat.le_of_ble_eq_true rfl, Nat.le_of_ble_eq_true rfl⟩) (zz_preV (q0 := 0) hT hP hK rfl rfl) rfl rfl hl.1 rfl (lv_room (Nat.le_of_ble_eq_true rfl)) dM_distance_10 ⟨Nat.zero_le _, Nat.zero_le _⟩) ?_
  refine lv_goto (tgt := 17) hx hb dM_distance_13 (by decide) ?_
  exact zq_lret hx hb hr hlocks dM_distance_17 (rfl) hAe hP hD hS
