/-! Constructors: the packet, a server, the vote -/
set_option maxHeartbeats 4000000 in
set_option maxRecDepth 100000 in
theorem ct_P_init (l : Launch) {dC : Nat → ClassId} {dI : Nat → Nat → Nat} {cJ cI cB cZ cS : ClassId} {sz : Nat} {q : Nat} : Met l yP_init [Cond.code yP_init cP_init 1 none] { frames := 1, cells := 1, slots := 48, locals := 13 } (va_Pc [.ref q] (zq_B (dC, dI) vcl (zz_T cJ cI cB cZ cS) ([(q, .inr (0, [(.null)]))]) sz)) (zn_Q (S := Nat) (dC, dI) vcl (fun r => zp_W q r cB (fun _ => 0)) ([(q, .inr (0, [(.null)]))]) sz) 1 48 (va_A ([(q, .inr (0, [(.null)]))]) sz) := by
  refine Met.ofW (cc := cP_init) (maxL := 1) (ret := none) (by decide) rfl ?_
  intro p e s m args below meth c s₁ B hml hv
  obtain ⟨rfl, hsz, hT, hP, hK, hD0⟩ := hv
  subst hsz
  have hx := B.exec
  have hb := B.bytes
  have hr := B.returns
  have hlocks := B.notSynchronized
  have hown : s.vm.findClass RP = some m.cls := findClass_of_methodNamed B.named
  have hinit : meth.name = "<init>" := (name_of_methodNamed B.named B.method).1
  have hD := hD0.self (sz := s.heap.size)
  generalize hAe : va_A ([(q, .inr (0, [(.null)]))]) s.heap.size = A at hD ⊢
  have hA : ∀ q : Nat, s.heap.size ≤ q → A q := fun q h => by rw [← hAe]; exact Or.inr h
  have hS : va_S A s.heap s.heap [] := va_S.rf
  have hl := lv_entry ([.ref q]) (n := 1) (Nat.le_of_ble_eq_true rfl)
  rw [lg_entry_eq]
  generalize (lg_sl ([.ref q]) ++ List.replicate (1 - (lg_sl ([.ref q])).length) Slot.unset).toArray = ls at hl ⊢
  have hl : lv_has ls 1 [(0, .ref q)] := hl
  refine lv_aload_n hx hb dP_init_0 rfl (lv_at hl 0 rfl) ?_
  refine zn_obj hx hb hown hT tw_29 (hl.1.trans hml.symm) dP_init_1 ⟨Nat.le_of_ble_eq_true rfl, Nat.le_of_ble_eq_true rfl⟩ ?_
  refine lv_aload_n hx hb dP_init_4 rfl (lv_at hl 0 rfl) ?_
  refine lv_bipush (v := 48) hx hb dP_init_5 (by decide) ?_
  refine zn_newB (N' := 48) hx hb hT hK hP hD hS hA (by decide) (by decide) (by decide) (Nat.le_of_ble_eq_true rfl) (Nat.le_of_ble_eq_true rfl) dP_init_7 (fun q1 H hP hD hS => ?_)
  have hP : va_P (dC, dI) vcl ([(q, .inr (0, [(.null)])), (q1, .inl (cB, 48, .inl (fun _ => 0)))]) H := hP
  have hD : va_D A ([(q, .inr (0, [(.null)])), (q1, .inl (cB, 48, .inl (fun _ => 0)))]) := hD
  refine zz_putFP (v := .ref q1) (ty := (.array .byte)) hx hb hT hown hK hP hD hS 0 rfl 0 (by decide) tw_30 rfl hinit rfl (by decide +kernel) rfl rfl (Nat.le_of_ble_eq_true rfl) dP_init_9 (fun H locs hP hD hS => ?_)
  have hP : va_P (dC, dI) vcl ([(q, .inr (0, [(.ref q1)])), (q1, .inl (cB, 48, .inl (fun _ => 0)))]) H := hP
  have hD : va_D A ([(q, .inr (0, [(.ref q1)])), (q1, .inl (cB, 48, .inl (fun _ => 0)))]) := hD
  exact zn_vret (q1) hx hb hr hlocks dP_init_12 (Nat.le_of_ble_eq_true rfl) (Nat.le_of_ble_eq_true rfl) hAe hP hD hS
set_option maxHeartbeats 4000000 in
set_option maxRecDepth 100000 in
theorem ct_S_init (l : Launch) {dC : Nat → ClassId} {dI : Nat → Nat → Nat} {cJ cI cB cZ cS : ClassId} {sz : Nat} {o : Nat} : Met l yS_init [Cond.code yS_init cS_init 1 none] { frames := 1, cells := 3, slots := 24, locals := 13 } (va_Pc [.ref o] (zq_B (dC, dI) vcl (zz_T cJ cI cB cZ cS) ([(o, .inr (1, [(.int 0), (.int 0), (.int 0), (.int 0), (.long 0), (.int 0), (.int 0), (.long 0), (.long 0), (.null), (.null), (.null)]))]) sz)) (zn_Q (S := Nat × Nat × Nat) (dC, dI) vcl (fun u => zs_W o u.1 u.2.1 u.2.2 cJ 0 0 6 0 0 0 0 0 0 (fun _ => 0) (fun _ => 0) (fun _ => 0)) ([(o, .inr (1, [(.int 0), (.int 0), (.int 0), (.int 0), (.long 0), (.int 0), (.int 0), (.long 0), (.long 0), (.null), (.null), (.null)]))]) sz) 3 24 (va_A ([(o, .inr (1, [(.int 0), (.int 0), (.int 0), (.int 0), (.long 0), (.int 0), (.int 0), (.long 0), (.long 0), (.null), (.null), (.null)]))]) sz) := by
  refine Met.ofW (cc := cS_init) (maxL := 1) (ret := none) (by decide) rfl ?_
  intro p e s m args below meth c s₁ B hml hv
  obtain ⟨rfl, hsz, hT, hP, hK, hD0⟩ := hv
  subst hsz
  have hx := B.exec
  have hb := B.bytes
  have hr := B.returns
  have hlocks := B.notSynchronized
  have hown : s.vm.findClass RS = some m.cls := findClass_of_methodNamed B.named
  have hinit : meth.name = "<init>" := (name_of_methodNamed B.named B.method).1
  have hD := hD0.self (sz := s.heap.size)
  generalize hAe : va_A ([(o, .inr (1, [(.int 0), (.int 0), (.int 0), (.int 0), (.long 0), (.int 0), (.int 0), (.long 0), (.long 0), (.null), (.null), (.null)]))]) s.heap.size = A at hD ⊢
  have hA : ∀ q : Nat, s.heap.size ≤ q → A q := fun q h => by rw [← hAe]; exact Or.inr h
  have hS : va_S A s.heap s.heap [] := va_S.rf
  have hl := lv_entry ([.ref o]) (n := 1) (Nat.le_of_ble_eq_true rfl)
  rw [lg_entry_eq]
  generalize (lg_sl ([.ref o]) ++ List.replicate (1 - (lg_sl ([.ref o])).length) Slot.unset).toArray = ls at hl ⊢
  have hl : lv_has ls 1 [(0, .ref o)] := hl
  refine lv_aload_n hx hb dS_init_0 rfl (lv_at hl 0 rfl) ?_
  refine zn_obj hx hb hown hT tw_41 (hl.1.trans hml.symm) dS_init_1 ⟨Nat.le_of_ble_eq_true rfl, Nat.le_of_ble_eq_true rfl⟩ ?_
  refine lv_aload_n hx hb dS_init_4 rfl (lv_at hl 0 rfl) ?_
  refine lv_iconst (v := 0) hx hb dS_init_5 (by decide) ?_
  refine zz_putS (v := .int 0) (ty := .boolean) hx hb hT hown hK hP hD hS 0 rfl 0 (by decide) tw_42 rfl (by decide +kernel) rfl rfl (Nat.le_of_ble_eq_true rfl) dS_init_6 (fun H locs hP hD hS => ?_)
  have hP : va_P (dC, dI) vcl ([(o, .inr (1, [(.int 0), (.int 0), (.int 0), (.int 0), (.long 0), (.int 0), (.int 0), (.long 0), (.long 0), (.null), (.null), (.null)]))]) H := hP
  have hD : va_D A ([(o, .inr (1, [(.int 0), (.int 0), (.int 0), (.int 0), (.long 0), (.int 0), (.int 0), (.long 0), (.long 0), (.null), (.null), (.null)]))]) := hD
  refine lv_aload_n hx hb dS_init_9 rfl (lv_at hl 0 rfl) ?_
  refine lv_iconst (v := 0) hx hb dS_init_10 (by decide) ?_
  refine zz_putS (v := .int 0) (ty := .int) hx hb hT hown hK hP hD hS 0 rfl 1 (by decide) tw_45 rfl (by decide +kernel) rfl rfl (Nat.le_of_ble_eq_true rfl) dS_init_11 (fun H locs hP hD hS => ?_)
  have hP : va_P (dC, dI) vcl ([(o, .inr (1, [(.int 0), (.int 0), (.int 0), (.int 0), (.long 0), (.int 0), (.int 0), (.long 0), (.long 0), (.null), (.null), (.null)]))]) H := hP
  have hD : va_D A ([(o, .inr (1, [(.int 0), (.int 0), (.int 0), (.int 0), (.long 0), (.int 0), (.int 0), (.long 0), (.long 0), (.null), (.null), (.null)]))]) := hD
  refine lv_aload_n hx hb dS_init_14 rfl (lv_at hl 0 rfl) ?_
  refine lv_bipush (v := 6) hx hb dS_init_15 (by decide) ?_
  refine zz_putS (v := .int 6) (ty := .int) hx hb hT hown hK hP hD hS 0 rfl 2 (by decide) tw_48 rfl (by decide +kernel) rfl rfl (Nat.le_of_ble_eq_true rfl) dS_init_17 (fun H locs hP hD hS => ?_)
  have hP : va_P (dC, dI) vcl ([(o, .inr (1, [(.int 0), (.int 0), (.int 6), (.int 0), (.long 0), (.int 0), (.int 0), (.long 0), (.long 0), (.null), (.null), (.null)]))]) H := hP
  have hD : va_D A ([(o, .inr (1, [(.int 0), (.int 0), (.int 6), (.int 0), (.long 0), (.int 0), (.int 0), (.long 0), (.long 0), (.null), (.null), (.null)]))]) := hD
  refine lv_aload_n hx hb dS_init_20 rfl (lv_at hl 0 rfl) ?_
  refine lv_iconst (v := 0) hx hb dS_init_21 (by decide) ?_
  refine zz_putS (v := .int 0) (ty := .boolean) hx hb hT hown hK hP hD hS 0 rfl 3 (by decide) tw_50 rfl (by decide +kernel) rfl rfl (Nat.le_of_ble_eq_true rfl) dS_init_22 (fun H locs hP hD hS => ?_)
  have hP : va_P (dC, dI) vcl ([(o, .inr (1, [(.int 0), (.int 0), (.int 6), (.int 0), (.long 0), (.int 0), (.int 0), (.long 0), (.long 0), (.null), (.null), (.null)]))]) H := hP
  have hD : va_D A ([(o, .inr (1, [(.int 0), (.int 0), (.int 6), (.int 0), (.long 0), (.int 0), (.int 0), (.long 0), (.long 0), (.null), (.null), (.null)]))]) := hD
  refine lv_aload_n hx hb dS_init_25 rfl (lv_at hl 0 rfl) ?_
  refine lv_lconst (v := 0) hx hb dS_init_26 (by decide) ?_
  refine zz_putS (v := .long 0) (ty := .long) hx hb hT hown hK hP hD hS 0 rfl 4 (by decide) tw_52 rfl (by decide +kernel) rfl rfl (Nat.le_of_ble_eq_true rfl) dS_init_27 (fun H locs hP hD hS => ?_)
  have hP : va_P (dC, dI) vcl ([(o, .inr (1, [(.int 0), (.int 0), (.int 6), (.int 0), (.long 0), (.int 0), (.int 0), (.long 0), (.long 0), (.null), (.null), (.null)]))]) H := hP
  have hD : va_D A ([(o, .inr (1, [(.int 0), (.int 0), (.int 6), (.int 0), (.long 0), (.int 0), (.int 0), (.long 0), (.long 0), (.null), (.null), (.null)]))]) := hD
  refine lv_aload_n hx hb dS_init_30 rfl (lv_at hl 0 rfl) ?_
  refine lv_iconst (v := 0) hx hb dS_init_31 (by decide) ?_
  refine zz_putS (v := .int 0) (ty := .int) hx hb hT hown hK hP hD hS 0 rfl 5 (by decide) tw_54 rfl (by decide +kernel) rfl rfl (Nat.le_of_ble_eq_true rfl) dS_init_32 (fun H locs hP hD hS => ?_)
  have hP : va_P (dC, dI) vcl ([(o, .inr (1, [(.int 0), (.int 0), (.int 6), (.int 0), (.long 0), (.int 0), (.int 0), (.long 0), (.long 0), (.null), (.null), (.null)]))]) H := hP
  have hD : va_D A ([(o, .inr (1, [(.int 0), (.int 0), (.int 6), (.int 0), (.long 0), (.int 0), (.int 0), (.long 0), (.long 0), (.null), (.null), (.null)]))]) := hD
  refine lv_aload_n hx hb dS_init_35 rfl (lv_at hl 0 rfl) ?_
  refine lv_iconst (v := 0) hx hb dS_init_36 (by decide) ?_
  refine zz_putS (v := .int 0) (ty := .int) hx hb hT hown hK hP hD hS 0 rfl 6 (by decide) tw_57 rfl (by decide +kernel) rfl rfl (Nat.le_of_ble_eq_true rfl) dS_init_37 (fun H locs hP hD hS => ?_)
  have hP : va_P (dC, dI) vcl ([(o, .inr (1, [(.int 0), (.int 0), (.int 6), (.int 0), (.long 0), (.int 0), (.int 0), (.long 0), (.long 0), (.null), (.null), (.null)]))]) H := hP
  have hD : va_D A ([(o, .inr (1, [(.int 0), (.int 0), (.int 6), (.int 0), (.long 0), (.int 0), (.int 0), (.long 0), (.long 0), (.null), (.null), (.null)]))]) := hD
  refine lv_aload_n hx hb dS_init_40 rfl (lv_at hl 0 rfl) ?_
  refine lv_lconst (v := 0) hx hb dS_init_41 (by decide) ?_
  refine zz_putS (v := .long 0) (ty := .long) hx hb hT hown hK hP hD hS 0 rfl 7 (by decide) tw_59 rfl (by decide +kernel) rfl rfl (Nat.le_of_ble_eq_true rfl) dS_init_42 (fun H locs hP hD hS => ?_)
  have hP : va_P (dC, dI) vcl ([(o, .inr (1, [(.int 0), (.int 0), (.int 6), (.int 0), (.long 0), (.int 0), (.int 0), (.long 0), (.long 0), (.null), (.null), (.null)]))]) H := hP
  have hD : va_D A ([(o, .inr (1, [(.int 0), (.int 0), (.int 6), (.int 0), (.long 0), (.int 0), (.int 0), (.long 0), (.long 0), (.null), (.null), (.null)]))]) := hD
  refine lv_aload_n hx hb dS_init_45 rfl (lv_at hl 0 rfl) ?_
  refine lv_lconst (v := 0) hx hb dS_init_46 (by decide) ?_
  refine zz_putS (v := .long 0) (ty := .long) hx hb hT hown hK hP hD hS 0 rfl 8 (by decide) tw_60 rfl (by decide +kernel) rfl rfl (Nat.le_of_ble_eq_true rfl) dS_init_47 (fun H locs hP hD hS => ?_)
  have hP : va_P (dC, dI) vcl ([(o, .inr (1, [(.int 0), (.int 0), (.int 6), (.int 0), (.long 0), (.int 0), (.int 0), (.long 0), (.long 0), (.null), (.null), (.null)]))]) H := hP
  have hD : va_D A ([(o, .inr (1, [(.int 0), (.int 0), (.int 6), (.int 0), (.long 0), (.int 0), (.int 0), (.long 0), (.long 0), (.null), (.null), (.null)]))]) := hD
  refine lv_aload_n hx hb dS_init_50 rfl (lv_at hl 0 rfl) ?_
  refine lv_bipush (v := 8) hx hb dS_init_51 (by decide) ?_
  refine zn_newJ (N' := 8) hx hb hT hK hP hD hS hA (by decide) (by decide) (by decide) (Nat.le_of_ble_eq_true rfl) (Nat.le_of_ble_eq_true rfl) dS_init_53 (fun q1 H hP hD hS => ?_)
  have hP : va_P (dC, dI) vcl ([(o, .inr (1, [(.int 0), (.int 0), (.int 6), (.int 0), (.long 0), (.int 0), (.int 0), (.long 0), (.long 0), (.null), (.null), (.null)])), (q1, .inl (cJ, 8, .inr (.inl (fun _ => 0))))]) H := hP
  have hD : va_D A ([(o, .inr (1, [(.int 0), (.int 0), (.int 6), (.int 0), (.long 0), (.int 0), (.int 0), (.long 0), (.long 0), (.null), (.null), (.null)])), (q1, .inl (cJ, 8, .inr (.inl (fun _ => 0))))]) := hD
  refine zz_putFS (v := .ref q1) (ty := (.array .long)) hx hb hT hown hK hP hD hS 0 rfl 9 (by decide) tw_61 rfl hinit rfl (by decide +kernel) rfl rfl (Nat.le_of_ble_eq_true rfl) dS_init_55 (fun H locs hP hD hS => ?_)
  have hP : va_P (dC, dI) vcl ([(o, .inr (1, [(.int 0), (.int 0), (.int 6), (.int 0), (.long 0), (.int 0), (.int 0), (.long 0), (.long 0), (.ref q1), (.null), (.null)])), (q1, .inl (cJ, 8, .inr (.inl (fun _ => 0))))]) H := hP
  have hD : va_D A ([(o, .inr (1, [(.int 0), (.int 0), (.int 6), (.int 0), (.long 0), (.int 0), (.int 0), (.long 0), (.long 0), (.ref q1), (.null), (.null)])), (q1, .inl (cJ, 8, .inr (.inl (fun _ => 0))))]) := hD
  refine lv_aload_n hx hb dS_init_58 rfl (lv_at hl 0 rfl) ?_
  refine lv_bipush (v := 8) hx hb dS_init_59 (by decide) ?_
  refine zn_newJ (N' := 8) hx hb hT hK hP hD hS hA (by decide) (by decide) (by decide) (Nat.le_of_ble_eq_true rfl) (Nat.le_of_ble_eq_true rfl) dS_init_61 (fun q2 H hP hD hS => ?_)
  have hP : va_P (dC, dI) vcl ([(o, .inr (1, [(.int 0), (.int 0), (.int 6), (.int 0), (.long 0), (.int 0), (.int 0), (.long 0), (.long 0), (.ref q1), (.null), (.null)])), (q1, .inl (cJ, 8, .inr (.inl (fun _ => 0)))), (q2, .inl (cJ, 8, .inr (.inl (fun _ => 0))))]) H := hP
  have hD : va_D A ([(o, .inr (1, [(.int 0), (.int 0), (.int 6), (.int 0), (.long 0), (.int 0), (.int 0), (.long 0), (.long 0), (.ref q1), (.null), (.null)])), (q1, .inl (cJ, 8, .inr (.inl (fun _ => 0)))), (q2, .inl (cJ, 8, .inr (.inl (fun _ => 0))))]) := hD
  refine zz_putFS (v := .ref q2) (ty := (.array .long)) hx hb hT hown hK hP hD hS 0 rfl 10 (by decide) tw_62 rfl hinit rfl (by decide +kernel) rfl rfl (Nat.le_of_ble_eq_true rfl) dS_init_63 (fun H locs hP hD hS => ?_)
  have hP : va_P (dC, dI) vcl ([(o, .inr (1, [(.int 0), (.int 0), (.int 6), (.int 0), (.long 0), (.int 0), (.int 0), (.long 0), (.long 0), (.ref q1), (.ref q2), (.null)])), (q1, .inl (cJ, 8, .inr (.inl (fun _ => 0)))), (q2, .inl (cJ, 8, .inr (.inl (fun _ => 0))))]) H := hP
  have hD : va_D A ([(o, .inr (1, [(.int 0), (.int 0), (.int 6), (.int 0), (.long 0), (.int 0), (.int 0), (.long 0), (.long 0), (.ref q1), (.ref q2), (.null)])), (q1, .inl (cJ, 8, .inr (.inl (fun _ => 0)))), (q2, .inl (cJ, 8, .inr (.inl (fun _ => 0))))]) := hD
  refine lv_aload_n hx hb dS_init_66 rfl (lv_at hl 0 rfl) ?_
  refine lv_bipush (v := 8) hx hb dS_init_67 (by decide) ?_
  refine zn_newJ (N' := 8) hx hb hT hK hP hD hS hA (by decide) (by decide) (by decide) (Nat.le_of_ble_eq_true rfl) (Nat.le_of_ble_eq_true rfl) dS_init_69 (fun q3 H hP hD hS => ?_)
  have hP : va_P (dC, dI) vcl ([(o, .inr (1, [(.int 0), (.int 0), (.int 6), (.int 0), (.long 0), (.int 0), (.int 0), (.long 0), (.long 0), (.ref q1), (.ref q2), (.null)])), (q1, .inl (cJ, 8, .inr (.inl (fun _ => 0)))), (q2, .inl (cJ, 8, .inr (.inl (fun _ => 0)))), (q3, .inl (cJ, 8, .inr (.inl (fun _ => 0))))]) H := hP
  have hD : va_D A ([(o, .inr (1, [(.int 0), (.int 0), (.int 6), (.int 0), (.long 0), (.int 0), (.int 0), (.long 0), (.long 0), (.ref q1), (.ref q2), (.null)])), (q1, .inl (cJ, 8, .inr (.inl (fun _ => 0)))), (q2, .inl (cJ, 8, .inr (.inl (fun _ => 0)))), (q3, .inl (cJ, 8, .inr (.inl (fun _ => 0))))]) := hD
  refine zz_putFS (v := .ref q3) (ty := (.array .long)) hx hb hT hown hK hP hD hS 0 rfl 11 (by decide) tw_63 rfl hinit rfl (by decide +kernel) rfl rfl (Nat.le_of_ble_eq_true rfl) dS_init_71 (fun H locs hP hD hS => ?_)
  have hP : va_P (dC, dI) vcl ([(o, .inr (1, [(.int 0), (.int 0), (.int 6), (.int 0), (.long 0), (.int 0), (.int 0), (.long 0), (.long 0), (.ref q1), (.ref q2), (.ref q3)])), (q1, .inl (cJ, 8, .inr (.inl (fun _ => 0)))), (q2, .inl (cJ, 8, .inr (.inl (fun _ => 0)))), (q3, .inl (cJ, 8, .inr (.inl (fun _ => 0))))]) H := hP
  have hD : va_D A ([(o, .inr (1, [(.int 0), (.int 0), (.int 6), (.int 0), (.long 0), (.int 0), (.int 0), (.long 0), (.long 0), (.ref q1), (.ref q2), (.ref q3)])), (q1, .inl (cJ, 8, .inr (.inl (fun _ => 0)))), (q2, .inl (cJ, 8, .inr (.inl (fun _ => 0)))), (q3, .inl (cJ, 8, .inr (.inl (fun _ => 0))))]) := hD
  exact zn_vret ((q1, q2, q3)) hx hb hr hlocks dS_init_74 (Nat.le_of_ble_eq_true rfl) (Nat.le_of_ble_eq_true rfl) hAe hP hD hS
set_option maxHeartbeats 4000000 in
set_option maxRecDepth 100000 in
theorem ct_V_init (l : Launch) {dC : Nat → ClassId} {dI : Nat → Nat → Nat} {cJ cI cB cZ cS : ClassId} {sz : Nat} {v : Nat} : Met l yV_init [Cond.code yV_init cV_init 1 none] { frames := 1, cells := 2, slots := 10, locals := 13 } (va_Pc [.ref v] (zq_B (dC, dI) vcl (zz_T cJ cI cB cZ cS) ([(v, .inr (2, [(.int 0), (.long 0), (.long 0), (.int 0), (.null), (.null)]))]) sz)) (zn_Q (S := Nat × Nat) (dC, dI) vcl (fun u => zv_W v u.1 u.2 cJ 0 (4611686018427387904) (-4611686018427387904) 0 (fun _ => 0) (fun _ => 0)) ([(v, .inr (2, [(.int 0), (.long 0), (.long 0), (.int 0), (.null), (.null)]))]) sz) 2 10 (va_A ([(v, .inr (2, [(.int 0), (.long 0), (.long 0), (.int 0), (.null), (.null)]))]) sz) := by
  refine Met.ofW (cc := cV_init) (maxL := 1) (ret := none) (by decide) rfl ?_
  intro p e s m args below meth c s₁ B hml hv
  obtain ⟨rfl, hsz, hT, hP, hK, hD0⟩ := hv
  subst hsz
  have hx := B.exec
  have hb := B.bytes
  have hr := B.returns
  have hlocks := B.notSynchronized
  have hown : s.vm.findClass RV = some m.cls := findClass_of_methodNamed B.named
  have hinit : meth.name = "<init>" := (name_of_methodNamed B.named B.method).1
  have hD := hD0.self (sz := s.heap.size)
  generalize hAe : va_A ([(v, .inr (2, [(.int 0), (.long 0), (.long 0), (.int 0), (.null), (.null)]))]) s.heap.size = A at hD ⊢
  have hA : ∀ q : Nat, s.heap.size ≤ q → A q := fun q h => by rw [← hAe]; exact Or.inr h
  have hS : va_S A s.heap s.heap [] := va_S.rf
  have hl := lv_entry ([.ref v]) (n := 1) (Nat.le_of_ble_eq_true rfl)
  rw [lg_entry_eq]
  generalize (lg_sl ([.ref v]) ++ List.replicate (1 - (lg_sl ([.ref v])).length) Slot.unset).toArray = ls at hl ⊢
  have hl : lv_has ls 1 [(0, .ref v)] := hl
  refine lv_aload_n hx hb dV_init_0 rfl (lv_at hl 0 rfl) ?_
  refine zn_obj hx hb hown hT tw_95 (hl.1.trans hml.symm) dV_init_1 ⟨Nat.le_of_ble_eq_true rfl, Nat.le_of_ble_eq_true rfl⟩ ?_
  refine lv_aload_n hx hb dV_init_4 rfl (lv_at hl 0 rfl) ?_
  refine lv_iconst (v := 0) hx hb dV_init_5 (by decide) ?_
  refine zz_putV (v := .int 0) (ty := .int) hx hb hT hown hK hP hD hS 0 rfl 0 (by decide) tw_98 rfl (by decide +kernel) rfl rfl (Nat.le_of_ble_eq_true rfl) dV_init_6 (fun H locs hP hD hS => ?_)
  have hP : va_P (dC, dI) vcl ([(v, .inr (2, [(.int 0), (.long 0), (.long 0), (.int 0), (.null), (.null)]))]) H := hP
  have hD : va_D A ([(v, .inr (2, [(.int 0), (.long 0), (.long 0), (.int 0), (.null), (.null)]))]) := hD
  refine lv_aload_n hx hb dV_init_9 rfl (lv_at hl 0 rfl) ?_
  refine lv_ldc2 (own := RV) (v := 4611686018427387904) hx hb hown (hT.w tw_96) dV_init_10 ?_
  refine zz_putV (v := .long 4611686018427387904) (ty := .long) hx hb hT hown hK hP hD hS 0 rfl 1 (by decide) tw_100 rfl (by decide +kernel) rfl rfl (Nat.le_of_ble_eq_true rfl) dV_init_13 (fun H locs hP hD hS => ?_)
  have hP : va_P (dC, dI) vcl ([(v, .inr (2, [(.int 0), (.long 4611686018427387904), (.long 0), (.int 0), (.null), (.null)]))]) H := hP
  have hD : va_D A ([(v, .inr (2, [(.int 0), (.long 4611686018427387904), (.long 0), (.int 0), (.null), (.null)]))]) := hD
  refine lv_aload_n hx hb dV_init_16 rfl (lv_at hl 0 rfl) ?_
  refine lv_ldc2 (own := RV) (v := (-4611686018427387904)) hx hb hown (hT.w tw_97) dV_init_17 ?_
  refine zz_putV (v := .long (-4611686018427387904)) (ty := .long) hx hb hT hown hK hP hD hS 0 rfl 2 (by decide) tw_102 rfl (by decide +kernel) rfl rfl (Nat.le_of_ble_eq_true rfl) dV_init_20 (fun H locs hP hD hS => ?_)
  have hP : va_P (dC, dI) vcl ([(v, .inr (2, [(.int 0), (.long 4611686018427387904), (.long (-4611686018427387904)), (.int 0), (.null), (.null)]))]) H := hP
  have hD : va_D A ([(v, .inr (2, [(.int 0), (.long 4611686018427387904), (.long (-4611686018427387904)), (.int 0), (.null), (.null)]))]) := hD
  refine lv_aload_n hx hb dV_init_23 rfl (lv_at hl 0 rfl) ?_
  refine lv_iconst (v := 0) hx hb dV_init_24 (by decide) ?_
  refine zz_putV (v := .int 0) (ty := .int) hx hb hT hown hK hP hD hS 0 rfl 3 (by decide) tw_104 rfl (by decide +kernel) rfl rfl (Nat.le_of_ble_eq_true rfl) dV_init_25 (fun H locs hP hD hS => ?_)
  have hP : va_P (dC, dI) vcl ([(v, .inr (2, [(.int 0), (.long 4611686018427387904), (.long (-4611686018427387904)), (.int 0), (.null), (.null)]))]) H := hP
  have hD : va_D A ([(v, .inr (2, [(.int 0), (.long 4611686018427387904), (.long (-4611686018427387904)), (.int 0), (.null), (.null)]))]) := hD
  refine lv_aload_n hx hb dV_init_28 rfl (lv_at hl 0 rfl) ?_
  refine lv_iconst (v := 5) hx hb dV_init_29 (by decide) ?_
  refine zn_newJ (N' := 5) hx hb hT hK hP hD hS hA (by decide) (by decide) (by decide) (Nat.le_of_ble_eq_true rfl) (Nat.le_of_ble_eq_true rfl) dV_init_30 (fun q1 H hP hD hS => ?_)
  have hP : va_P (dC, dI) vcl ([(v, .inr (2, [(.int 0), (.long 4611686018427387904), (.long (-4611686018427387904)), (.int 0), (.null), (.null)])), (q1, .inl (cJ, 5, .inr (.inl (fun _ => 0))))]) H := hP
  have hD : va_D A ([(v, .inr (2, [(.int 0), (.long 4611686018427387904), (.long (-4611686018427387904)), (.int 0), (.null), (.null)])), (q1, .inl (cJ, 5, .inr (.inl (fun _ => 0))))]) := hD
  refine zz_putFV (v := .ref q1) (ty := (.array .long)) hx hb hT hown hK hP hD hS 0 rfl 4 (by decide) tw_106 rfl hinit rfl (by decide +kernel) rfl rfl (Nat.le_of_ble_eq_true rfl) dV_init_32 (fun H locs hP hD hS => ?_)
  have hP : va_P (dC, dI) vcl ([(v, .inr (2, [(.int 0), (.long 4611686018427387904), (.long (-4611686018427387904)), (.int 0), (.ref q1), (.null)])), (q1, .inl (cJ, 5, .inr (.inl (fun _ => 0))))]) H := hP
  have hD : va_D A ([(v, .inr (2, [(.int 0), (.long 4611686018427387904), (.long (-4611686018427387904)), (.int 0), (.ref q1), (.null)])), (q1, .inl (cJ, 5, .inr (.inl (fun _ => 0))))]) := hD
  refine lv_aload_n hx hb dV_init_35 rfl (lv_at hl 0 rfl) ?_
  refine lv_iconst (v := 5) hx hb dV_init_36 (by decide) ?_
  refine zn_newJ (N' := 5) hx hb hT hK hP hD hS hA (by decide) (by decide) (by decide) (Nat.le_of_ble_eq_true rfl) (Nat.le_of_ble_eq_true rfl) dV_init_37 (fun q2 H hP hD hS => ?_)
  have hP : va_P (dC, dI) vcl ([(v, .inr (2, [(.int 0), (.long 4611686018427387904), (.long (-4611686018427387904)), (.int 0), (.ref q1), (.null)])), (q1, .inl (cJ, 5, .inr (.inl (fun _ => 0)))), (q2, .inl (cJ, 5, .inr (.inl (fun _ => 0))))]) H := hP
  have hD : va_D A ([(v, .inr (2, [(.int 0), (.long 4611686018427387904), (.long (-4611686018427387904)), (.int 0), (.ref q1), (.null)])), (q1, .inl (cJ, 5, .inr (.inl (fun _ => 0)))), (q2, .inl (cJ, 5, .inr (.inl (fun _ => 0))))]) := hD
  refine zz_putFV (v := .ref q2) (ty := (.array .long)) hx hb hT hown hK hP hD hS 0 rfl 5 (by decide) tw_107 rfl hinit rfl (by decide +kernel) rfl rfl (Nat.le_of_ble_eq_true rfl) dV_init_39 (fun H locs hP hD hS => ?_)
  have hP : va_P (dC, dI) vcl ([(v, .inr (2, [(.int 0), (.long 4611686018427387904), (.long (-4611686018427387904)), (.int 0), (.ref q1), (.ref q2)])), (q1, .inl (cJ, 5, .inr (.inl (fun _ => 0)))), (q2, .inl (cJ, 5, .inr (.inl (fun _ => 0))))]) H := hP
  have hD : va_D A ([(v, .inr (2, [(.int 0), (.long 4611686018427387904), (.long (-4611686018427387904)), (.int 0), (.ref q1), (.ref q2)])), (q1, .inl (cJ, 5, .inr (.inl (fun _ => 0)))), (q2, .inl (cJ, 5, .inr (.inl (fun _ => 0))))]) := hD
  exact zn_vret ((q1, q2)) hx hb hr hlocks dV_init_42 (Nat.le_of_ble_eq_true rfl) (Nat.le_of_ble_eq_true rfl) hAe hP hD hS
