/-! Writing methods of a server -/
set_option maxHeartbeats 4000000 in
set_option maxRecDepth 100000 in
theorem ct_S_expect (l : Launch) {dC : Nat → ClassId} {dI : Nat → Nat → Nat} {cJ cI cB cZ cS : ClassId} {sz : Nat} {o a b d : Nat} {den rch pol exg str : Int32} {xp rdl rds : Int64} {off del arr : Nat → Int64} {n : Nat} {tm : Int64} : Met l yS_expect [Cond.code yS_expect cS_expect 3 none] { frames := 0, cells := 0, slots := 0, locals := 0 } (va_Pc [.ref o, .long tm] (zq_B (dC, dI) vcl (zz_T cJ cI cB cZ cS) (zs_W o a b d cJ den rch pol exg xp (nI n) str rdl rds off del arr) sz)) (zq_Q (dC, dI) vcl none (zs_W o a b d cJ den rch pol exg xp (nI n) str rdl rds off del arr) (zs_W o a b d cJ den (zs_r2 rch) pol 1 tm (nI n) str rdl rds off del arr) sz) 0 0 (va_A (zs_W o a b d cJ den rch pol exg xp (nI n) str rdl rds off del arr) sz) := by
  refine Met.ofW (cc := cS_expect) (maxL := 3) (ret := none) (by decide) rfl ?_
  intro p e s m args below meth c s₁ B hml hv
  obtain ⟨rfl, hsz, hT, hP, hK, hD0⟩ := hv
  subst hsz
  have hx := B.exec
  have hb := B.bytes
  have hr := B.returns
  have hlocks := B.notSynchronized
  have hown : s.vm.findClass RS = some m.cls := findClass_of_methodNamed B.named
  have hD := hD0.self (sz := s.heap.size)
  generalize hAe : va_A (zs_W o a b d cJ den rch pol exg xp (nI n) str rdl rds off del arr) s.heap.size = A at hD ⊢
  have hA : ∀ q : Nat, s.heap.size ≤ q → A q := fun q h => by rw [← hAe]; exact Or.inr h
  have hS : va_S A s.heap s.heap [] := va_S.rf
  have hl := lv_entry ([.ref o, .long tm]) (n := 3) (Nat.le_of_ble_eq_true rfl)
  rw [lg_entry_eq]
  generalize (lg_sl ([.ref o, .long tm]) ++ List.replicate (3 - (lg_sl ([.ref o, .long tm])).length) Slot.unset).toArray = ls at hl ⊢
  have hl : lv_has ls 3 [(0, .ref o), (1, .long tm)] := hl
  refine lv_aload_n hx hb dS_expect_0 rfl (lv_at hl 0 rfl) ?_
  refine lv_aload_n hx hb dS_expect_1 rfl (lv_at hl 0 rfl) ?_
  refine zz_getS hx hb hT hown hK hP 0 rfl 1 (by decide) tw_45 rfl dS_expect_2 ?_
  refine lv_iconst (v := 2) hx hb dS_expect_5 (by decide) ?_
  refine lv_imul hx hb dS_expect_6 ?_
  refine lv_sipush (v := 256) hx hb dS_expect_7 (by decide) ?_
  refine lv_irem hx hb dS_expect_10 (by decide) ?_
  refine zz_putS (ty := .int) hx hb hT hown hK hP hD hS 0 rfl 1 (by decide) tw_45 rfl (by decide +kernel) rfl rfl (Nat.le_of_ble_eq_true rfl) dS_expect_11 (fun H locs hP hD hS => ?_)
  have hP : va_P (dC, dI) vcl (zs_W o a b d cJ den ((rch * 2) - (rch * 2) / 256 * 256) pol exg xp (nI n) str rdl rds off del arr) H := hP
  have hD : va_D A (zs_W o a b d cJ den ((rch * 2) - (rch * 2) / 256 * 256) pol exg xp (nI n) str rdl rds off del arr) := hD
  refine lv_aload_n hx hb dS_expect_14 rfl (lv_at hl 0 rfl) ?_
  refine lv_iconst (v := 1) hx hb dS_expect_15 (by decide) ?_
  refine zz_putS (ty := .boolean) hx hb hT hown hK hP hD hS 0 rfl 3 (by decide) tw_50 rfl (by decide +kernel) rfl rfl (Nat.le_of_ble_eq_true rfl) dS_expect_16 (fun H locs hP hD hS => ?_)
  have hP : va_P (dC, dI) vcl (zs_W o a b d cJ den ((rch * 2) - (rch * 2) / 256 * 256) pol 1 xp (nI n) str rdl rds off del arr) H := hP
  have hD : va_D A (zs_W o a b d cJ den ((rch * 2) - (rch * 2) / 256 * 256) pol 1 xp (nI n) str rdl rds off del arr) := hD
  refine lv_aload_n hx hb dS_expect_19 rfl (lv_at hl 0 rfl) ?_
  refine lv_lload_n hx hb dS_expect_20 rfl (lv_at hl 1 rfl) ?_
  refine zz_putS (ty := .long) hx hb hT hown hK hP hD hS 0 rfl 4 (by decide) tw_52 rfl (by decide +kernel) rfl rfl (Nat.le_of_ble_eq_true rfl) dS_expect_21 (fun H locs hP hD hS => ?_)
  have hP : va_P (dC, dI) vcl (zs_W o a b d cJ den ((rch * 2) - (rch * 2) / 256 * 256) pol 1 tm (nI n) str rdl rds off del arr) H := hP
  have hD : va_D A (zs_W o a b d cJ den ((rch * 2) - (rch * 2) / 256 * 256) pol 1 tm (nI n) str rdl rds off del arr) := hD
  exact zq_vret hx hb hr hlocks dS_expect_24 hAe (by rw [show zs_r2 rch = (rch * 2) - (rch * 2) / 256 * 256 from rfl]; exact hP) (by rw [show zs_r2 rch = (rch * 2) - (rch * 2) / 256 * 256 from rfl]; exact hD) hS
set_option maxHeartbeats 4000000 in
set_option maxRecDepth 100000 in
theorem ct_S_pollLater (l : Launch) {dC : Nat → ClassId} {dI : Nat → Nat → Nat} {cJ cI cB cZ cS : ClassId} {sz : Nat} {o a b d : Nat} {den rch pol exg str : Int32} {xp rdl rds : Int64} {off del arr : Nat → Int64} {n : Nat} : Met l yS_pollLater [Cond.code yS_pollLater cS_pollLater 1 none] { frames := 1, cells := 0, slots := 0, locals := 21 } (va_Pc [.ref o] (zq_B (dC, dI) vcl (zz_T cJ cI cB cZ cS) (zs_W o a b d cJ den rch pol exg xp (nI n) str rdl rds off del arr) sz)) (zq_Q (dC, dI) vcl none (zs_W o a b d cJ den rch pol exg xp (nI n) str rdl rds off del arr) (zs_W o a b d cJ den rch (zn_mini 10 (pol + 1)) exg xp (nI n) str rdl rds off del arr) sz) 0 0 (va_A (zs_W o a b d cJ den rch pol exg xp (nI n) str rdl rds off del arr) sz) := by
  refine Met.ofW (cc := cS_pollLater) (maxL := 1) (ret := none) (by decide) rfl ?_
  intro p e s m args below meth c s₁ B hml hv
  obtain ⟨rfl, hsz, hT, hP, hK, hD0⟩ := hv
  subst hsz
  have hx := B.exec
  have hb := B.bytes
  have hr := B.returns
  have hlocks := B.notSynchronized
  have hown : s.vm.findClass RS = some m.cls := findClass_of_methodNamed B.named
  have hD := hD0.self (sz := s.heap.size)
  generalize hAe : va_A (zs_W o a b d cJ den rch pol exg xp (nI n) str rdl rds off del arr) s.heap.size = A at hD ⊢
  have hA : ∀ q : Nat, s.heap.size ≤ q → A q := fun q h => by rw [← hAe]; exact Or.inr h
  have hS : va_S A s.heap s.heap [] := va_S.rf
  have hl := lv_entry ([.ref o]) (n := 1) (Nat.le_of_ble_eq_true rfl)
  rw [lg_entry_eq]
  generalize (lg_sl ([.ref o]) ++ List.replicate (1 - (lg_sl ([.ref o])).length) Slot.unset).toArray = ls at hl ⊢
  have hl : lv_has ls 1 [(0, .ref o)] := hl
  refine lv_aload_n hx hb dS_pollLater_0 rfl (lv_at hl 0 rfl) ?_
  refine lv_bipush (v := 10) hx hb dS_pollLater_1 (by decide) ?_
  refine lv_aload_n hx hb dS_pollLater_3 rfl (lv_at hl 0 rfl) ?_
  refine zz_getS hx hb hT hown hK hP 0 rfl 2 (by decide) tw_48 rfl dS_pollLater_4 ?_
  refine lv_iconst (v := 1) hx hb dS_pollLater_7 (by decide) ?_
  refine lv_iadd hx hb dS_pollLater_8 ?_
  refine zz_call (va_runS (Ts := []) (As := [.int 10, .int (pol + 1)]) (own := RS) ⟨hx, hb, hml, hown, fun _ h => nomatch h⟩ (ct_J_min_7cf5 l) (zt_cs hT tc_J_min_7cf5 ts_J_min_7cf5 tw_405 ⟨Nat.le_of_ble_eq_true rfl, Nat.le_of_ble_eq_true rfl⟩) (zz_pre0 hT) rfl rfl hl.1 rfl (lv_room (Nat.le_of_ble_eq_true rfl)) dS_pollLater_9 ⟨Nat.zero_le _, Nat.zero_le _⟩) ?_
  refine zz_putS (ty := .int) hx hb hT hown hK hP hD hS 0 rfl 2 (by decide) tw_48 rfl (by decide +kernel) rfl rfl (Nat.le_of_ble_eq_true rfl) dS_pollLater_12 (fun H locs hP hD hS => ?_)
  have hP : va_P (dC, dI) vcl (zs_W o a b d cJ den rch (zn_mini 10 (pol + 1)) exg xp (nI n) str rdl rds off del arr) H := hP
  have hD : va_D A (zs_W o a b d cJ den rch (zn_mini 10 (pol + 1)) exg xp (nI n) str rdl rds off del arr) := hD
  exact zq_vret hx hb hr hlocks dS_pollLater_15 hAe hP hD hS
set_option maxHeartbeats 4000000 in
set_option maxRecDepth 100000 in
theorem ct_S_pollSooner (l : Launch) {dC : Nat → ClassId} {dI : Nat → Nat → Nat} {cJ cI cB cZ cS : ClassId} {sz : Nat} {o a b d : Nat} {den rch pol exg str : Int32} {xp rdl rds : Int64} {off del arr : Nat → Int64} {n : Nat} : Met l yS_pollSooner [Cond.code yS_pollSooner cS_pollSooner 1 none] { frames := 1, cells := 0, slots := 0, locals := 21 } (va_Pc [.ref o] (zq_B (dC, dI) vcl (zz_T cJ cI cB cZ cS) (zs_W o a b d cJ den rch pol exg xp (nI n) str rdl rds off del arr) sz)) (zq_Q (dC, dI) vcl none (zs_W o a b d cJ den rch pol exg xp (nI n) str rdl rds off del arr) (zs_W o a b d cJ den rch (zn_maxi 4 (pol - 1)) exg xp (nI n) str rdl rds off del arr) sz) 0 0 (va_A (zs_W o a b d cJ den rch pol exg xp (nI n) str rdl rds off del arr) sz) := by
  refine Met.ofW (cc := cS_pollSooner) (maxL := 1) (ret := none) (by decide) rfl ?_
  intro p e s m args below meth c s₁ B hml hv
  obtain ⟨rfl, hsz, hT, hP, hK, hD0⟩ := hv
  subst hsz
  have hx := B.exec
  have hb := B.bytes
  have hr := B.returns
  have hlocks := B.notSynchronized
  have hown : s.vm.findClass RS = some m.cls := findClass_of_methodNamed B.named
  have hD := hD0.self (sz := s.heap.size)
  generalize hAe : va_A (zs_W o a b d cJ den rch pol exg xp (nI n) str rdl rds off del arr) s.heap.size = A at hD ⊢
  have hA : ∀ q : Nat, s.heap.size ≤ q → A q := fun q h => by rw [← hAe]; exact Or.inr h
  have hS : va_S A s.heap s.heap [] := va_S.rf
  have hl := lv_entry ([.ref o]) (n := 1) (Nat.le_of_ble_eq_true rfl)
  rw [lg_entry_eq]
  generalize (lg_sl ([.ref o]) ++ List.replicate (1 - (lg_sl ([.ref o])).length) Slot.unset).toArray = ls at hl ⊢
  have hl : lv_has ls 1 [(0, .ref o)] := hl
  refine lv_aload_n hx hb dS_pollSooner_0 rfl (lv_at hl 0 rfl) ?_
  refine lv_iconst (v := 4) hx hb dS_pollSooner_1 (by decide) ?_
  refine lv_aload_n hx hb dS_pollSooner_2 rfl (lv_at hl 0 rfl) ?_
  refine zz_getS hx hb hT hown hK hP 0 rfl 2 (by decide) tw_48 rfl dS_pollSooner_3 ?_
  refine lv_iconst (v := 1) hx hb dS_pollSooner_6 (by decide) ?_
  refine lv_isub hx hb dS_pollSooner_7 ?_
  refine zz_call (va_runS (Ts := []) (As := [.int 4, .int (pol - 1)]) (own := RS) ⟨hx, hb, hml, hown, fun _ h => nomatch h⟩ (ct_J_max_7cf5 l) (zt_cs hT tc_J_max_7cf5 ts_J_max_7cf5 tw_608 ⟨Nat.le_of_ble_eq_true rfl, Nat.le_of_ble_eq_true rfl⟩) (zz_pre0 hT) rfl rfl hl.1 rfl (lv_room (Nat.le_of_ble_eq_true rfl)) dS_pollSooner_8 ⟨Nat.zero_le _, Nat.zero_le _⟩) ?_
  refine zz_putS (ty := .int) hx hb hT hown hK hP hD hS 0 rfl 2 (by decide) tw_48 rfl (by decide +kernel) rfl rfl (Nat.le_of_ble_eq_true rfl) dS_pollSooner_11 (fun H locs hP hD hS => ?_)
  have hP : va_P (dC, dI) vcl (zs_W o a b d cJ den rch (zn_maxi 4 (pol - 1)) exg xp (nI n) str rdl rds off del arr) H := hP
  have hD : va_D A (zs_W o a b d cJ den rch (zn_maxi 4 (pol - 1)) exg xp (nI n) str rdl rds off del arr) := hD
  exact zq_vret hx hb hr hlocks dS_pollSooner_14 hAe hP hD hS
set_option maxHeartbeats 4000000 in
set_option maxRecDepth 100000 in
theorem ct_S_keepRoot (l : Launch) {dC : Nat → ClassId} {dI : Nat → Nat → Nat} {cJ cI cB cZ cS : ClassId} {sz : Nat} {o a b d : Nat} {den rch pol exg str : Int32} {xp rdl rds : Int64} {off del arr : Nat → Int64} {n : Nat} {x : Int32} {y z : Int64} : Met l yS_keepRoot [Cond.code yS_keepRoot cS_keepRoot 6 none] { frames := 0, cells := 0, slots := 0, locals := 0 } (va_Pc [.ref o, .int x, .long y, .long z] (zq_B (dC, dI) vcl (zz_T cJ cI cB cZ cS) (zs_W o a b d cJ den rch pol exg xp (nI n) str rdl rds off del arr) sz)) (zq_Q (dC, dI) vcl none (zs_W o a b d cJ den rch pol exg xp (nI n) str rdl rds off del arr) (zs_W o a b d cJ den rch pol exg xp (nI n) x y z off del arr) sz) 0 0 (va_A (zs_W o a b d cJ den rch pol exg xp (nI n) str rdl rds off del arr) sz) := by
  refine Met.ofW (cc := cS_keepRoot) (maxL := 6) (ret := none) (by decide) rfl ?_
  intro p e s m args below meth c s₁ B hml hv
  obtain ⟨rfl, hsz, hT, hP, hK, hD0⟩ := hv
  subst hsz
  have hx := B.exec
  have hb := B.bytes
  have hr := B.returns
  have hlocks := B.notSynchronized
  have hown : s.vm.findClass RS = some m.cls := findClass_of_methodNamed B.named
  have hD := hD0.self (sz := s.heap.size)
  generalize hAe : va_A (zs_W o a b d cJ den rch pol exg xp (nI n) str rdl rds off del arr) s.heap.size = A at hD ⊢
  have hA : ∀ q : Nat, s.heap.size ≤ q → A q := fun q h => by rw [← hAe]; exact Or.inr h
  have hS : va_S A s.heap s.heap [] := va_S.rf
  have hl := lv_entry ([.ref o, .int x, .long y, .long z]) (n := 6) (Nat.le_of_ble_eq_true rfl)
  rw [lg_entry_eq]
  generalize (lg_sl ([.ref o, .int x, .long y, .long z]) ++ List.replicate (6 - (lg_sl ([.ref o, .int x, .long y, .long z])).length) Slot.unset).toArray = ls at hl ⊢
  have hl : lv_has ls 6 [(0, .ref o), (1, .int x), (2, .long y), (4, .long z)] := hl
  refine lv_aload_n hx hb dS_keepRoot_0 rfl (lv_at hl 0 rfl) ?_
  refine lv_iload_n hx hb dS_keepRoot_1 rfl (lv_at hl 1 rfl) ?_
  refine zz_putS (ty := .int) hx hb hT hown hK hP hD hS 0 rfl 6 (by decide) tw_57 rfl (by decide +kernel) rfl rfl (Nat.le_of_ble_eq_true rfl) dS_keepRoot_2 (fun H locs hP hD hS => ?_)
  have hP : va_P (dC, dI) vcl (zs_W o a b d cJ den rch pol exg xp (nI n) x rdl rds off del arr) H := hP
  have hD : va_D A (zs_W o a b d cJ den rch pol exg xp (nI n) x rdl rds off del arr) := hD
  refine lv_aload_n hx hb dS_keepRoot_5 rfl (lv_at hl 0 rfl) ?_
  refine lv_lload_n hx hb dS_keepRoot_6 rfl (lv_at hl 2 rfl) ?_
  refine zz_putS (ty := .long) hx hb hT hown hK hP hD hS 0 rfl 7 (by decide) tw_59 rfl (by decide +kernel) rfl rfl (Nat.le_of_ble_eq_true rfl) dS_keepRoot_7 (fun H locs hP hD hS => ?_)
  have hP : va_P (dC, dI) vcl (zs_W o a b d cJ den rch pol exg xp (nI n) x y rds off del arr) H := hP
  have hD : va_D A (zs_W o a b d cJ den rch pol exg xp (nI n) x y rds off del arr) := hD
  refine lv_aload_n hx hb dS_keepRoot_10 rfl (lv_at hl 0 rfl) ?_
  refine lv_lload hx hb dS_keepRoot_11 (lv_at hl 3 rfl) ?_
  refine zz_putS (ty := .long) hx hb hT hown hK hP hD hS 0 rfl 8 (by decide) tw_60 rfl (by decide +kernel) rfl rfl (Nat.le_of_ble_eq_true rfl) dS_keepRoot_13 (fun H locs hP hD hS => ?_)
  have hP : va_P (dC, dI) vcl (zs_W o a b d cJ den rch pol exg xp (nI n) x y z off del arr) H := hP
  have hD : va_D A (zs_W o a b d cJ den rch pol exg xp (nI n) x y z off del arr) := hD
  exact zq_vret hx hb hr hlocks dS_keepRoot_16 hAe hP hD hS
set_option maxHeartbeats 4000000 in
set_option maxRecDepth 100000 in
theorem ct_S_forget (l : Launch) {dC : Nat → ClassId} {dI : Nat → Nat → Nat} {cJ cI cB cZ cS : ClassId} {sz : Nat} {o a b d : Nat} {den rch pol exg str : Int32} {xp rdl rds : Int64} {off del arr : Nat → Int64} {n : Nat} : Met l yS_forget [Cond.code yS_forget cS_forget 1 none] { frames := 0, cells := 0, slots := 0, locals := 0 } (va_Pc [.ref o] (zq_B (dC, dI) vcl (zz_T cJ cI cB cZ cS) (zs_W o a b d cJ den rch pol exg xp (nI n) str rdl rds off del arr) sz)) (zq_Q (dC, dI) vcl none (zs_W o a b d cJ den rch pol exg xp (nI n) str rdl rds off del arr) (zs_W o a b d cJ den 0 pol 0 xp (nI 0) str rdl rds off del arr) sz) 0 0 (va_A (zs_W o a b d cJ den rch pol exg xp (nI n) str rdl rds off del arr) sz) := by
  refine Met.ofW (cc := cS_forget) (maxL := 1) (ret := none) (by decide) rfl ?_
  intro p e s m args below meth c s₁ B hml hv
  obtain ⟨rfl, hsz, hT, hP, hK, hD0⟩ := hv
  subst hsz
  have hx := B.exec
  have hb := B.bytes
  have hr := B.returns
  have hlocks := B.notSynchronized
  have hown : s.vm.findClass RS = some m.cls := findClass_of_methodNamed B.named
  have hD := hD0.self (sz := s.heap.size)
  generalize hAe : va_A (zs_W o a b d cJ den rch pol exg xp (nI n) str rdl rds off del arr) s.heap.size = A at hD ⊢
  have hA : ∀ q : Nat, s.heap.size ≤ q → A q := fun q h => by rw [← hAe]; exact Or.inr h
  have hS : va_S A s.heap s.heap [] := va_S.rf
  have hl := lv_entry ([.ref o]) (n := 1) (Nat.le_of_ble_eq_true rfl)
  rw [lg_entry_eq]
  generalize (lg_sl ([.ref o]) ++ List.replicate (1 - (lg_sl ([.ref o])).length) Slot.unset).toArray = ls at hl ⊢
  have hl : lv_has ls 1 [(0, .ref o)] := hl
  refine lv_aload_n hx hb dS_forget_0 rfl (lv_at hl 0 rfl) ?_
  refine lv_iconst (v := 0) hx hb dS_forget_1 (by decide) ?_
  refine zz_putS (ty := .boolean) hx hb hT hown hK hP hD hS 0 rfl 3 (by decide) tw_50 rfl (by decide +kernel) rfl rfl (Nat.le_of_ble_eq_true rfl) dS_forget_2 (fun H locs hP hD hS => ?_)
  have hP : va_P (dC, dI) vcl (zs_W o a b d cJ den rch pol 0 xp (nI n) str rdl rds off del arr) H := hP
  have hD : va_D A (zs_W o a b d cJ den rch pol 0 xp (nI n) str rdl rds off del arr) := hD
  refine lv_aload_n hx hb dS_forget_5 rfl (lv_at hl 0 rfl) ?_
  refine lv_iconst (v := 0) hx hb dS_forget_6 (by decide) ?_
  refine zz_putS (ty := .int) hx hb hT hown hK hP hD hS 0 rfl 5 (by decide) tw_54 rfl (by decide +kernel) rfl rfl (Nat.le_of_ble_eq_true rfl) dS_forget_7 (fun H locs hP hD hS => ?_)
  have hP : va_P (dC, dI) vcl (zs_W o a b d cJ den rch pol 0 xp 0 str rdl rds off del arr) H := hP
  have hD : va_D A (zs_W o a b d cJ den rch pol 0 xp 0 str rdl rds off del arr) := hD
  refine lv_aload_n hx hb dS_forget_10 rfl (lv_at hl 0 rfl) ?_
  refine lv_iconst (v := 0) hx hb dS_forget_11 (by decide) ?_
  refine zz_putS (ty := .int) hx hb hT hown hK hP hD hS 0 rfl 1 (by decide) tw_45 rfl (by decide +kernel) rfl rfl (Nat.le_of_ble_eq_true rfl) dS_forget_12 (fun H locs hP hD hS => ?_)
  have hP : va_P (dC, dI) vcl (zs_W o a b d cJ den 0 pol 0 xp 0 str rdl rds off del arr) H := hP
  have hD : va_D A (zs_W o a b d cJ den 0 pol 0 xp 0 str rdl rds off del arr) := hD
  exact zq_vret hx hb hr hlocks dS_forget_15 hAe (by rw [show nI 0 = 0 from rfl]; exact hP) (by rw [show nI 0 = 0 from rfl]; exact hD) hS
set_option maxHeartbeats 4000000 in
set_option maxRecDepth 100000 in
theorem ct_S_obey (l : Launch) {dC : Nat → ClassId} {dI : Nat → Nat → Nat} {cJ cI cB cZ cS : ClassId} {sz : Nat} {o a b d : Nat} {den rch pol exg str : Int32} {xp rdl rds : Int64} {off del arr : Nat → Int64} {n : Nat} {cd : Int64} : Met l yS_obey [Cond.code yS_obey cS_obey 3 none] { frames := 2, cells := 0, slots := 0, locals := 41 } (va_Pc [.ref o, .long cd] (zq_B (dC, dI) vcl (zz_T cJ cI cB cZ cS) (zs_W o a b d cJ den rch pol exg xp (nI n) str rdl rds off del arr) sz)) (zq_Q (dC, dI) vcl none (zs_W o a b d cJ den rch pol exg xp (nI n) str rdl rds off del arr) (zs_W o a b d cJ (zs_od den cd) rch (zs_op pol cd) exg xp (nI n) str rdl rds off del arr) sz) 0 0 (va_A (zs_W o a b d cJ den rch pol exg xp (nI n) str rdl rds off del arr) sz) := by
  refine Met.ofW (cc := cS_obey) (maxL := 3) (ret := none) (by decide) rfl ?_
  intro p e s m args below meth c s₁ B hml hv
  obtain ⟨rfl, hsz, hT, hP, hK, hD0⟩ := hv
  subst hsz
  have hx := B.exec
  have hb := B.bytes
  have hr := B.returns
  have hlocks := B.notSynchronized
  have hown : s.vm.findClass RS = some m.cls := findClass_of_methodNamed B.named
  have hD := hD0.self (sz := s.heap.size)
  generalize hAe : va_A (zs_W o a b d cJ den rch pol exg xp (nI n) str rdl rds off del arr) s.heap.size = A at hD ⊢
  have hA : ∀ q : Nat, s.heap.size ≤ q → A q := fun q h => by rw [← hAe]; exact Or.inr h
  have hS : va_S A s.heap s.heap [] := va_S.rf
  have hl := lv_entry ([.ref o, .long cd]) (n := 3) (Nat.le_of_ble_eq_true rfl)
  rw [lg_entry_eq]
  generalize (lg_sl ([.ref o, .long cd]) ++ List.replicate (3 - (lg_sl ([.ref o, .long cd])).length) Slot.unset).toArray = ls at hl ⊢
  have hl : lv_has ls 3 [(0, .ref o), (1, .long cd)] := hl
  refine lv_lload_n hx hb dS_obey_0 rfl (lv_at hl 1 rfl) ?_
  refine lv_ldc2 (own := RS) (v := 1145392729) hx hb hown (hT.w tw_398) dS_obey_1 ?_
  refine zz_leq (tgt := 16) hx hb dS_obey_4 dS_obey_5 (by decide) (fun h1 => ?_) (fun h1 => ?_)
  · refine lv_aload_n hx hb dS_obey_16 rfl (lv_at hl 0 rfl) ?_
    refine lv_iconst (v := 1) hx hb dS_obey_17 (by decide) ?_
    refine zz_putS (ty := .boolean) hx hb hT hown hK hP hD hS 0 rfl 0 (by decide) tw_42 rfl (by decide +kernel) rfl rfl (Nat.le_of_ble_eq_true rfl) dS_obey_18 (fun H locs hP hD hS => ?_)
    have hP : va_P (dC, dI) vcl (zs_W o a b d cJ 1 rch pol exg xp (nI n) str rdl rds off del arr) H := hP
    have hD : va_D A (zs_W o a b d cJ 1 rch pol exg xp (nI n) str rdl rds off del arr) := hD
    refine lv_goto (tgt := 36) hx hb dS_obey_21 (by decide) ?_
    exact zq_vret hx hb hr hlocks dS_obey_36 hAe (by rw [show zs_od den cd = 1 from by unfold zs_od; first | (rw [if_pos (by grind)]; done) | (rw [if_neg (by grind)]; done)]; rw [show zs_op pol cd = pol from by unfold zs_op; first | (rw [if_pos (by grind)]; done) | (rw [if_neg (by grind)]; done)]; exact hP) (by rw [show zs_od den cd = 1 from by unfold zs_od; first | (rw [if_pos (by grind)]; done) | (rw [if_neg (by grind)]; done)]; rw [show zs_op pol cd = pol from by unfold zs_op; first | (rw [if_pos (by grind)]; done) | (rw [if_neg (by grind)]; done)]; exact hD) hS
  · refine lv_lload_n hx hb dS_obey_8 rfl (lv_at hl 1 rfl) ?_
    refine lv_ldc2 (own := RS) (v := 1381192786) hx hb hown (hT.w tw_399) dS_obey_9 ?_
    refine zz_lne (tgt := 24) hx hb dS_obey_12 dS_obey_13 (by decide) (fun h2 => ?_) (fun h2 => ?_)
    · refine lv_lload_n hx hb dS_obey_24 rfl (lv_at hl 1 rfl) ?_
      refine lv_ldc2 (own := RS) (v := 1380013125) hx hb hown (hT.w tw_400) dS_obey_25 ?_
      refine zz_lne (tgt := 36) hx hb dS_obey_28 dS_obey_29 (by decide) (fun h3 => ?_) (fun h3 => ?_)
      · exact zq_vret hx hb hr hlocks dS_obey_36 hAe (by rw [show zs_od den cd = den from by unfold zs_od; first | (rw [if_pos (by grind)]; done) | (rw [if_neg (by grind)]; done)]; rw [show zs_op pol cd = pol from by unfold zs_op; first | (rw [if_pos (by grind)]; done) | (rw [if_neg (by grind)]; done)]; exact hP) (by rw [show zs_od den cd = den from by unfold zs_od; first | (rw [if_pos (by grind)]; done) | (rw [if_neg (by grind)]; done)]; rw [show zs_op pol cd = pol from by unfold zs_op; first | (rw [if_pos (by grind)]; done) | (rw [if_neg (by grind)]; done)]; exact hD) hS
      · refine lv_aload_n hx hb dS_obey_32 rfl (lv_at hl 0 rfl) ?_
        refine zq_call0 (va_runV (Ts := []) (As := []) (own := RS) ⟨hx, hb, hml, hown, fun _ h => nomatch h⟩ (ct_S_pollLater l) (zt_cv hT tc_S_pollLater tv_S_pollLater tw_401 ⟨Nat.le_of_ble_eq_true rfl, Nat.le_of_ble_eq_true rfl⟩) (zq_preV (q0 := 0) hT hP hK hD rfl rfl) rfl rfl hl.1 rfl (lv_room (Nat.le_of_ble_eq_true rfl)) dS_obey_33 ⟨Nat.zero_le _, Nat.zero_le _⟩) hP hD hS hA (fun H locs hP hD hS => ?_)
        have hP : va_P (dC, dI) vcl (zs_W o a b d cJ den rch (zn_mini 10 (pol + 1)) exg xp (nI n) str rdl rds off del arr) H := hP
        have hD : va_D A (zs_W o a b d cJ den rch (zn_mini 10 (pol + 1)) exg xp (nI n) str rdl rds off del arr) := hD
        refine W.eq (g2 := F0 m 36 ls []) rfl ?_
        exact zq_vret hx hb hr hlocks dS_obey_36 hAe (by rw [show zs_od den cd = den from by unfold zs_od; first | (rw [if_pos (by grind)]; done) | (rw [if_neg (by grind)]; done)]; rw [show zs_op pol cd = zn_mini 10 (pol + 1) from by unfold zs_op; first | (rw [if_pos (by grind)]; done) | (rw [if_neg (by grind)]; done)]; exact hP) (by rw [show zs_od den cd = den from by unfold zs_od; first | (rw [if_pos (by grind)]; done) | (rw [if_neg (by grind)]; done)]; rw [show zs_op pol cd = zn_mini 10 (pol + 1) from by unfold zs_op; first | (rw [if_pos (by grind)]; done) | (rw [if_neg (by grind)]; done)]; exact hD) hS
    · refine lv_aload_n hx hb dS_obey_16 rfl (lv_at hl 0 rfl) ?_
      refine lv_iconst (v := 1) hx hb dS_obey_17 (by decide) ?_
      refine zz_putS (ty := .boolean) hx hb hT hown hK hP hD hS 0 rfl 0 (by decide) tw_42 rfl (by decide +kernel) rfl rfl (Nat.le_of_ble_eq_true rfl) dS_obey_18 (fun H locs hP hD hS => ?_)
      have hP : va_P (dC, dI) vcl (zs_W o a b d cJ 1 rch pol exg xp (nI n) str rdl rds off del arr) H := hP
      have hD : va_D A (zs_W o a b d cJ 1 rch pol exg xp (nI n) str rdl rds off del arr) := hD
      refine lv_goto (tgt := 36) hx hb dS_obey_21 (by decide) ?_
      exact zq_vret hx hb hr hlocks dS_obey_36 hAe (by rw [show zs_od den cd = 1 from by unfold zs_od; first | (rw [if_pos (by grind)]; done) | (rw [if_neg (by grind)]; done)]; rw [show zs_op pol cd = pol from by unfold zs_op; first | (rw [if_pos (by grind)]; done) | (rw [if_neg (by grind)]; done)]; exact hP) (by rw [show zs_od den cd = 1 from by unfold zs_od; first | (rw [if_pos (by grind)]; done) | (rw [if_neg (by grind)]; done)]; rw [show zs_op pol cd = pol from by unfold zs_op; first | (rw [if_pos (by grind)]; done) | (rw [if_neg (by grind)]; done)]; exact hD) hS
set_option maxHeartbeats 4000000 in
set_option maxRecDepth 100000 in
theorem ct_S_keepSample (l : Launch) {dC : Nat → ClassId} {dI : Nat → Nat → Nat} {cJ cI cB cZ cS : ClassId} {sz : Nat} {o a b d : Nat} {den rch pol exg str : Int32} {xp rdl rds : Int64} {off del arr : Nat → Int64} {n : Nat} {x y z : Int64} (hn : n ≤ 8) : Met l yS_keepSample [Cond.code yS_keepSample cS_keepSample 8 none] { frames := 1, cells := 0, slots := 0, locals := 21 } (va_Pc [.ref o, .long x, .long y, .long z] (zq_B (dC, dI) vcl (zz_T cJ cI cB cZ cS) (zs_W o a b d cJ den rch pol exg xp (nI n) str rdl rds off del arr) sz)) (zq_Q (dC, dI) vcl none (zs_W o a b d cJ den rch pol exg xp (nI n) str rdl rds off del arr) (zs_W o a b d cJ den (rch ||| 1) pol exg xp (nI (zs_c8 n)) str rdl rds (zs_push off n x) (zs_push del n y) (zs_push arr n z)) sz) 0 0 (va_A (zs_W o a b d cJ den rch pol exg xp (nI n) str rdl rds off del arr) sz) := by
  refine Met.ofW (cc := cS_keepSample) (maxL := 8) (ret := none) (by decide) rfl ?_
  intro p e s m args below meth c s₁ B hml hv
  obtain ⟨rfl, hsz, hT, hP, hK, hD0⟩ := hv
  subst hsz
  have hx := B.exec
  have hb := B.bytes
  have hr := B.returns
  have hlocks := B.notSynchronized
  have hown : s.vm.findClass RS = some m.cls := findClass_of_methodNamed B.named
  have hD := hD0.self (sz := s.heap.size)
  generalize hAe : va_A (zs_W o a b d cJ den rch pol exg xp (nI n) str rdl rds off del arr) s.heap.size = A at hD ⊢
  have hA : ∀ q : Nat, s.heap.size ≤ q → A q := fun q h => by rw [← hAe]; exact Or.inr h
  have hS : va_S A s.heap s.heap [] := va_S.rf
  have hl := lv_entry ([.ref o, .long x, .long y, .long z]) (n := 8) (Nat.le_of_ble_eq_true rfl)
  rw [lg_entry_eq]
  generalize (lg_sl ([.ref o, .long x, .long y, .long z]) ++ List.replicate (8 - (lg_sl ([.ref o, .long x, .long y, .long z])).length) Slot.unset).toArray = ls at hl ⊢
  have hl : lv_has ls 8 [(0, .ref o), (1, .long x), (3, .long y), (5, .long z)] := hl
  have hc8 := zs_c8_le n
  refine lv_aload_n hx hb dS_keepSample_0 rfl (lv_at hl 0 rfl) ?_
  refine lv_aload_n hx hb dS_keepSample_1 rfl (lv_at hl 0 rfl) ?_
  refine zz_getS hx hb hT hown hK hP 0 rfl 1 (by decide) tw_45 rfl dS_keepSample_2 ?_
  refine lv_iconst (v := 1) hx hb dS_keepSample_5 (by decide) ?_
  refine lv_ior hx hb dS_keepSample_6 ?_
  refine zz_putS (ty := .int) hx hb hT hown hK hP hD hS 0 rfl 1 (by decide) tw_45 rfl (by decide +kernel) rfl rfl (Nat.le_of_ble_eq_true rfl) dS_keepSample_7 (fun H locs hP hD hS => ?_)
  have hP : va_P (dC, dI) vcl (zs_W o a b d cJ den (rch ||| 1) pol exg xp (nI n) str rdl rds off del arr) H := hP
  have hD : va_D A (zs_W o a b d cJ den (rch ||| 1) pol exg xp (nI n) str rdl rds off del arr) := hD
  refine lv_aload_n hx hb dS_keepSample_10 rfl (lv_at hl 0 rfl) ?_
  refine lv_bipush (v := 8) hx hb dS_keepSample_11 (by decide) ?_
  refine lv_aload_n hx hb dS_keepSample_13 rfl (lv_at hl 0 rfl) ?_
  refine zz_getS hx hb hT hown hK hP 0 rfl 5 (by decide) tw_54 rfl dS_keepSample_14 ?_
  refine lv_iconst (v := 1) hx hb dS_keepSample_17 (by decide) ?_
  refine lv_iadd hx hb dS_keepSample_18 ?_
  refine zz_call (va_runS (Ts := []) (As := [.int 8, .int ((nI n) + 1)]) (own := RS) ⟨hx, hb, hml, hown, fun _ h => nomatch h⟩ (ct_J_min_7cf5 l) (zt_cs hT tc_J_min_7cf5 ts_J_min_7cf5 tw_405 ⟨Nat.le_of_ble_eq_true rfl, Nat.le_of_ble_eq_true rfl⟩) (zz_pre0 hT) rfl rfl hl.1 rfl (lv_room (Nat.le_of_ble_eq_true rfl)) dS_keepSample_19 ⟨Nat.zero_le _, Nat.zero_le _⟩) ?_
  refine zz_ti (y := nI (zs_c8 n)) (zs_c8_eq hn) ?_
  refine zz_putS (ty := .int) hx hb hT hown hK hP hD hS 0 rfl 5 (by decide) tw_54 rfl (by decide +kernel) rfl rfl (Nat.le_of_ble_eq_true rfl) dS_keepSample_22 (fun H locs hP hD hS => ?_)
  have hP : va_P (dC, dI) vcl (zs_W o a b d cJ den (rch ||| 1) pol exg xp (nI (zs_c8 n)) str rdl rds off del arr) H := hP
  have hD : va_D A (zs_W o a b d cJ den (rch ||| 1) pol exg xp (nI (zs_c8 n)) str rdl rds off del arr) := hD
  refine lv_aload_n hx hb dS_keepSample_25 rfl (lv_at hl 0 rfl) ?_
  refine zz_getS hx hb hT hown hK hP 0 rfl 5 (by decide) tw_54 rfl dS_keepSample_26 ?_
  refine lv_iconst (v := 1) hx hb dS_keepSample_29 (by decide) ?_
  refine lv_isub hx hb dS_keepSample_30 ?_
  refine zz_ti (y := nI (zs_c8 n - 1)) (pk_sub (b := 1) (zs_c8_le n).1) ?_
  refine lv_istore (lv' := [(7, .int (nI (zs_c8 n - 1))), (0, .ref o), (1, .long x), (3, .long y), (5, .long z)]) hx hb dS_keepSample_31 hl (by decide) rfl (fun ls hl => ?_)
  have lp : ∀ (k9 : Nat) (i : Nat) (H : Heap) (locs : List Loc), i < k9 → (i ≤ (zs_c8 n - 1)) → va_P (dC, dI) vcl (zs_W o a b d cJ den (rch ||| 1) pol exg xp (nI (zs_c8 n)) str rdl rds (zs_sft off (zs_c8 n - 1) i) (zs_sft del (zs_c8 n - 1) i) (zs_sft arr (zs_c8 n - 1) i)) H → va_D A (zs_W o a b d cJ den (rch ||| 1) pol exg xp (nI (zs_c8 n)) str rdl rds (zs_sft off (zs_c8 n - 1) i) (zs_sft del (zs_c8 n - 1) i) (zs_sft arr (zs_c8 n - 1) i)) → va_S A s.heap H locs → ∀ ls : Array Slot, lv_has ls 8 [(0, .ref o), (1, .long x), (3, .long y), (5, .long z), (7, .int (nI i))] → W p l e ({ frames := 1, cells := 0, slots := 0, locals := 21 } : Room) s m ([.ref o, .long x, .long y, .long z] : List Value).toArray below meth c H locs 0 0 (MQ below (zq_Q (dC, dI) vcl none (zs_W o a b d cJ den rch pol exg xp (nI n) str rdl rds off del arr) (zs_W o a b d cJ den (rch ||| 1) pol exg xp (nI (zs_c8 n)) str rdl rds (zs_push off n x) (zs_push del n y) (zs_push arr n z)) s.heap.size) ([.ref o, .long x, .long y, .long z] : List Value).toArray s 0 0 A) (F0 m 33 ls []) := by
    intro k9
    induction k9 with
    | zero => intro i H locs hk9; exact absurd hk9 (Nat.not_lt_zero _)
    | succ k9 ih_lp =>
      intro i H locs hk9 hi hP hD hS ls hl
      rcases i with _ | i
      · have hl : lv_has ls 8 [(0, .ref o), (1, .long x), (3, .long y), (5, .long z), (7, .int 0)] := hl
        refine lv_iload hx hb dS_keepSample_33 (lv_at hl 4 rfl) ?_
        refine zz_zle (tgt := 92) hx hb dS_keepSample_35 (by decide) (fun _ => ?_) (fun h => absurd h (by decide))
        refine lv_aload_n hx hb dS_keepSample_92 rfl (lv_at hl 0 rfl) ?_
        refine zz_getS hx hb hT hown hK hP 0 rfl 9 (by decide) tw_61 rfl dS_keepSample_93 ?_
        refine lv_iconst (v := 0) hx hb dS_keepSample_96 (by decide) ?_
        refine lv_lload_n hx hb dS_keepSample_97 rfl (lv_at hl 1 rfl) ?_
        refine zq_last hx hb hK hP hD hS 1 0 rfl rfl 0 rfl (by first | omega | decide | assumption) (by decide) dS_keepSample_98 (fun H locs hP hD hS => ?_)
        have hP : va_P (dC, dI) vcl (zs_W o a b d cJ den (rch ||| 1) pol exg xp (nI (zs_c8 n)) str rdl rds (vp_updL (zs_sft off (zs_c8 n - 1) 0) 0 x) (zs_sft del (zs_c8 n - 1) 0) (zs_sft arr (zs_c8 n - 1) 0)) H := hP
        have hD : va_D A (zs_W o a b d cJ den (rch ||| 1) pol exg xp (nI (zs_c8 n)) str rdl rds (vp_updL (zs_sft off (zs_c8 n - 1) 0) 0 x) (zs_sft del (zs_c8 n - 1) 0) (zs_sft arr (zs_c8 n - 1) 0)) := hD
        refine lv_aload_n hx hb dS_keepSample_99 rfl (lv_at hl 0 rfl) ?_
        refine zz_getS hx hb hT hown hK hP 0 rfl 10 (by decide) tw_62 rfl dS_keepSample_100 ?_
        refine lv_iconst (v := 0) hx hb dS_keepSample_103 (by decide) ?_
        refine lv_lload_n hx hb dS_keepSample_104 rfl (lv_at hl 2 rfl) ?_
        refine zq_last hx hb hK hP hD hS 2 0 rfl rfl 0 rfl (by first | omega | decide | assumption) (by decide) dS_keepSample_105 (fun H locs hP hD hS => ?_)
        have hP : va_P (dC, dI) vcl (zs_W o a b d cJ den (rch ||| 1) pol exg xp (nI (zs_c8 n)) str rdl rds (vp_updL (zs_sft off (zs_c8 n - 1) 0) 0 x) (vp_updL (zs_sft del (zs_c8 n - 1) 0) 0 y) (zs_sft arr (zs_c8 n - 1) 0)) H := hP
        have hD : va_D A (zs_W o a b d cJ den (rch ||| 1) pol exg xp (nI (zs_c8 n)) str rdl rds (vp_updL (zs_sft off (zs_c8 n - 1) 0) 0 x) (vp_updL (zs_sft del (zs_c8 n - 1) 0) 0 y) (zs_sft arr (zs_c8 n - 1) 0)) := hD
        refine lv_aload_n hx hb dS_keepSample_106 rfl (lv_at hl 0 rfl) ?_
        refine zz_getS hx hb hT hown hK hP 0 rfl 11 (by decide) tw_63 rfl dS_keepSample_107 ?_
        refine lv_iconst (v := 0) hx hb dS_keepSample_110 (by decide) ?_
        refine lv_lload hx hb dS_keepSample_111 (lv_at hl 3 rfl) ?_
        refine zq_last hx hb hK hP hD hS 3 0 rfl rfl 0 rfl (by first | omega | decide | assumption) (by decide) dS_keepSample_113 (fun H locs hP hD hS => ?_)
        have hP : va_P (dC, dI) vcl (zs_W o a b d cJ den (rch ||| 1) pol exg xp (nI (zs_c8 n)) str rdl rds (vp_updL (zs_sft off (zs_c8 n - 1) 0) 0 x) (vp_updL (zs_sft del (zs_c8 n - 1) 0) 0 y) (vp_updL (zs_sft arr (zs_c8 n - 1) 0) 0 z)) H := hP
        have hD : va_D A (zs_W o a b d cJ den (rch ||| 1) pol exg xp (nI (zs_c8 n)) str rdl rds (vp_updL (zs_sft off (zs_c8 n - 1) 0) 0 x) (vp_updL (zs_sft del (zs_c8 n - 1) 0) 0 y) (vp_updL (zs_sft arr (zs_c8 n - 1) 0) 0 z)) := hD
        exact zq_vret hx hb hr hlocks dS_keepSample_114 hAe (by rw [show zs_push off n x = vp_updL (zs_sft off (zs_c8 n - 1) 0) 0 x from rfl]; rw [show zs_push del n y = vp_updL (zs_sft del (zs_c8 n - 1) 0) 0 y from rfl]; rw [show zs_push arr n z = vp_updL (zs_sft arr (zs_c8 n - 1) 0) 0 z from rfl]; exact hP) (by rw [show zs_push off n x = vp_updL (zs_sft off (zs_c8 n - 1) 0) 0 x from rfl]; rw [show zs_push del n y = vp_updL (zs_sft del (zs_c8 n - 1) 0) 0 y from rfl]; rw [show zs_push arr n z = vp_updL (zs_sft arr (zs_c8 n - 1) 0) 0 z from rfl]; exact hD) hS
      · have hl : lv_has ls 8 [(0, .ref o), (1, .long x), (3, .long y), (5, .long z), (7, .int (nI (i + 1)))] := hl
        refine lv_iload hx hb dS_keepSample_33 (lv_at hl 4 rfl) ?_
        refine zz_zle (tgt := 92) hx hb dS_keepSample_35 (by decide) (fun h => absurd ((zz_ltN (a := 0) (b := (i + 1)) rfl rfl (by omega) (by omega)).mpr (by omega)) h) (fun _ => ?_)
        refine lv_aload_n hx hb dS_keepSample_38 rfl (lv_at hl 0 rfl) ?_
        refine zz_getS hx hb hT hown hK hP 0 rfl 9 (by decide) tw_61 rfl dS_keepSample_39 ?_
        refine lv_iload hx hb dS_keepSample_42 (lv_at hl 4 rfl) ?_
        refine lv_aload_n hx hb dS_keepSample_44 rfl (lv_at hl 0 rfl) ?_
        refine zz_getS hx hb hT hown hK hP 0 rfl 9 (by decide) tw_61 rfl dS_keepSample_45 ?_
        refine lv_iload hx hb dS_keepSample_48 (lv_at hl 4 rfl) ?_
        refine lv_iconst (v := 1) hx hb dS_keepSample_50 (by decide) ?_
        refine lv_isub hx hb dS_keepSample_51 ?_
        refine zz_ti (y := nI i) (nI_pred _) ?_
        refine zz_lald hx hb hK hP 1 0 rfl rfl i rfl (by first | omega | decide | assumption) (by decide) dS_keepSample_52 ?_
        refine zq_last hx hb hK hP hD hS 1 0 rfl rfl (i + 1) rfl (by first | omega | decide | assumption) (by decide) dS_keepSample_53 (fun H locs hP hD hS => ?_)
        have hP : va_P (dC, dI) vcl (zs_W o a b d cJ den (rch ||| 1) pol exg xp (nI (zs_c8 n)) str rdl rds (vp_updL (zs_sft off (zs_c8 n - 1) (i + 1)) (i + 1) ((zs_sft off (zs_c8 n - 1) (i + 1)) i)) (zs_sft del (zs_c8 n - 1) (i + 1)) (zs_sft arr (zs_c8 n - 1) (i + 1))) H := hP
        have hD : va_D A (zs_W o a b d cJ den (rch ||| 1) pol exg xp (nI (zs_c8 n)) str rdl rds (vp_updL (zs_sft off (zs_c8 n - 1) (i + 1)) (i + 1) ((zs_sft off (zs_c8 n - 1) (i + 1)) i)) (zs_sft del (zs_c8 n - 1) (i + 1)) (zs_sft arr (zs_c8 n - 1) (i + 1))) := hD
        refine lv_aload_n hx hb dS_keepSample_54 rfl (lv_at hl 0 rfl) ?_
        refine zz_getS hx hb hT hown hK hP 0 rfl 10 (by decide) tw_62 rfl dS_keepSample_55 ?_
        refine lv_iload hx hb dS_keepSample_58 (lv_at hl 4 rfl) ?_
        refine lv_aload_n hx hb dS_keepSample_60 rfl (lv_at hl 0 rfl) ?_
        refine zz_getS hx hb hT hown hK hP 0 rfl 10 (by decide) tw_62 rfl dS_keepSample_61 ?_
        refine lv_iload hx hb dS_keepSample_64 (lv_at hl 4 rfl) ?_
        refine lv_iconst (v := 1) hx hb dS_keepSample_66 (by decide) ?_
        refine lv_isub hx hb dS_keepSample_67 ?_
        refine zz_ti (y := nI i) (nI_pred _) ?_
        refine zz_lald hx hb hK hP 2 0 rfl rfl i rfl (by first | omega | decide | assumption) (by decide) dS_keepSample_68 ?_
        refine zq_last hx hb hK hP hD hS 2 0 rfl rfl (i + 1) rfl (by first | omega | decide | assumption) (by decide) dS_keepSample_69 (fun H locs hP hD hS => ?_)
        have hP : va_P (dC, dI) vcl (zs_W o a b d cJ den (rch ||| 1) pol exg xp (nI (zs_c8 n)) str rdl rds (vp_updL (zs_sft off (zs_c8 n - 1) (i + 1)) (i + 1) ((zs_sft off (zs_c8 n - 1) (i + 1)) i)) (vp_updL (zs_sft del (zs_c8 n - 1) (i + 1)) (i + 1) ((zs_sft del (zs_c8 n - 1) (i + 1)) i)) (zs_sft arr (zs_c8 n - 1) (i + 1))) H := hP
        have hD : va_D A (zs_W o a b d cJ den (rch ||| 1) pol exg xp (nI (zs_c8 n)) str rdl rds (vp_updL (zs_sft off (zs_c8 n - 1) (i + 1)) (i + 1) ((zs_sft off (zs_c8 n - 1) (i + 1)) i)) (vp_updL (zs_sft del (zs_c8 n - 1) (i + 1)) (i + 1) ((zs_sft del (zs_c8 n - 1) (i + 1)) i)) (zs_sft arr (zs_c8 n - 1) (i + 1))) := hD
        refine lv_aload_n hx hb dS_keepSample_70 rfl (lv_at hl 0 rfl) ?_
        refine zz_getS hx hb hT hown hK hP 0 rfl 11 (by decide) tw_63 rfl dS_keepSample_71 ?_
        refine lv_iload hx hb dS_keepSample_74 (lv_at hl 4 rfl) ?_
        refine lv_aload_n hx hb dS_keepSample_76 rfl (lv_at hl 0 rfl) ?_
        refine zz_getS hx hb hT hown hK hP 0 rfl 11 (by decide) tw_63 rfl dS_keepSample_77 ?_
        refine lv_iload hx hb dS_keepSample_80 (lv_at hl 4 rfl) ?_
        refine lv_iconst (v := 1) hx hb dS_keepSample_82 (by decide) ?_
        refine lv_isub hx hb dS_keepSample_83 ?_
        refine zz_ti (y := nI i) (nI_pred _) ?_
        refine zz_lald hx hb hK hP 3 0 rfl rfl i rfl (by first | omega | decide | assumption) (by decide) dS_keepSample_84 ?_
        refine zq_last hx hb hK hP hD hS 3 0 rfl rfl (i + 1) rfl (by first | omega | decide | assumption) (by decide) dS_keepSample_85 (fun H locs hP hD hS => ?_)
        have hP : va_P (dC, dI) vcl (zs_W o a b d cJ den (rch ||| 1) pol exg xp (nI (zs_c8 n)) str rdl rds (vp_updL (zs_sft off (zs_c8 n - 1) (i + 1)) (i + 1) ((zs_sft off (zs_c8 n - 1) (i + 1)) i)) (vp_updL (zs_sft del (zs_c8 n - 1) (i + 1)) (i + 1) ((zs_sft del (zs_c8 n - 1) (i + 1)) i)) (vp_updL (zs_sft arr (zs_c8 n - 1) (i + 1)) (i + 1) ((zs_sft arr (zs_c8 n - 1) (i + 1)) i))) H := hP
        have hD : va_D A (zs_W o a b d cJ den (rch ||| 1) pol exg xp (nI (zs_c8 n)) str rdl rds (vp_updL (zs_sft off (zs_c8 n - 1) (i + 1)) (i + 1) ((zs_sft off (zs_c8 n - 1) (i + 1)) i)) (vp_updL (zs_sft del (zs_c8 n - 1) (i + 1)) (i + 1) ((zs_sft del (zs_c8 n - 1) (i + 1)) i)) (vp_updL (zs_sft arr (zs_c8 n - 1) (i + 1)) (i + 1) ((zs_sft arr (zs_c8 n - 1) (i + 1)) i))) := hD
        refine lv_iinc (k := 4) (v := nI i) (lv' := [(7, .int (nI i)), (0, .ref o), (1, .long x), (3, .long y), (5, .long z)]) hx hb dS_keepSample_86 hl rfl (pk_m1 _) (by decide) rfl (fun ls hl => ?_)
        refine lv_goto (tgt := 33) hx hb dS_keepSample_89 (by decide) ?_
        exact ih_lp i _ _ (by omega) (by omega) (by rw [show zs_sft off (zs_c8 n - 1) i = vp_updL (zs_sft off (zs_c8 n - 1) (i + 1)) (i + 1) ((zs_sft off (zs_c8 n - 1) (i + 1)) i) from zs_sft_s _ (by omega)]; rw [show zs_sft del (zs_c8 n - 1) i = vp_updL (zs_sft del (zs_c8 n - 1) (i + 1)) (i + 1) ((zs_sft del (zs_c8 n - 1) (i + 1)) i) from zs_sft_s _ (by omega)]; rw [show zs_sft arr (zs_c8 n - 1) i = vp_updL (zs_sft arr (zs_c8 n - 1) (i + 1)) (i + 1) ((zs_sft arr (zs_c8 n - 1) (i + 1)) i) from zs_sft_s _ (by omega)]; exact hP) (by rw [show zs_sft off (zs_c8 n - 1) i = vp_updL (zs_sft off (zs_c8 n - 1) (i + 1)) (i + 1) ((zs_sft off (zs_c8 n - 1) (i + 1)) i) from zs_sft_s _ (by omega)]; rw [show zs_sft del (zs_c8 n - 1) i = vp_updL (zs_sft del (zs_c8 n - 1) (i + 1)) (i + 1) ((zs_sft del (zs_c8 n - 1) (i + 1)) i) from zs_sft_s _ (by omega)]; rw [show zs_sft arr (zs_c8 n - 1) i = vp_updL (zs_sft arr (zs_c8 n - 1) (i + 1)) (i + 1) ((zs_sft arr (zs_c8 n - 1) (i + 1)) i) from zs_sft_s _ (by omega)]; exact hD) hS _ (lv_sub hl [1, 2, 3, 4, 0] rfl)
  exact lp ((zs_c8 n - 1) + 1) (zs_c8 n - 1) _ _ (by omega) (Nat.le_refl _) (by rw [show zs_sft off (zs_c8 n - 1) (zs_c8 n - 1) = off from zs_sft_0 _ _]; rw [show zs_sft del (zs_c8 n - 1) (zs_c8 n - 1) = del from zs_sft_0 _ _]; rw [show zs_sft arr (zs_c8 n - 1) (zs_c8 n - 1) = arr from zs_sft_0 _ _]; exact hP) (by rw [show zs_sft off (zs_c8 n - 1) (zs_c8 n - 1) = off from zs_sft_0 _ _]; rw [show zs_sft del (zs_c8 n - 1) (zs_c8 n - 1) = del from zs_sft_0 _ _]; rw [show zs_sft arr (zs_c8 n - 1) (zs_c8 n - 1) = arr from zs_sft_0 _ _]; exact hD) hS _ (lv_sub hl [1, 2, 3, 4, 0] rfl)
