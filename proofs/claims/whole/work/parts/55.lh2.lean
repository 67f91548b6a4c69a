/-! The law's helpers: one server -/
set_option maxHeartbeats 4000000 in
set_option maxRecDepth 100000 in
theorem ct_L_send_no (l : Launch) (hlt : l.stackTraces = false) {dC : Nat → ClassId} {dI : Nat → Nat → Nat} {cJ cI cB cZ cS : ClassId} {sz : Nat} {c0 q v sv : Nat} {loc slw : Int64} {wst : Int32} {ou : Nat} {fo : Nat → Int64} {k : Int32} (hk : k < 0 ∨ ¬ k < 5) : vx_Met l yL_send [Cond.codeWith yL_send cL_send 4 (some .int) hhL_send] { frames := 8, cells := 1, slots := 6, locals := 124 } (va_Pc [.ref c0, .int k, .ref ou] (zy_B (dC, dI) vcl (zz_T cJ cI cB cZ cS) ((zc_C c0 q v sv loc slw wst) ++ zy_O ou cJ fo) sz)) (zq_Q (dC, dI) vcl (some (.int 1)) ((zc_C c0 q v sv loc slw wst) ++ zy_O ou cJ fo) ((zc_C c0 q v sv loc slw wst) ++ zy_O ou cJ fo) sz) zy_X 1 6 (va_A ((zc_C c0 q v sv loc slw wst) ++ zy_O ou cJ fo) sz) := by
  refine vx_ofWH (cc := cL_send) (maxL := 4) (ret := (some .int)) (hh := hhL_send) (by decide) rfl ?_
  intro p e s m args below meth c s₁ B hml hv
  obtain ⟨rfl, ⟨⟨hsz, hT, hP, hK, hD0⟩, hN, hZ⟩, hC⟩ := hv
  subst hsz
  have htb := vx_table (x := yL_send) B (hT.w th_L_send.1)
  have hx := B.exec
  have hb := B.bytes
  have hr := B.returns
  have hlocks := B.notSynchronized
  have hown : s.vm.findClass RL = some m.cls := findClass_of_methodNamed B.named
  have hD := hD0.self (sz := s.heap.size)
  generalize hAe : va_A ((zc_C c0 q v sv loc slw wst) ++ zy_O ou cJ fo) s.heap.size = A at hD hZ ⊢
  have hA : ∀ q : Nat, s.heap.size ≤ q → A q := fun q h => by rw [← hAe]; exact Or.inr h
  have hS : va_S A s.heap s.heap [] := va_S.rf
  have hl := lv_entry ([.ref c0, .int k, .ref ou]) (n := 4) (Nat.le_of_ble_eq_true rfl)
  rw [lg_entry_eq]
  generalize (lg_sl ([.ref c0, .int k, .ref ou]) ++ List.replicate (4 - (lg_sl ([.ref c0, .int k, .ref ou])).length) Slot.unset).toArray = ls at hl ⊢
  have hl : lv_has ls 4 [(0, .ref c0), (1, .int k), (2, .ref ou)] := hl
  refine lv_aload_n hx hb dL_send_0 rfl (lv_at hl 2 rfl) ?_
  refine lv_iconst (v := 0) hx hb dL_send_1 (by decide) ?_
  refine lv_aload_n hx hb dL_send_2 rfl (lv_at hl 0 rfl) ?_
  refine lv_iload_n hx hb dL_send_3 rfl (lv_at hl 1 rfl) ?_
  refine zy_caught (x := ⟨0, 8, 11, 19⟩) (pre := []) (suf := [⟨0, 8, 14, 25⟩]) htb rfl hown hT hN zy_p0 (by decide) (by decide) tw_311 tw_318 (List.Perm.refl _) (List.Perm.refl _) hA hP hD hS (vx_runV (Ts := []) (As := [.int k]) (own := RL) ⟨hx, hb, hml, hown, fun _ h => nomatch h⟩ (ct_C_send_no l hlt hk) (zt_cv hT tc_C_send tv_C_send tw_366 ⟨Nat.le_of_ble_eq_true rfl, Nat.le_of_ble_eq_true rfl⟩) (zx_preV (q0 := 0) hT (zq_Pl hP) hK (zq_Dl hD) hN hZ hS hA rfl rfl) rfl rfl hl.1 rfl (lv_room (Nat.le_of_ble_eq_true rfl)) dL_send_4 ⟨Nat.le_of_ble_eq_true rfl, Nat.le_of_ble_eq_true rfl⟩) (fun _ _ _ h => h) (fun q9 H locs hP hD hS => ?_)
  have hP : va_P (dC, dI) vcl ((zc_C c0 q v sv loc slw wst) ++ zy_O ou cJ fo) H := hP
  have hD : va_D A ((zc_C c0 q v sv loc slw wst) ++ zy_O ou cJ fo) := hD
  refine W.eq (g2 := F0 m 11 ls [.ref q9]) rfl ?_
  refine lv_astore_n (lv' := [(3, .ref q9), (0, .ref c0), (1, .int k), (2, .ref ou)]) hx hb dL_send_11 rfl hl (by decide) rfl (fun ls hl => ?_)
  refine lv_iconst (v := 1) hx hb dL_send_12 (by decide) ?_
  exact zy_iret hx hb hr hlocks dL_send_13 (rfl) (Nat.le_of_ble_eq_true rfl) (Nat.le_of_ble_eq_true rfl) hAe hP hD hS
set_option maxHeartbeats 4000000 in
set_option maxRecDepth 100000 in
theorem ct_L_send_dn (l : Launch) (hlt : l.stackTraces = false) {dC : Nat → ClassId} {dI : Nat → Nat → Nat} {cJ cI cB cZ cS : ClassId} {sz : Nat} {o a b d : Nat} {den rch pol exg str : Int32} {xp rdl rds : Int64} {off del arr : Nat → Int64} {n : Nat} {c0 q r v sv : Nat} {g : Nat → Option Nat} {loc slw : Int64} {wst : Int32} {row : Nat → Int32} {k : Nat} (hk : k < 5) (hg : g k = some o) {ou : Nat} {fo : Nat → Int64} (hd : ¬ den = 0) : vx_Met l yL_send [Cond.codeWith yL_send cL_send 4 (some .int) hhL_send] { frames := 7, cells := 1, slots := 6, locals := 103 } (va_Pc [.ref c0, .int (nI k), .ref ou] (zy_B (dC, dI) vcl (zz_T cJ cI cB cZ cS) ((zs_W o a b d cJ den rch pol exg xp (nI n) str rdl rds off del arr ++ (zc_C c0 q v sv loc slw wst ++ (zp_W q r cB row ++ zc_S sv cS g))) ++ zy_O ou cJ fo) sz)) (zq_Q (dC, dI) vcl (some (.int 2)) ((zs_W o a b d cJ den rch pol exg xp (nI n) str rdl rds off del arr ++ (zc_C c0 q v sv loc slw wst ++ (zp_W q r cB row ++ zc_S sv cS g))) ++ zy_O ou cJ fo) ((zs_W o a b d cJ den rch pol exg xp (nI n) str rdl rds off del arr ++ (zc_C c0 q v sv loc slw wst ++ (zp_W q r cB row ++ zc_S sv cS g))) ++ zy_O ou cJ fo) sz) zy_X 1 6 (va_A ((zs_W o a b d cJ den rch pol exg xp (nI n) str rdl rds off del arr ++ (zc_C c0 q v sv loc slw wst ++ (zp_W q r cB row ++ zc_S sv cS g))) ++ zy_O ou cJ fo) sz) := by
  refine vx_ofWH (cc := cL_send) (maxL := 4) (ret := (some .int)) (hh := hhL_send) (by decide) rfl ?_
  intro p e s m args below meth c s₁ B hml hv
  obtain ⟨rfl, ⟨⟨hsz, hT, hP, hK, hD0⟩, hN, hZ⟩, hC⟩ := hv
  subst hsz
  have htb := vx_table (x := yL_send) B (hT.w th_L_send.1)
  have hx := B.exec
  have hb := B.bytes
  have hr := B.returns
  have hlocks := B.notSynchronized
  have hown : s.vm.findClass RL = some m.cls := findClass_of_methodNamed B.named
  have hD := hD0.self (sz := s.heap.size)
  generalize hAe : va_A ((zs_W o a b d cJ den rch pol exg xp (nI n) str rdl rds off del arr ++ (zc_C c0 q v sv loc slw wst ++ (zp_W q r cB row ++ zc_S sv cS g))) ++ zy_O ou cJ fo) s.heap.size = A at hD hZ ⊢
  have hA : ∀ q : Nat, s.heap.size ≤ q → A q := fun q h => by rw [← hAe]; exact Or.inr h
  have hS : va_S A s.heap s.heap [] := va_S.rf
  have hl := lv_entry ([.ref c0, .int (nI k), .ref ou]) (n := 4) (Nat.le_of_ble_eq_true rfl)
  rw [lg_entry_eq]
  generalize (lg_sl ([.ref c0, .int (nI k), .ref ou]) ++ List.replicate (4 - (lg_sl ([.ref c0, .int (nI k), .ref ou])).length) Slot.unset).toArray = ls at hl ⊢
  have hl : lv_has ls 4 [(0, .ref c0), (1, .int (nI k)), (2, .ref ou)] := hl
  refine lv_aload_n hx hb dL_send_0 rfl (lv_at hl 2 rfl) ?_
  refine lv_iconst (v := 0) hx hb dL_send_1 (by decide) ?_
  refine lv_aload_n hx hb dL_send_2 rfl (lv_at hl 0 rfl) ?_
  refine lv_iload_n hx hb dL_send_3 rfl (lv_at hl 1 rfl) ?_
  refine zy_caught (x := ⟨0, 8, 14, 25⟩) (pre := [⟨0, 8, 11, 19⟩]) (suf := []) htb rfl hown hT hN (zy_pc (Or.inr ⟨by decide, _, hT.w tw_311, hC.2.1⟩) zy_p0) (by decide) (by decide) tw_338 tw_349 (List.Perm.refl _) (List.Perm.refl _) hA hP hD hS (vx_runV (Ts := []) (As := [.int (nI k)]) (own := RL) ⟨hx, hb, hml, hown, fun _ h => nomatch h⟩ (ct_C_send_dn l hlt hk hg hd) (zt_cv hT tc_C_send tv_C_send tw_366 ⟨Nat.le_of_ble_eq_true rfl, Nat.le_of_ble_eq_true rfl⟩) (zx_preV (q0 := 4) hT (zq_Pl hP) hK (zq_Dl hD) hN hZ hS hA rfl rfl) rfl rfl hl.1 rfl (lv_room (Nat.le_of_ble_eq_true rfl)) dL_send_4 ⟨Nat.le_of_ble_eq_true rfl, Nat.le_of_ble_eq_true rfl⟩) (fun _ _ _ h => h) (fun q9 H locs hP hD hS => ?_)
  have hP : va_P (dC, dI) vcl ((zs_W o a b d cJ den rch pol exg xp (nI n) str rdl rds off del arr ++ (zc_C c0 q v sv loc slw wst ++ (zp_W q r cB row ++ zc_S sv cS g))) ++ zy_O ou cJ fo) H := hP
  have hD : va_D A ((zs_W o a b d cJ den rch pol exg xp (nI n) str rdl rds off del arr ++ (zc_C c0 q v sv loc slw wst ++ (zp_W q r cB row ++ zc_S sv cS g))) ++ zy_O ou cJ fo) := hD
  refine W.eq (g2 := F0 m 14 ls [.ref q9]) rfl ?_
  refine lv_astore_n (lv' := [(3, .ref q9), (0, .ref c0), (1, .int (nI k)), (2, .ref ou)]) hx hb dL_send_14 rfl hl (by decide) rfl (fun ls hl => ?_)
  refine lv_iconst (v := 2) hx hb dL_send_15 (by decide) ?_
  exact zy_iret hx hb hr hlocks dL_send_16 (rfl) (Nat.le_of_ble_eq_true rfl) (Nat.le_of_ble_eq_true rfl) hAe hP hD hS
set_option maxHeartbeats 4000000 in
set_option maxRecDepth 100000 in
theorem ct_L_send_ok (l : Launch) (hlt : l.stackTraces = false) {dC : Nat → ClassId} {dI : Nat → Nat → Nat} {cJ cI cB cZ cS : ClassId} {sz : Nat} {o a b d : Nat} {den rch pol exg str : Int32} {xp rdl rds : Int64} {off del arr : Nat → Int64} {n : Nat} {c0 q r v sv : Nat} {g : Nat → Option Nat} {loc slw : Int64} {wst : Int32} {row : Nat → Int32} {k : Nat} (hk : k < 5) (hg : g k = some o) {ou : Nat} {fo : Nat → Int64} (hd : den = 0) : vx_Met l yL_send [Cond.codeWith yL_send cL_send 4 (some .int) hhL_send] { frames := 2, cells := 1, slots := 6, locals := 44 } (va_Pc [.ref c0, .int (nI k), .ref ou] (zy_B (dC, dI) vcl (zz_T cJ cI cB cZ cS) ((zs_W o a b d cJ den rch pol exg xp (nI n) str rdl rds off del arr ++ (zc_C c0 q v sv loc slw wst ++ (zp_W q r cB row ++ zc_S sv cS g))) ++ zy_O ou cJ fo) sz)) (zq_Q (dC, dI) vcl (some (.int 0)) ((zs_W o a b d cJ den rch pol exg xp (nI n) str rdl rds off del arr ++ (zc_C c0 q v sv loc slw wst ++ (zp_W q r cB row ++ zc_S sv cS g))) ++ zy_O ou cJ fo) ((zs_W o a b d cJ den (zs_r2 rch) pol 1 loc (nI n) str rdl rds off del arr ++ (zc_C c0 q v sv loc slw wst ++ (zp_W q r cB row ++ zc_S sv cS g))) ++ zy_O ou cJ (vp_updL fo 0 (loc))) sz) zy_X 1 6 (va_A ((zs_W o a b d cJ den rch pol exg xp (nI n) str rdl rds off del arr ++ (zc_C c0 q v sv loc slw wst ++ (zp_W q r cB row ++ zc_S sv cS g))) ++ zy_O ou cJ fo) sz) := by
  refine vx_ofWH (cc := cL_send) (maxL := 4) (ret := (some .int)) (hh := hhL_send) (by decide) rfl ?_
  intro p e s m args below meth c s₁ B hml hv
  obtain ⟨rfl, ⟨⟨hsz, hT, hP, hK, hD0⟩, hN, hZ⟩, hC⟩ := hv
  subst hsz
  have htb := vx_table (x := yL_send) B (hT.w th_L_send.1)
  have hx := B.exec
  have hb := B.bytes
  have hr := B.returns
  have hlocks := B.notSynchronized
  have hown : s.vm.findClass RL = some m.cls := findClass_of_methodNamed B.named
  have hD := hD0.self (sz := s.heap.size)
  generalize hAe : va_A ((zs_W o a b d cJ den rch pol exg xp (nI n) str rdl rds off del arr ++ (zc_C c0 q v sv loc slw wst ++ (zp_W q r cB row ++ zc_S sv cS g))) ++ zy_O ou cJ fo) s.heap.size = A at hD hZ ⊢
  have hA : ∀ q : Nat, s.heap.size ≤ q → A q := fun q h => by rw [← hAe]; exact Or.inr h
  have hS : va_S A s.heap s.heap [] := va_S.rf
  have hl := lv_entry ([.ref c0, .int (nI k), .ref ou]) (n := 4) (Nat.le_of_ble_eq_true rfl)
  rw [lg_entry_eq]
  generalize (lg_sl ([.ref c0, .int (nI k), .ref ou]) ++ List.replicate (4 - (lg_sl ([.ref c0, .int (nI k), .ref ou])).length) Slot.unset).toArray = ls at hl ⊢
  have hl : lv_has ls 4 [(0, .ref c0), (1, .int (nI k)), (2, .ref ou)] := hl
  refine lv_aload_n hx hb dL_send_0 rfl (lv_at hl 2 rfl) ?_
  refine lv_iconst (v := 0) hx hb dL_send_1 (by decide) ?_
  refine lv_aload_n hx hb dL_send_2 rfl (lv_at hl 0 rfl) ?_
  refine lv_iload_n hx hb dL_send_3 rfl (lv_at hl 1 rfl) ?_
  refine zq_call (va_runV (Ts := []) (As := [.int (nI k)]) (own := RL) ⟨hx, hb, hml, hown, fun _ h => nomatch h⟩ (ct_C_send l hk hg hd) (zt_cv hT tc_C_send tv_C_send tw_366 ⟨Nat.le_of_ble_eq_true rfl, Nat.le_of_ble_eq_true rfl⟩) (zq_preV (q0 := 4) hT (zq_Pl hP) hK (zq_Dl hD) rfl rfl) rfl rfl hl.1 rfl (lv_room (Nat.le_of_ble_eq_true rfl)) dL_send_4 ⟨Nat.zero_le _, Nat.zero_le _⟩) hP hD hS hA (fun H locs hP hD hS => ?_)
  have hP : va_P (dC, dI) vcl ((zs_W o a b d cJ den (zs_r2 rch) pol 1 loc (nI n) str rdl rds off del arr ++ (zc_C c0 q v sv loc slw wst ++ (zp_W q r cB row ++ zc_S sv cS g))) ++ zy_O ou cJ fo) H := hP
  have hD : va_D A ((zs_W o a b d cJ den (zs_r2 rch) pol 1 loc (nI n) str rdl rds off del arr ++ (zc_C c0 q v sv loc slw wst ++ (zp_W q r cB row ++ zc_S sv cS g))) ++ zy_O ou cJ fo) := hD
  refine W.eq (g2 := F0 m 7 ls [.long loc, .int 0, .ref ou]) rfl ?_
  refine zq_last hx hb hK hP hD hS 8 0 rfl rfl 0 rfl (by first | omega | decide | assumption) (by decide) dL_send_7 (fun H locs hP hD hS => ?_)
  have hP : va_P (dC, dI) vcl ((zs_W o a b d cJ den (zs_r2 rch) pol 1 loc (nI n) str rdl rds off del arr ++ (zc_C c0 q v sv loc slw wst ++ (zp_W q r cB row ++ zc_S sv cS g))) ++ zy_O ou cJ (vp_updL fo 0 loc)) H := hP
  have hD : va_D A ((zs_W o a b d cJ den (zs_r2 rch) pol 1 loc (nI n) str rdl rds off del arr ++ (zc_C c0 q v sv loc slw wst ++ (zp_W q r cB row ++ zc_S sv cS g))) ++ zy_O ou cJ (vp_updL fo 0 loc)) := hD
  refine lv_goto (tgt := 17) hx hb dL_send_8 (by decide) ?_
  refine lv_iconst (v := 0) hx hb dL_send_17 (by decide) ?_
  exact zy_iret hx hb hr hlocks dL_send_18 (rfl) (Nat.le_of_ble_eq_true rfl) (Nat.le_of_ble_eq_true rfl) hAe (by rw [show vp_updL fo 0 (loc) = vp_updL fo 0 loc from rfl]; exact hP) (by rw [show vp_updL fo 0 (loc) = vp_updL fo 0 loc from rfl]; exact hD) hS
set_option maxHeartbeats 4000000 in
set_option maxRecDepth 100000 in
theorem ct_L_receive_no (l : Launch) (hlt : l.stackTraces = false) {dC : Nat → ClassId} {dI : Nat → Nat → Nat} {cJ cI cB cZ cS : ClassId} {sz : Nat} {c0 q v sv : Nat} {loc slw : Int64} {wst : Int32} {ou : Nat} {fo : Nat → Int64} {k : Int32} (hk : k < 0 ∨ ¬ k < 5) : vx_Met l yL_receive [Cond.codeWith yL_receive cL_receive 4 (some .int) hhL_receive] { frames := 8, cells := 1, slots := 6, locals := 124 } (va_Pc [.ref c0, .int k, .ref ou] (zy_B (dC, dI) vcl (zz_T cJ cI cB cZ cS) ((zc_C c0 q v sv loc slw wst) ++ zy_O ou cJ fo) sz)) (zq_Q (dC, dI) vcl (some (.int 1)) ((zc_C c0 q v sv loc slw wst) ++ zy_O ou cJ fo) ((zc_C c0 q v sv loc slw wst) ++ zy_O ou cJ fo) sz) zy_X 1 6 (va_A ((zc_C c0 q v sv loc slw wst) ++ zy_O ou cJ fo) sz) := by
  refine vx_ofWH (cc := cL_receive) (maxL := 4) (ret := (some .int)) (hh := hhL_receive) (by decide) rfl ?_
  intro p e s m args below meth c s₁ B hml hv
  obtain ⟨rfl, ⟨⟨hsz, hT, hP, hK, hD0⟩, hN, hZ⟩, hC⟩ := hv
  subst hsz
  have htb := vx_table (x := yL_receive) B (hT.w th_L_receive.1)
  have hx := B.exec
  have hb := B.bytes
  have hr := B.returns
  have hlocks := B.notSynchronized
  have hown : s.vm.findClass RL = some m.cls := findClass_of_methodNamed B.named
  have hD := hD0.self (sz := s.heap.size)
  generalize hAe : va_A ((zc_C c0 q v sv loc slw wst) ++ zy_O ou cJ fo) s.heap.size = A at hD hZ ⊢
  have hA : ∀ q : Nat, s.heap.size ≤ q → A q := fun q h => by rw [← hAe]; exact Or.inr h
  have hS : va_S A s.heap s.heap [] := va_S.rf
  have hl := lv_entry ([.ref c0, .int k, .ref ou]) (n := 4) (Nat.le_of_ble_eq_true rfl)
  rw [lg_entry_eq]
  generalize (lg_sl ([.ref c0, .int k, .ref ou]) ++ List.replicate (4 - (lg_sl ([.ref c0, .int k, .ref ou])).length) Slot.unset).toArray = ls at hl ⊢
  have hl : lv_has ls 4 [(0, .ref c0), (1, .int k), (2, .ref ou)] := hl
  refine lv_aload_n hx hb dL_receive_0 rfl (lv_at hl 2 rfl) ?_
  refine lv_iconst (v := 0) hx hb dL_receive_1 (by decide) ?_
  refine lv_aload_n hx hb dL_receive_2 rfl (lv_at hl 0 rfl) ?_
  refine lv_iload_n hx hb dL_receive_3 rfl (lv_at hl 1 rfl) ?_
  refine zy_caught (x := ⟨0, 9, 12, 19⟩) (pre := []) (suf := [⟨0, 9, 15, 13⟩, ⟨0, 9, 18, 25⟩]) htb rfl hown hT hN zy_p0 (by decide) (by decide) tw_311 tw_318 (List.Perm.refl _) (List.Perm.refl _) hA hP hD hS (vx_runV (Ts := []) (As := [.int k]) (own := RL) ⟨hx, hb, hml, hown, fun _ h => nomatch h⟩ (ct_C_receive_no l hlt hk) (zt_cv hT tc_C_receive tv_C_receive tw_377 ⟨Nat.le_of_ble_eq_true rfl, Nat.le_of_ble_eq_true rfl⟩) (zx_preV (q0 := 0) hT (zq_Pl hP) hK (zq_Dl hD) hN hZ hS hA rfl rfl) rfl rfl hl.1 rfl (lv_room (Nat.le_of_ble_eq_true rfl)) dL_receive_4 ⟨Nat.le_of_ble_eq_true rfl, Nat.le_of_ble_eq_true rfl⟩) (fun _ _ _ h => h) (fun q9 H locs hP hD hS => ?_)
  have hP : va_P (dC, dI) vcl ((zc_C c0 q v sv loc slw wst) ++ zy_O ou cJ fo) H := hP
  have hD : va_D A ((zc_C c0 q v sv loc slw wst) ++ zy_O ou cJ fo) := hD
  refine W.eq (g2 := F0 m 12 ls [.ref q9]) rfl ?_
  refine lv_astore_n (lv' := [(3, .ref q9), (0, .ref c0), (1, .int k), (2, .ref ou)]) hx hb dL_receive_12 rfl hl (by decide) rfl (fun ls hl => ?_)
  refine lv_iconst (v := 1) hx hb dL_receive_13 (by decide) ?_
  exact zy_iret hx hb hr hlocks dL_receive_14 (rfl) (Nat.le_of_ble_eq_true rfl) (Nat.le_of_ble_eq_true rfl) hAe hP hD hS
set_option maxHeartbeats 4000000 in
set_option maxRecDepth 100000 in
theorem ct_L_receive_na (l : Launch) (hlt : l.stackTraces = false) {dC : Nat → ClassId} {dI : Nat → Nat → Nat} {cJ cI cB cZ cS : ClassId} {sz : Nat} {o a b d : Nat} {den rch pol exg str : Int32} {xp rdl rds : Int64} {off del arr : Nat → Int64} {n : Nat} {c0 q r v sv : Nat} {g : Nat → Option Nat} {loc slw : Int64} {wst : Int32} {row : Nat → Int32} {k : Nat} (hk : k < 5) (hg : g k = some o) {ou : Nat} {fo : Nat → Int64} (ha : zp_ans row = 0) : vx_Met l yL_receive [Cond.codeWith yL_receive cL_receive 4 (some .int) hhL_receive] { frames := 7, cells := 1, slots := 6, locals := 103 } (va_Pc [.ref c0, .int (nI k), .ref ou] (zy_B (dC, dI) vcl (zz_T cJ cI cB cZ cS) ((zs_W o a b d cJ den rch pol exg xp (nI n) str rdl rds off del arr ++ (zc_C c0 q v sv loc slw wst ++ (zp_W q r cB row ++ zc_S sv cS g))) ++ zy_O ou cJ fo) sz)) (zq_Q (dC, dI) vcl (some (.int 2)) ((zs_W o a b d cJ den rch pol exg xp (nI n) str rdl rds off del arr ++ (zc_C c0 q v sv loc slw wst ++ (zp_W q r cB row ++ zc_S sv cS g))) ++ zy_O ou cJ fo) ((zs_W o a b d cJ den rch pol exg xp (nI n) str rdl rds off del arr ++ (zc_C c0 q v sv loc slw wst ++ (zp_W q r cB row ++ zc_S sv cS g))) ++ zy_O ou cJ fo) sz) zy_X 1 6 (va_A ((zs_W o a b d cJ den rch pol exg xp (nI n) str rdl rds off del arr ++ (zc_C c0 q v sv loc slw wst ++ (zp_W q r cB row ++ zc_S sv cS g))) ++ zy_O ou cJ fo) sz) := by
  refine vx_ofWH (cc := cL_receive) (maxL := 4) (ret := (some .int)) (hh := hhL_receive) (by decide) rfl ?_
  intro p e s m args below meth c s₁ B hml hv
  obtain ⟨rfl, ⟨⟨hsz, hT, hP, hK, hD0⟩, hN, hZ⟩, hC⟩ := hv
  subst hsz
  have htb := vx_table (x := yL_receive) B (hT.w th_L_receive.1)
  have hx := B.exec
  have hb := B.bytes
  have hr := B.returns
  have hlocks := B.notSynchronized
  have hown : s.vm.findClass RL = some m.cls := findClass_of_methodNamed B.named
  have hD := hD0.self (sz := s.heap.size)
  generalize hAe : va_A ((zs_W o a b d cJ den rch pol exg xp (nI n) str rdl rds off del arr ++ (zc_C c0 q v sv loc slw wst ++ (zp_W q r cB row ++ zc_S sv cS g))) ++ zy_O ou cJ fo) s.heap.size = A at hD hZ ⊢
  have hA : ∀ q : Nat, s.heap.size ≤ q → A q := fun q h => by rw [← hAe]; exact Or.inr h
  have hS : va_S A s.heap s.heap [] := va_S.rf
  have hl := lv_entry ([.ref c0, .int (nI k), .ref ou]) (n := 4) (Nat.le_of_ble_eq_true rfl)
  rw [lg_entry_eq]
  generalize (lg_sl ([.ref c0, .int (nI k), .ref ou]) ++ List.replicate (4 - (lg_sl ([.ref c0, .int (nI k), .ref ou])).length) Slot.unset).toArray = ls at hl ⊢
  have hl : lv_has ls 4 [(0, .ref c0), (1, .int (nI k)), (2, .ref ou)] := hl
  refine lv_aload_n hx hb dL_receive_0 rfl (lv_at hl 2 rfl) ?_
  refine lv_iconst (v := 0) hx hb dL_receive_1 (by decide) ?_
  refine lv_aload_n hx hb dL_receive_2 rfl (lv_at hl 0 rfl) ?_
  refine lv_iload_n hx hb dL_receive_3 rfl (lv_at hl 1 rfl) ?_
  refine zy_caught (x := ⟨0, 9, 15, 13⟩) (pre := [⟨0, 9, 12, 19⟩]) (suf := [⟨0, 9, 18, 25⟩]) htb rfl hown hT hN (zy_pc (Or.inr ⟨by decide, _, hT.w tw_311, hC.2.2.1⟩) zy_p0) (by decide) (by decide) tw_234 tw_242 (List.Perm.refl _) (List.Perm.refl _) hA hP hD hS (vx_runV (Ts := []) (As := [.int (nI k)]) (own := RL) ⟨hx, hb, hml, hown, fun _ h => nomatch h⟩ (ct_C_receive_na l hlt hk hg ha) (zt_cv hT tc_C_receive tv_C_receive tw_377 ⟨Nat.le_of_ble_eq_true rfl, Nat.le_of_ble_eq_true rfl⟩) (zx_preV (q0 := 4) hT (zq_Pl hP) hK (zq_Dl hD) hN hZ hS hA rfl rfl) rfl rfl hl.1 rfl (lv_room (Nat.le_of_ble_eq_true rfl)) dL_receive_4 ⟨Nat.le_of_ble_eq_true rfl, Nat.le_of_ble_eq_true rfl⟩) (fun _ _ _ h => h) (fun q9 H locs hP hD hS => ?_)
  have hP : va_P (dC, dI) vcl ((zs_W o a b d cJ den rch pol exg xp (nI n) str rdl rds off del arr ++ (zc_C c0 q v sv loc slw wst ++ (zp_W q r cB row ++ zc_S sv cS g))) ++ zy_O ou cJ fo) H := hP
  have hD : va_D A ((zs_W o a b d cJ den rch pol exg xp (nI n) str rdl rds off del arr ++ (zc_C c0 q v sv loc slw wst ++ (zp_W q r cB row ++ zc_S sv cS g))) ++ zy_O ou cJ fo) := hD
  refine W.eq (g2 := F0 m 15 ls [.ref q9]) rfl ?_
  refine lv_astore_n (lv' := [(3, .ref q9), (0, .ref c0), (1, .int (nI k)), (2, .ref ou)]) hx hb dL_receive_15 rfl hl (by decide) rfl (fun ls hl => ?_)
  refine lv_iconst (v := 2) hx hb dL_receive_16 (by decide) ?_
  exact zy_iret hx hb hr hlocks dL_receive_17 (rfl) (Nat.le_of_ble_eq_true rfl) (Nat.le_of_ble_eq_true rfl) hAe hP hD hS
set_option maxHeartbeats 4000000 in
set_option maxRecDepth 100000 in
theorem ct_L_receive_st (l : Launch) (hlt : l.stackTraces = false) {dC : Nat → ClassId} {dI : Nat → Nat → Nat} {cJ cI cB cZ cS : ClassId} {sz : Nat} {o a b d : Nat} {den rch pol exg str : Int32} {xp rdl rds : Int64} {off del arr : Nat → Int64} {n : Nat} {c0 q r v sv : Nat} {g : Nat → Option Nat} {loc slw : Int64} {wst : Int32} {row : Nat → Int32} {k : Nat} (hk : k < 5) (hg : g k = some o) {ou : Nat} {fo : Nat → Int64} (ha : ¬ zp_ans row = 0) (hd : ¬ (den = 0 ∧ ¬ exg = 0 ∧ xp = zp_rd row 24 8)) : vx_Met l yL_receive [Cond.codeWith yL_receive cL_receive 4 (some .int) hhL_receive] { frames := 7, cells := 1, slots := 6, locals := 103 } (va_Pc [.ref c0, .int (nI k), .ref ou] (zy_B (dC, dI) vcl (zz_T cJ cI cB cZ cS) ((zs_W o a b d cJ den rch pol exg xp (nI n) str rdl rds off del arr ++ (zc_C c0 q v sv loc slw wst ++ (zp_W q r cB row ++ zc_S sv cS g))) ++ zy_O ou cJ fo) sz)) (zq_Q (dC, dI) vcl (some (.int 3)) ((zs_W o a b d cJ den rch pol exg xp (nI n) str rdl rds off del arr ++ (zc_C c0 q v sv loc slw wst ++ (zp_W q r cB row ++ zc_S sv cS g))) ++ zy_O ou cJ fo) ((zs_W o a b d cJ den rch pol exg xp (nI n) str rdl rds off del arr ++ (zc_C c0 q v sv loc slw wst ++ (zp_W q r cB row ++ zc_S sv cS g))) ++ zy_O ou cJ fo) sz) zy_X 1 6 (va_A ((zs_W o a b d cJ den rch pol exg xp (nI n) str rdl rds off del arr ++ (zc_C c0 q v sv loc slw wst ++ (zp_W q r cB row ++ zc_S sv cS g))) ++ zy_O ou cJ fo) sz) := by
  refine vx_ofWH (cc := cL_receive) (maxL := 4) (ret := (some .int)) (hh := hhL_receive) (by decide) rfl ?_
  intro p e s m args below meth c s₁ B hml hv
  obtain ⟨rfl, ⟨⟨hsz, hT, hP, hK, hD0⟩, hN, hZ⟩, hC⟩ := hv
  subst hsz
  have htb := vx_table (x := yL_receive) B (hT.w th_L_receive.1)
  have hx := B.exec
  have hb := B.bytes
  have hr := B.returns
  have hlocks := B.notSynchronized
  have hown : s.vm.findClass RL = some m.cls := findClass_of_methodNamed B.named
  have hD := hD0.self (sz := s.heap.size)
  generalize hAe : va_A ((zs_W o a b d cJ den rch pol exg xp (nI n) str rdl rds off del arr ++ (zc_C c0 q v sv loc slw wst ++ (zp_W q r cB row ++ zc_S sv cS g))) ++ zy_O ou cJ fo) s.heap.size = A at hD hZ ⊢
  have hA : ∀ q : Nat, s.heap.size ≤ q → A q := fun q h => by rw [← hAe]; exact Or.inr h
  have hS : va_S A s.heap s.heap [] := va_S.rf
  have hl := lv_entry ([.ref c0, .int (nI k), .ref ou]) (n := 4) (Nat.le_of_ble_eq_true rfl)
  rw [lg_entry_eq]
  generalize (lg_sl ([.ref c0, .int (nI k), .ref ou]) ++ List.replicate (4 - (lg_sl ([.ref c0, .int (nI k), .ref ou])).length) Slot.unset).toArray = ls at hl ⊢
  have hl : lv_has ls 4 [(0, .ref c0), (1, .int (nI k)), (2, .ref ou)] := hl
  refine lv_aload_n hx hb dL_receive_0 rfl (lv_at hl 2 rfl) ?_
  refine lv_iconst (v := 0) hx hb dL_receive_1 (by decide) ?_
  refine lv_aload_n hx hb dL_receive_2 rfl (lv_at hl 0 rfl) ?_
  refine lv_iload_n hx hb dL_receive_3 rfl (lv_at hl 1 rfl) ?_
  refine zy_caught (x := ⟨0, 9, 18, 25⟩) (pre := [⟨0, 9, 12, 19⟩, ⟨0, 9, 15, 13⟩]) (suf := []) htb rfl hown hT hN (zy_pc (Or.inr ⟨by decide, _, hT.w tw_311, hC.2.1⟩) (zy_pc (Or.inr ⟨by decide, _, hT.w tw_234, hC.2.2.2.1⟩) zy_p0)) (by decide) (by decide) tw_338 tw_349 (List.Perm.refl _) (List.Perm.refl _) hA hP hD hS (vx_runV (Ts := []) (As := [.int (nI k)]) (own := RL) ⟨hx, hb, hml, hown, fun _ h => nomatch h⟩ (ct_C_receive_st l hlt hk hg ha hd) (zt_cv hT tc_C_receive tv_C_receive tw_377 ⟨Nat.le_of_ble_eq_true rfl, Nat.le_of_ble_eq_true rfl⟩) (zx_preV (q0 := 4) hT (zq_Pl hP) hK (zq_Dl hD) hN hZ hS hA rfl rfl) rfl rfl hl.1 rfl (lv_room (Nat.le_of_ble_eq_true rfl)) dL_receive_4 ⟨Nat.le_of_ble_eq_true rfl, Nat.le_of_ble_eq_true rfl⟩) (fun _ _ _ h => h) (fun q9 H locs hP hD hS => ?_)
  have hP : va_P (dC, dI) vcl ((zs_W o a b d cJ den rch pol exg xp (nI n) str rdl rds off del arr ++ (zc_C c0 q v sv loc slw wst ++ (zp_W q r cB row ++ zc_S sv cS g))) ++ zy_O ou cJ fo) H := hP
  have hD : va_D A ((zs_W o a b d cJ den rch pol exg xp (nI n) str rdl rds off del arr ++ (zc_C c0 q v sv loc slw wst ++ (zp_W q r cB row ++ zc_S sv cS g))) ++ zy_O ou cJ fo) := hD
  refine W.eq (g2 := F0 m 18 ls [.ref q9]) rfl ?_
  refine lv_astore_n (lv' := [(3, .ref q9), (0, .ref c0), (1, .int (nI k)), (2, .ref ou)]) hx hb dL_receive_18 rfl hl (by decide) rfl (fun ls hl => ?_)
  refine lv_iconst (v := 3) hx hb dL_receive_19 (by decide) ?_
  exact zy_iret hx hb hr hlocks dL_receive_20 (rfl) (Nat.le_of_ble_eq_true rfl) (Nat.le_of_ble_eq_true rfl) hAe hP hD hS
set_option maxHeartbeats 4000000 in
set_option maxRecDepth 100000 in
theorem ct_L_receive_kis (l : Launch) (hlt : l.stackTraces = false) {dC : Nat → ClassId} {dI : Nat → Nat → Nat} {cJ cI cB cZ cS : ClassId} {sz : Nat} {o a b d : Nat} {den rch pol exg str : Int32} {xp rdl rds : Int64} {off del arr : Nat → Int64} {n : Nat} {c0 q r v sv : Nat} {g : Nat → Option Nat} {loc slw : Int64} {wst : Int32} {row : Nat → Int32} {k : Nat} (hk : k < 5) (hg : g k = some o) {ou : Nat} {fo : Nat → Int64} (ha : ¬ zp_ans row = 0) (hd0 : den = 0) (hd1 : ¬ exg = 0) (hd2 : xp = zp_rd row 24 8) (hs0 : (row 1) &&& 255 = 0) : vx_Met l yL_receive [Cond.codeWith yL_receive cL_receive 4 (some .int) hhL_receive] { frames := 4, cells := 1, slots := 6, locals := 103 } (va_Pc [.ref c0, .int (nI k), .ref ou] (zy_B (dC, dI) vcl (zz_T cJ cI cB cZ cS) ((zs_W o a b d cJ den rch pol exg xp (nI n) str rdl rds off del arr ++ (zc_C c0 q v sv loc slw wst ++ (zp_W q r cB row ++ zc_S sv cS g))) ++ zy_O ou cJ fo) sz)) (zq_Q (dC, dI) vcl (some (.int 0)) ((zs_W o a b d cJ den rch pol exg xp (nI n) str rdl rds off del arr ++ (zc_C c0 q v sv loc slw wst ++ (zp_W q r cB row ++ zc_S sv cS g))) ++ zy_O ou cJ fo) ((zs_W o a b d cJ (zs_od den (zp_rd row 12 4)) rch (zs_op pol (zp_rd row 12 4)) 0 xp (nI n) str rdl rds off del arr ++ (zc_C c0 q v sv loc slw wst ++ (zp_W q r cB row ++ zc_S sv cS g))) ++ zy_O ou cJ (vp_updL fo 0 (Int32.toInt64 2))) sz) zy_X 1 6 (va_A ((zs_W o a b d cJ den rch pol exg xp (nI n) str rdl rds off del arr ++ (zc_C c0 q v sv loc slw wst ++ (zp_W q r cB row ++ zc_S sv cS g))) ++ zy_O ou cJ fo) sz) := by
  refine vx_ofWH (cc := cL_receive) (maxL := 4) (ret := (some .int)) (hh := hhL_receive) (by decide) rfl ?_
  intro p e s m args below meth c s₁ B hml hv
  obtain ⟨rfl, ⟨⟨hsz, hT, hP, hK, hD0⟩, hN, hZ⟩, hC⟩ := hv
  subst hsz
  have htb := vx_table (x := yL_receive) B (hT.w th_L_receive.1)
  have hx := B.exec
  have hb := B.bytes
  have hr := B.returns
  have hlocks := B.notSynchronized
  have hown : s.vm.findClass RL = some m.cls := findClass_of_methodNamed B.named
  have hD := hD0.self (sz := s.heap.size)
  generalize hAe : va_A ((zs_W o a b d cJ den rch pol exg xp (nI n) str rdl rds off del arr ++ (zc_C c0 q v sv loc slw wst ++ (zp_W q r cB row ++ zc_S sv cS g))) ++ zy_O ou cJ fo) s.heap.size = A at hD hZ ⊢
  have hA : ∀ q : Nat, s.heap.size ≤ q → A q := fun q h => by rw [← hAe]; exact Or.inr h
  have hS : va_S A s.heap s.heap [] := va_S.rf
  have hl := lv_entry ([.ref c0, .int (nI k), .ref ou]) (n := 4) (Nat.le_of_ble_eq_true rfl)
  rw [lg_entry_eq]
  generalize (lg_sl ([.ref c0, .int (nI k), .ref ou]) ++ List.replicate (4 - (lg_sl ([.ref c0, .int (nI k), .ref ou])).length) Slot.unset).toArray = ls at hl ⊢
  have hl : lv_has ls 4 [(0, .ref c0), (1, .int (nI k)), (2, .ref ou)] := hl
  refine lv_aload_n hx hb dL_receive_0 rfl (lv_at hl 2 rfl) ?_
  refine lv_iconst (v := 0) hx hb dL_receive_1 (by decide) ?_
  refine lv_aload_n hx hb dL_receive_2 rfl (lv_at hl 0 rfl) ?_
  refine lv_iload_n hx hb dL_receive_3 rfl (lv_at hl 1 rfl) ?_
  refine zq_call (va_runV (Ts := []) (As := [.int (nI k)]) (own := RL) ⟨hx, hb, hml, hown, fun _ h => nomatch h⟩ (ct_C_receive_kis l hk hg ha hd0 hd1 hd2 hs0) (zt_cv hT tc_C_receive tv_C_receive tw_377 ⟨Nat.le_of_ble_eq_true rfl, Nat.le_of_ble_eq_true rfl⟩) (zq_preV (q0 := 4) hT (zq_Pl hP) hK (zq_Dl hD) rfl rfl) rfl rfl hl.1 rfl (lv_room (Nat.le_of_ble_eq_true rfl)) dL_receive_4 ⟨Nat.zero_le _, Nat.zero_le _⟩) hP hD hS hA (fun H locs hP hD hS => ?_)
  have hP : va_P (dC, dI) vcl ((zs_W o a b d cJ (zs_od den (zp_rd row 12 4)) rch (zs_op pol (zp_rd row 12 4)) 0 xp (nI n) str rdl rds off del arr ++ (zc_C c0 q v sv loc slw wst ++ (zp_W q r cB row ++ zc_S sv cS g))) ++ zy_O ou cJ fo) H := hP
  have hD : va_D A ((zs_W o a b d cJ (zs_od den (zp_rd row 12 4)) rch (zs_op pol (zp_rd row 12 4)) 0 xp (nI n) str rdl rds off del arr ++ (zc_C c0 q v sv loc slw wst ++ (zp_W q r cB row ++ zc_S sv cS g))) ++ zy_O ou cJ fo) := hD
  refine W.eq (g2 := F0 m 7 ls [.int 2, .int 0, .ref ou]) rfl ?_
  refine lv_i2l (v := Int32.toInt64 2) hx hb dL_receive_7 rfl ?_
  refine zq_last hx hb hK hP hD hS 8 0 rfl rfl 0 rfl (by first | omega | decide | assumption) (by decide) dL_receive_8 (fun H locs hP hD hS => ?_)
  have hP : va_P (dC, dI) vcl ((zs_W o a b d cJ (zs_od den (zp_rd row 12 4)) rch (zs_op pol (zp_rd row 12 4)) 0 xp (nI n) str rdl rds off del arr ++ (zc_C c0 q v sv loc slw wst ++ (zp_W q r cB row ++ zc_S sv cS g))) ++ zy_O ou cJ (vp_updL fo 0 (Int32.toInt64 2))) H := hP
  have hD : va_D A ((zs_W o a b d cJ (zs_od den (zp_rd row 12 4)) rch (zs_op pol (zp_rd row 12 4)) 0 xp (nI n) str rdl rds off del arr ++ (zc_C c0 q v sv loc slw wst ++ (zp_W q r cB row ++ zc_S sv cS g))) ++ zy_O ou cJ (vp_updL fo 0 (Int32.toInt64 2))) := hD
  refine lv_goto (tgt := 21) hx hb dL_receive_9 (by decide) ?_
  refine lv_iconst (v := 0) hx hb dL_receive_21 (by decide) ?_
  exact zy_iret hx hb hr hlocks dL_receive_22 (rfl) (Nat.le_of_ble_eq_true rfl) (Nat.le_of_ble_eq_true rfl) hAe hP hD hS
set_option maxHeartbeats 4000000 in
set_option maxRecDepth 100000 in
theorem ct_L_receive_uns (l : Launch) (hlt : l.stackTraces = false) {dC : Nat → ClassId} {dI : Nat → Nat → Nat} {cJ cI cB cZ cS : ClassId} {sz : Nat} {o a b d : Nat} {den rch pol exg str : Int32} {xp rdl rds : Int64} {off del arr : Nat → Int64} {n : Nat} {c0 q r v sv : Nat} {g : Nat → Option Nat} {loc slw : Int64} {wst : Int32} {row : Nat → Int32} {k : Nat} (hk : k < 5) (hg : g k = some o) {ou : Nat} {fo : Nat → Int64} (ha : ¬ zp_ans row = 0) (hd0 : den = 0) (hd1 : ¬ exg = 0) (hd2 : xp = zp_rd row 24 8) (hs0 : ¬ (row 1) &&& 255 = 0) (hy : zp_syn row = 0) : vx_Met l yL_receive [Cond.codeWith yL_receive cL_receive 4 (some .int) hhL_receive] { frames := 4, cells := 1, slots := 6, locals := 103 } (va_Pc [.ref c0, .int (nI k), .ref ou] (zy_B (dC, dI) vcl (zz_T cJ cI cB cZ cS) ((zs_W o a b d cJ den rch pol exg xp (nI n) str rdl rds off del arr ++ (zc_C c0 q v sv loc slw wst ++ (zp_W q r cB row ++ zc_S sv cS g))) ++ zy_O ou cJ fo) sz)) (zq_Q (dC, dI) vcl (some (.int 0)) ((zs_W o a b d cJ den rch pol exg xp (nI n) str rdl rds off del arr ++ (zc_C c0 q v sv loc slw wst ++ (zp_W q r cB row ++ zc_S sv cS g))) ++ zy_O ou cJ fo) ((zs_W o a b d cJ den rch pol 0 xp (nI n) str rdl rds off del arr ++ (zc_C c0 q v sv loc slw wst ++ (zp_W q r cB row ++ zc_S sv cS g))) ++ zy_O ou cJ (vp_updL fo 0 (Int32.toInt64 1))) sz) zy_X 1 6 (va_A ((zs_W o a b d cJ den rch pol exg xp (nI n) str rdl rds off del arr ++ (zc_C c0 q v sv loc slw wst ++ (zp_W q r cB row ++ zc_S sv cS g))) ++ zy_O ou cJ fo) sz) := by
  refine vx_ofWH (cc := cL_receive) (maxL := 4) (ret := (some .int)) (hh := hhL_receive) (by decide) rfl ?_
  intro p e s m args below meth c s₁ B hml hv
  obtain ⟨rfl, ⟨⟨hsz, hT, hP, hK, hD0⟩, hN, hZ⟩, hC⟩ := hv
  subst hsz
  have htb := vx_table (x := yL_receive) B (hT.w th_L_receive.1)
  have hx := B.exec
  have hb := B.bytes
  have hr := B.returns
  have hlocks := B.notSynchronized
  have hown : s.vm.findClass RL = some m.cls := findClass_of_methodNamed B.named
  have hD := hD0.self (sz := s.heap.size)
  generalize hAe : va_A ((zs_W o a b d cJ den rch pol exg xp (nI n) str rdl rds off del arr ++ (zc_C c0 q v sv loc slw wst ++ (zp_W q r cB row ++ zc_S sv cS g))) ++ zy_O ou cJ fo) s.heap.size = A at hD hZ ⊢
  have hA : ∀ q : Nat, s.heap.size ≤ q → A q := fun q h => by rw [← hAe]; exact Or.inr h
  have hS : va_S A s.heap s.heap [] := va_S.rf
  have hl := lv_entry ([.ref c0, .int (nI k), .ref ou]) (n := 4) (Nat.le_of_ble_eq_true rfl)
  rw [lg_entry_eq]
  generalize (lg_sl ([.ref c0, .int (nI k), .ref ou]) ++ List.replicate (4 - (lg_sl ([.ref c0, .int (nI k), .ref ou])).length) Slot.unset).toArray = ls at hl ⊢
  have hl : lv_has ls 4 [(0, .ref c0), (1, .int (nI k)), (2, .ref ou)] := hl
  refine lv_aload_n hx hb dL_receive_0 rfl (lv_at hl 2 rfl) ?_
  refine lv_iconst (v := 0) hx hb dL_receive_1 (by decide) ?_
  refine lv_aload_n hx hb dL_receive_2 rfl (lv_at hl 0 rfl) ?_
  refine lv_iload_n hx hb dL_receive_3 rfl (lv_at hl 1 rfl) ?_
  refine zq_call (va_runV (Ts := []) (As := [.int (nI k)]) (own := RL) ⟨hx, hb, hml, hown, fun _ h => nomatch h⟩ (ct_C_receive_uns l hk hg ha hd0 hd1 hd2 hs0 hy) (zt_cv hT tc_C_receive tv_C_receive tw_377 ⟨Nat.le_of_ble_eq_true rfl, Nat.le_of_ble_eq_true rfl⟩) (zq_preV (q0 := 4) hT (zq_Pl hP) hK (zq_Dl hD) rfl rfl) rfl rfl hl.1 rfl (lv_room (Nat.le_of_ble_eq_true rfl)) dL_receive_4 ⟨Nat.zero_le _, Nat.zero_le _⟩) hP hD hS hA (fun H locs hP hD hS => ?_)
  have hP : va_P (dC, dI) vcl ((zs_W o a b d cJ den rch pol 0 xp (nI n) str rdl rds off del arr ++ (zc_C c0 q v sv loc slw wst ++ (zp_W q r cB row ++ zc_S sv cS g))) ++ zy_O ou cJ fo) H := hP
  have hD : va_D A ((zs_W o a b d cJ den rch pol 0 xp (nI n) str rdl rds off del arr ++ (zc_C c0 q v sv loc slw wst ++ (zp_W q r cB row ++ zc_S sv cS g))) ++ zy_O ou cJ fo) := hD
  refine W.eq (g2 := F0 m 7 ls [.int 1, .int 0, .ref ou]) rfl ?_
  refine lv_i2l (v := Int32.toInt64 1) hx hb dL_receive_7 rfl ?_
  refine zq_last hx hb hK hP hD hS 8 0 rfl rfl 0 rfl (by first | omega | decide | assumption) (by decide) dL_receive_8 (fun H locs hP hD hS => ?_)
  have hP : va_P (dC, dI) vcl ((zs_W o a b d cJ den rch pol 0 xp (nI n) str rdl rds off del arr ++ (zc_C c0 q v sv loc slw wst ++ (zp_W q r cB row ++ zc_S sv cS g))) ++ zy_O ou cJ (vp_updL fo 0 (Int32.toInt64 1))) H := hP
  have hD : va_D A ((zs_W o a b d cJ den rch pol 0 xp (nI n) str rdl rds off del arr ++ (zc_C c0 q v sv loc slw wst ++ (zp_W q r cB row ++ zc_S sv cS g))) ++ zy_O ou cJ (vp_updL fo 0 (Int32.toInt64 1))) := hD
  refine lv_goto (tgt := 21) hx hb dL_receive_9 (by decide) ?_
  refine lv_iconst (v := 0) hx hb dL_receive_21 (by decide) ?_
  exact zy_iret hx hb hr hlocks dL_receive_22 (rfl) (Nat.le_of_ble_eq_true rfl) (Nat.le_of_ble_eq_true rfl) hAe hP hD hS
set_option maxHeartbeats 4000000 in
set_option maxRecDepth 100000 in
theorem ct_L_receive_wld (l : Launch) (hlt : l.stackTraces = false) {dC : Nat → ClassId} {dI : Nat → Nat → Nat} {cJ cI cB cZ cS : ClassId} {sz : Nat} {o a b d : Nat} {den rch pol exg str : Int32} {xp rdl rds : Int64} {off del arr : Nat → Int64} {n : Nat} {c0 q r v sv : Nat} {g : Nat → Option Nat} {loc slw : Int64} {wst : Int32} {row : Nat → Int32} {k : Nat} (hk : k < 5) (hg : g k = some o) {ou : Nat} {fo : Nat → Int64} (ha : ¬ zp_ans row = 0) (hd0 : den = 0) (hd1 : ¬ exg = 0) (hd2 : xp = zp_rd row 24 8) (hs0 : ¬ (row 1) &&& 255 = 0) (hy : ¬ zp_syn row = 0) (hwi : zc_half ((zp_rd row 32 8) - xp) ((zp_rd row 40 8) - loc) < (-1152921504606846976) ∨ 1152921504606846976 < zc_half ((zp_rd row 32 8) - xp) ((zp_rd row 40 8) - loc) ∨ 1152921504606846976 < zn_max 4096 ((loc - xp) - ((zp_rd row 40 8) - (zp_rd row 32 8)))) : vx_Met l yL_receive [Cond.codeWith yL_receive cL_receive 4 (some .int) hhL_receive] { frames := 4, cells := 1, slots := 6, locals := 103 } (va_Pc [.ref c0, .int (nI k), .ref ou] (zy_B (dC, dI) vcl (zz_T cJ cI cB cZ cS) ((zs_W o a b d cJ den rch pol exg xp (nI n) str rdl rds off del arr ++ (zc_C c0 q v sv loc slw wst ++ (zp_W q r cB row ++ zc_S sv cS g))) ++ zy_O ou cJ fo) sz)) (zq_Q (dC, dI) vcl (some (.int 0)) ((zs_W o a b d cJ den rch pol exg xp (nI n) str rdl rds off del arr ++ (zc_C c0 q v sv loc slw wst ++ (zp_W q r cB row ++ zc_S sv cS g))) ++ zy_O ou cJ fo) ((zs_W o a b d cJ den rch pol 0 xp (nI n) str rdl rds off del arr ++ (zc_C c0 q v sv loc slw wst ++ (zp_W q r cB row ++ zc_S sv cS g))) ++ zy_O ou cJ (vp_updL fo 0 (Int32.toInt64 3))) sz) zy_X 1 6 (va_A ((zs_W o a b d cJ den rch pol exg xp (nI n) str rdl rds off del arr ++ (zc_C c0 q v sv loc slw wst ++ (zp_W q r cB row ++ zc_S sv cS g))) ++ zy_O ou cJ fo) sz) := by
  refine vx_ofWH (cc := cL_receive) (maxL := 4) (ret := (some .int)) (hh := hhL_receive) (by decide) rfl ?_
  intro p e s m args below meth c s₁ B hml hv
  obtain ⟨rfl, ⟨⟨hsz, hT, hP, hK, hD0⟩, hN, hZ⟩, hC⟩ := hv
  subst hsz
  have htb := vx_table (x := yL_receive) B (hT.w th_L_receive.1)
  have hx := B.exec
  have hb := B.bytes
  have hr := B.returns
  have hlocks := B.notSynchronized
  have hown : s.vm.findClass RL = some m.cls := findClass_of_methodNamed B.named
  have hD := hD0.self (sz := s.heap.size)
  generalize hAe : va_A ((zs_W o a b d cJ den rch pol exg xp (nI n) str rdl rds off del arr ++ (zc_C c0 q v sv loc slw wst ++ (zp_W q r cB row ++ zc_S sv cS g))) ++ zy_O ou cJ fo) s.heap.size = A at hD hZ ⊢
  have hA : ∀ q : Nat, s.heap.size ≤ q → A q := fun q h => by rw [← hAe]; exact Or.inr h
  have hS : va_S A s.heap s.heap [] := va_S.rf
  have hl := lv_entry ([.ref c0, .int (nI k), .ref ou]) (n := 4) (Nat.le_of_ble_eq_true rfl)
  rw [lg_entry_eq]
  generalize (lg_sl ([.ref c0, .int (nI k), .ref ou]) ++ List.replicate (4 - (lg_sl ([.ref c0, .int (nI k), .ref ou])).length) Slot.unset).toArray = ls at hl ⊢
  have hl : lv_has ls 4 [(0, .ref c0), (1, .int (nI k)), (2, .ref ou)] := hl
  refine lv_aload_n hx hb dL_receive_0 rfl (lv_at hl 2 rfl) ?_
  refine lv_iconst (v := 0) hx hb dL_receive_1 (by decide) ?_
  refine lv_aload_n hx hb dL_receive_2 rfl (lv_at hl 0 rfl) ?_
  refine lv_iload_n hx hb dL_receive_3 rfl (lv_at hl 1 rfl) ?_
  refine zq_call (va_runV (Ts := []) (As := [.int (nI k)]) (own := RL) ⟨hx, hb, hml, hown, fun _ h => nomatch h⟩ (ct_C_receive_wld l hk hg ha hd0 hd1 hd2 hs0 hy hwi) (zt_cv hT tc_C_receive tv_C_receive tw_377 ⟨Nat.le_of_ble_eq_true rfl, Nat.le_of_ble_eq_true rfl⟩) (zq_preV (q0 := 4) hT (zq_Pl hP) hK (zq_Dl hD) rfl rfl) rfl rfl hl.1 rfl (lv_room (Nat.le_of_ble_eq_true rfl)) dL_receive_4 ⟨Nat.zero_le _, Nat.zero_le _⟩) hP hD hS hA (fun H locs hP hD hS => ?_)
  have hP : va_P (dC, dI) vcl ((zs_W o a b d cJ den rch pol 0 xp (nI n) str rdl rds off del arr ++ (zc_C c0 q v sv loc slw wst ++ (zp_W q r cB row ++ zc_S sv cS g))) ++ zy_O ou cJ fo) H := hP
  have hD : va_D A ((zs_W o a b d cJ den rch pol 0 xp (nI n) str rdl rds off del arr ++ (zc_C c0 q v sv loc slw wst ++ (zp_W q r cB row ++ zc_S sv cS g))) ++ zy_O ou cJ fo) := hD
  refine W.eq (g2 := F0 m 7 ls [.int 3, .int 0, .ref ou]) rfl ?_
  refine lv_i2l (v := Int32.toInt64 3) hx hb dL_receive_7 rfl ?_
  refine zq_last hx hb hK hP hD hS 8 0 rfl rfl 0 rfl (by first | omega | decide | assumption) (by decide) dL_receive_8 (fun H locs hP hD hS => ?_)
  have hP : va_P (dC, dI) vcl ((zs_W o a b d cJ den rch pol 0 xp (nI n) str rdl rds off del arr ++ (zc_C c0 q v sv loc slw wst ++ (zp_W q r cB row ++ zc_S sv cS g))) ++ zy_O ou cJ (vp_updL fo 0 (Int32.toInt64 3))) H := hP
  have hD : va_D A ((zs_W o a b d cJ den rch pol 0 xp (nI n) str rdl rds off del arr ++ (zc_C c0 q v sv loc slw wst ++ (zp_W q r cB row ++ zc_S sv cS g))) ++ zy_O ou cJ (vp_updL fo 0 (Int32.toInt64 3))) := hD
  refine lv_goto (tgt := 21) hx hb dL_receive_9 (by decide) ?_
  refine lv_iconst (v := 0) hx hb dL_receive_21 (by decide) ?_
  exact zy_iret hx hb hr hlocks dL_receive_22 (rfl) (Nat.le_of_ble_eq_true rfl) (Nat.le_of_ble_eq_true rfl) hAe hP hD hS
set_option maxHeartbeats 4000000 in
set_option maxRecDepth 100000 in
theorem ct_L_receive_ok (l : Launch) (hlt : l.stackTraces = false) {dC : Nat → ClassId} {dI : Nat → Nat → Nat} {cJ cI cB cZ cS : ClassId} {sz : Nat} {o a b d : Nat} {den rch pol exg str : Int32} {xp rdl rds : Int64} {off del arr : Nat → Int64} {n : Nat} {c0 q r v sv : Nat} {g : Nat → Option Nat} {loc slw : Int64} {wst : Int32} {row : Nat → Int32} {k : Nat} (hk : k < 5) (hg : g k = some o) {ou : Nat} {fo : Nat → Int64} (hn : n ≤ 8) (ha : ¬ zp_ans row = 0) (hd0 : den = 0) (hd1 : ¬ exg = 0) (hd2 : xp = zp_rd row 24 8) (hs0 : ¬ (row 1) &&& 255 = 0) (hy : ¬ zp_syn row = 0) (hwi : ¬ (zc_half ((zp_rd row 32 8) - xp) ((zp_rd row 40 8) - loc) < (-1152921504606846976) ∨ 1152921504606846976 < zc_half ((zp_rd row 32 8) - xp) ((zp_rd row 40 8) - loc) ∨ 1152921504606846976 < zn_max 4096 ((loc - xp) - ((zp_rd row 40 8) - (zp_rd row 32 8))))) : vx_Met l yL_receive [Cond.codeWith yL_receive cL_receive 4 (some .int) hhL_receive] { frames := 4, cells := 1, slots := 6, locals := 103 } (va_Pc [.ref c0, .int (nI k), .ref ou] (zy_B (dC, dI) vcl (zz_T cJ cI cB cZ cS) ((zs_W o a b d cJ den rch pol exg xp (nI n) str rdl rds off del arr ++ (zc_C c0 q v sv loc slw wst ++ (zp_W q r cB row ++ zc_S sv cS g))) ++ zy_O ou cJ fo) sz)) (zq_Q (dC, dI) vcl (some (.int 0)) ((zs_W o a b d cJ den rch pol exg xp (nI n) str rdl rds off del arr ++ (zc_C c0 q v sv loc slw wst ++ (zp_W q r cB row ++ zc_S sv cS g))) ++ zy_O ou cJ fo) ((zs_W o a b d cJ den (rch ||| 1) pol 0 xp (nI (zs_c8 n)) ((row 1) &&& 255) ((zp_rd row 4 4) * 65536) ((zp_rd row 8 4) * 65536) (zs_push off n (zc_half ((zp_rd row 32 8) - xp) ((zp_rd row 40 8) - loc))) (zs_push del n (zn_max 4096 ((loc - xp) - ((zp_rd row 40 8) - (zp_rd row 32 8))))) (zs_push arr n loc) ++ (zc_C c0 q v sv loc slw wst ++ (zp_W q r cB row ++ zc_S sv cS g))) ++ zy_O ou cJ (vp_updL fo 0 (Int32.toInt64 0))) sz) zy_X 1 6 (va_A ((zs_W o a b d cJ den rch pol exg xp (nI n) str rdl rds off del arr ++ (zc_C c0 q v sv loc slw wst ++ (zp_W q r cB row ++ zc_S sv cS g))) ++ zy_O ou cJ fo) sz) := by
  refine vx_ofWH (cc := cL_receive) (maxL := 4) (ret := (some .int)) (hh := hhL_receive) (by decide) rfl ?_
  intro p e s m args below meth c s₁ B hml hv
  obtain ⟨rfl, ⟨⟨hsz, hT, hP, hK, hD0⟩, hN, hZ⟩, hC⟩ := hv
  subst hsz
  have htb := vx_table (x := yL_receive) B (hT.w th_L_receive.1)
  have hx := B.exec
  have hb := B.bytes
  have hr := B.returns
  have hlocks := B.notSynchronized
  have hown : s.vm.findClass RL = some m.cls := findClass_of_methodNamed B.named
  have hD := hD0.self (sz := s.heap.size)
  generalize hAe : va_A ((zs_W o a b d cJ den rch pol exg xp (nI n) str rdl rds off del arr ++ (zc_C c0 q v sv loc slw wst ++ (zp_W q r cB row ++ zc_S sv cS g))) ++ zy_O ou cJ fo) s.heap.size = A at hD hZ ⊢
  have hA : ∀ q : Nat, s.heap.size ≤ q → A q := fun q h => by rw [← hAe]; exact Or.inr h
  have hS : va_S A s.heap s.heap [] := va_S.rf
  have hl := lv_entry ([.ref c0, .int (nI k), .ref ou]) (n := 4) (Nat.le_of_ble_eq_true rfl)
  rw [lg_entry_eq]
  generalize (lg_sl ([.ref c0, .int (nI k), .ref ou]) ++ List.replicate (4 - (lg_sl ([.ref c0, .int (nI k), .ref ou])).length) Slot.unset).toArray = ls at hl ⊢
  have hl : lv_has ls 4 [(0, .ref c0), (1, .int (nI k)), (2, .ref ou)] := hl
  refine lv_aload_n hx hb dL_receive_0 rfl (lv_at hl 2 rfl) ?_
  refine lv_iconst (v := 0) hx hb dL_receive_1 (by decide) ?_
  refine lv_aload_n hx hb dL_receive_2 rfl (lv_at hl 0 rfl) ?_
  refine lv_iload_n hx hb dL_receive_3 rfl (lv_at hl 1 rfl) ?_
  refine zq_call (va_runV (Ts := []) (As := [.int (nI k)]) (own := RL) ⟨hx, hb, hml, hown, fun _ h => nomatch h⟩ (ct_C_receive l hk hg hn ha hd0 hd1 hd2 hs0 hy hwi) (zt_cv hT tc_C_receive tv_C_receive tw_377 ⟨Nat.le_of_ble_eq_true rfl, Nat.le_of_ble_eq_true rfl⟩) (zq_preV (q0 := 4) hT (zq_Pl hP) hK (zq_Dl hD) rfl rfl) rfl rfl hl.1 rfl (lv_room (Nat.le_of_ble_eq_true rfl)) dL_receive_4 ⟨Nat.zero_le _, Nat.zero_le _⟩) hP hD hS hA (fun H locs hP hD hS => ?_)
  have hP : va_P (dC, dI) vcl ((zs_W o a b d cJ den (rch ||| 1) pol 0 xp (nI (zs_c8 n)) ((row 1) &&& 255) ((zp_rd row 4 4) * 65536) ((zp_rd row 8 4) * 65536) (zs_push off n (zc_half ((zp_rd row 32 8) - xp) ((zp_rd row 40 8) - loc))) (zs_push del n (zn_max 4096 ((loc - xp) - ((zp_rd row 40 8) - (zp_rd row 32 8))))) (zs_push arr n loc) ++ (zc_C c0 q v sv loc slw wst ++ (zp_W q r cB row ++ zc_S sv cS g))) ++ zy_O ou cJ fo) H := hP
  have hD : va_D A ((zs_W o a b d cJ den (rch ||| 1) pol 0 xp (nI (zs_c8 n)) ((row 1) &&& 255) ((zp_rd row 4 4) * 65536) ((zp_rd row 8 4) * 65536) (zs_push off n (zc_half ((zp_rd row 32 8) - xp) ((zp_rd row 40 8) - loc))) (zs_push del n (zn_max 4096 ((loc - xp) - ((zp_rd row 40 8) - (zp_rd row 32 8))))) (zs_push arr n loc) ++ (zc_C c0 q v sv loc slw wst ++ (zp_W q r cB row ++ zc_S sv cS g))) ++ zy_O ou cJ fo) := hD
  refine W.eq (g2 := F0 m 7 ls [.int 0, .int 0, .ref ou]) rfl ?_
  refine lv_i2l (v := Int32.toInt64 0) hx hb dL_receive_7 rfl ?_
  refine zq_last hx hb hK hP hD hS 8 0 rfl rfl 0 rfl (by first | omega | decide | assumption) (by decide) dL_receive_8 (fun H locs hP hD hS => ?_)
  have hP : va_P (dC, dI) vcl ((zs_W o a b d cJ den (rch ||| 1) pol 0 xp (nI (zs_c8 n)) ((row 1) &&& 255) ((zp_rd row 4 4) * 65536) ((zp_rd row 8 4) * 65536) (zs_push off n (zc_half ((zp_rd row 32 8) - xp) ((zp_rd row 40 8) - loc))) (zs_push del n (zn_max 4096 ((loc - xp) - ((zp_rd row 40 8) - (zp_rd row 32 8))))) (zs_push arr n loc) ++ (zc_C c0 q v sv loc slw wst ++ (zp_W q r cB row ++ zc_S sv cS g))) ++ zy_O ou cJ (vp_updL fo 0 (Int32.toInt64 0))) H := hP
  have hD : va_D A ((zs_W o a b d cJ den (rch ||| 1) pol 0 xp (nI (zs_c8 n)) ((row 1) &&& 255) ((zp_rd row 4 4) * 65536) ((zp_rd row 8 4) * 65536) (zs_push off n (zc_half ((zp_rd row 32 8) - xp) ((zp_rd row 40 8) - loc))) (zs_push del n (zn_max 4096 ((loc - xp) - ((zp_rd row 40 8) - (zp_rd row 32 8))))) (zs_push arr n loc) ++ (zc_C c0 q v sv loc slw wst ++ (zp_W q r cB row ++ zc_S sv cS g))) ++ zy_O ou cJ (vp_updL fo 0 (Int32.toInt64 0))) := hD
  refine lv_goto (tgt := 21) hx hb dL_receive_9 (by decide) ?_
  refine lv_iconst (v := 0) hx hb dL_receive_21 (by decide) ?_
  exact zy_iret hx hb hr hlocks dL_receive_22 (rfl) (Nat.le_of_ble_eq_true rfl) (Nat.le_of_ble_eq_true rfl) hAe hP hD hS
set_option maxHeartbeats 4000000 in
set_option maxRecDepth 100000 in
theorem ct_L_reach_no (l : Launch) (hlt : l.stackTraces = false) {dC : Nat → ClassId} {dI : Nat → Nat → Nat} {cJ cI cB cZ cS : ClassId} {sz : Nat} {c0 q v sv : Nat} {loc slw : Int64} {wst : Int32} {ou : Nat} {fo : Nat → Int64} {k : Int32} (hk : k < 0 ∨ ¬ k < 5) : vx_Met l yL_reach [Cond.codeWith yL_reach cL_reach 4 (some .int) hhL_reach] { frames := 8, cells := 1, slots := 6, locals := 124 } (va_Pc [.ref c0, .int k, .ref ou] (zy_B (dC, dI) vcl (zz_T cJ cI cB cZ cS) ((zc_C c0 q v sv loc slw wst) ++ zy_O ou cJ fo) sz)) (zq_Q (dC, dI) vcl (some (.int 1)) ((zc_C c0 q v sv loc slw wst) ++ zy_O ou cJ fo) ((zc_C c0 q v sv loc slw wst) ++ zy_O ou cJ fo) sz) zy_X 1 6 (va_A ((zc_C c0 q v sv loc slw wst) ++ zy_O ou cJ fo) sz) := by
  refine vx_ofWH (cc := cL_reach) (maxL := 4) (ret := (some .int)) (hh := hhL_reach) (by decide) rfl ?_
  intro p e s m args below meth c s₁ B hml hv
  obtain ⟨rfl, ⟨⟨hsz, hT, hP, hK, hD0⟩, hN, hZ⟩, hC⟩ := hv
  subst hsz
  have htb := vx_table (x := yL_reach) B (hT.w th_L_reach.1)
  have hx := B.exec
  have hb := B.bytes
  have hr := B.returns
  have hlocks := B.notSynchronized
  have hown : s.vm.findClass RL = some m.cls := findClass_of_methodNamed B.named
  have hD := hD0.self (sz := s.heap.size)
  generalize hAe : va_A ((zc_C c0 q v sv loc slw wst) ++ zy_O ou cJ fo) s.heap.size = A at hD hZ ⊢
  have hA : ∀ q : Nat, s.heap.size ≤ q → A q := fun q h => by rw [← hAe]; exact Or.inr h
  have hS : va_S A s.heap s.heap [] := va_S.rf
  have hl := lv_entry ([.ref c0, .int k, .ref ou]) (n := 4) (Nat.le_of_ble_eq_true rfl)
  rw [lg_entry_eq]
  generalize (lg_sl ([.ref c0, .int k, .ref ou]) ++ List.replicate (4 - (lg_sl ([.ref c0, .int k, .ref ou])).length) Slot.unset).toArray = ls at hl ⊢
  have hl : lv_has ls 4 [(0, .ref c0), (1, .int k), (2, .ref ou)] := hl
  refine lv_aload_n hx hb dL_reach_0 rfl (lv_at hl 2 rfl) ?_
  refine lv_iconst (v := 0) hx hb dL_reach_1 (by decide) ?_
  refine lv_aload_n hx hb dL_reach_2 rfl (lv_at hl 0 rfl) ?_
  refine lv_iload_n hx hb dL_reach_3 rfl (lv_at hl 1 rfl) ?_
  refine zy_caught (x := ⟨0, 9, 12, 19⟩) (pre := []) (suf := []) htb rfl hown hT hN zy_p0 (by decide) (by decide) tw_311 tw_318 (List.Perm.refl _) (List.Perm.refl _) hA hP hD hS (vx_runV (Ts := []) (As := [.int k]) (own := RL) ⟨hx, hb, hml, hown, fun _ h => nomatch h⟩ (ct_C_reach_no l hlt hk) (zt_cv hT tc_C_reach tv_C_reach tw_443 ⟨Nat.le_of_ble_eq_true rfl, Nat.le_of_ble_eq_true rfl⟩) (zx_preV (q0 := 0) hT (zq_Pl hP) hK (zq_Dl hD) hN hZ hS hA rfl rfl) rfl rfl hl.1 rfl (lv_room (Nat.le_of_ble_eq_true rfl)) dL_reach_4 ⟨Nat.le_of_ble_eq_true rfl, Nat.le_of_ble_eq_true rfl⟩) (fun _ _ _ h => h) (fun q9 H locs hP hD hS => ?_)
  have hP : va_P (dC, dI) vcl ((zc_C c0 q v sv loc slw wst) ++ zy_O ou cJ fo) H := hP
  have hD : va_D A ((zc_C c0 q v sv loc slw wst) ++ zy_O ou cJ fo) := hD
  refine W.eq (g2 := F0 m 12 ls [.ref q9]) rfl ?_
  refine lv_astore_n (lv' := [(3, .ref q9), (0, .ref c0), (1, .int k), (2, .ref ou)]) hx hb dL_reach_12 rfl hl (by decide) rfl (fun ls hl => ?_)
  refine lv_iconst (v := 1) hx hb dL_reach_13 (by decide) ?_
  exact zy_iret hx hb hr hlocks dL_reach_14 (rfl) (Nat.le_of_ble_eq_true rfl) (Nat.le_of_ble_eq_true rfl) hAe hP hD hS
set_option maxHeartbeats 4000000 in
set_option maxRecDepth 100000 in
theorem ct_L_reach_ok (l : Launch) (hlt : l.stackTraces = false) {dC : Nat → ClassId} {dI : Nat → Nat → Nat} {cJ cI cB cZ cS : ClassId} {sz : Nat} {o a b d : Nat} {den rch pol exg str : Int32} {xp rdl rds : Int64} {off del arr : Nat → Int64} {n : Nat} {c0 q r v sv : Nat} {g : Nat → Option Nat} {loc slw : Int64} {wst : Int32} {row : Nat → Int32} {k : Nat} (hk : k < 5) (hg : g k = some o) {ou : Nat} {fo : Nat → Int64}  : vx_Met l yL_reach [Cond.codeWith yL_reach cL_reach 4 (some .int) hhL_reach] { frames := 2, cells := 1, slots := 6, locals := 43 } (va_Pc [.ref c0, .int (nI k), .ref ou] (zy_B (dC, dI) vcl (zz_T cJ cI cB cZ cS) ((zs_W o a b d cJ den rch pol exg xp (nI n) str rdl rds off del arr ++ (zc_C c0 q v sv loc slw wst ++ (zp_W q r cB row ++ zc_S sv cS g))) ++ zy_O ou cJ fo) sz)) (zq_Q (dC, dI) vcl (some (.int 0)) ((zs_W o a b d cJ den rch pol exg xp (nI n) str rdl rds off del arr ++ (zc_C c0 q v sv loc slw wst ++ (zp_W q r cB row ++ zc_S sv cS g))) ++ zy_O ou cJ fo) ((zs_W o a b d cJ den rch pol exg xp (nI n) str rdl rds off del arr ++ (zc_C c0 q v sv loc slw wst ++ (zp_W q r cB row ++ zc_S sv cS g))) ++ zy_O ou cJ (vp_updL fo 0 (Int32.toInt64 (zc_rea den rch)))) sz) zy_X 1 6 (va_A ((zs_W o a b d cJ den rch pol exg xp (nI n) str rdl rds off del arr ++ (zc_C c0 q v sv loc slw wst ++ (zp_W q r cB row ++ zc_S sv cS g))) ++ zy_O ou cJ fo) sz) := by
  refine vx_ofWH (cc := cL_reach) (maxL := 4) (ret := (some .int)) (hh := hhL_reach) (by decide) rfl ?_
  intro p e s m args below meth c s₁ B hml hv
  obtain ⟨rfl, ⟨⟨hsz, hT, hP, hK, hD0⟩, hN, hZ⟩, hC⟩ := hv
  subst hsz
  have htb := vx_table (x := yL_reach) B (hT.w th_L_reach.1)
  have hx := B.exec
  have hb := B.bytes
  have hr := B.returns
  have hlocks := B.notSynchronized
  have hown : s.vm.findClass RL = some m.cls := findClass_of_methodNamed B.named
  have hD := hD0.self (sz := s.heap.size)
  generalize hAe : va_A ((zs_W o a b d cJ den rch pol exg xp (nI n) str rdl rds off del arr ++ (zc_C c0 q v sv loc slw wst ++ (zp_W q r cB row ++ zc_S sv cS g))) ++ zy_O ou cJ fo) s.heap.size = A at hD hZ ⊢
  have hA : ∀ q : Nat, s.heap.size ≤ q → A q := fun q h => by rw [← hAe]; exact Or.inr h
  have hS : va_S A s.heap s.heap [] := va_S.rf
  have hl := lv_entry ([.ref c0, .int (nI k), .ref ou]) (n := 4) (Nat.le_of_ble_eq_true rfl)
  rw [lg_entry_eq]
  generalize (lg_sl ([.ref c0, .int (nI k), .ref ou]) ++ List.replicate (4 - (lg_sl ([.ref c0, .int (nI k), .ref ou])).length) Slot.unset).toArray = ls at hl ⊢
  have hl : lv_has ls 4 [(0, .ref c0), (1, .int (nI k)), (2, .ref ou)] := hl
  refine lv_aload_n hx hb dL_reach_0 rfl (lv_at hl 2 rfl) ?_
  refine lv_iconst (v := 0) hx hb dL_reach_1 (by decide) ?_
  refine lv_aload_n hx hb dL_reach_2 rfl (lv_at hl 0 rfl) ?_
  refine lv_iload_n hx hb dL_reach_3 rfl (lv_at hl 1 rfl) ?_
  refine zz_call (va_runV (Ts := []) (As := [.int (nI k)]) (own := RL) ⟨hx, hb, hml, hown, fun _ h => nomatch h⟩ (ct_C_reach l hk hg) (zt_cv hT tc_C_reach tv_C_reach tw_443 ⟨Nat.le_of_ble_eq_true rfl, Nat.le_of_ble_eq_true rfl⟩) (zz_preV (q0 := 4) hT (zq_Pl hP) hK rfl rfl) rfl rfl hl.1 rfl (lv_room (Nat.le_of_ble_eq_true rfl)) dL_reach_4 ⟨Nat.zero_le _, Nat.zero_le _⟩) ?_
  refine lv_i2l (v := Int32.toInt64 (zc_rea den rch)) hx hb dL_reach_7 rfl ?_
  refine zq_last hx hb hK hP hD hS 8 0 rfl rfl 0 rfl (by first | omega | decide | assumption) (by decide) dL_reach_8 (fun H locs hP hD hS => ?_)
  have hP : va_P (dC, dI) vcl ((zs_W o a b d cJ den rch pol exg xp (nI n) str rdl rds off del arr ++ (zc_C c0 q v sv loc slw wst ++ (zp_W q r cB row ++ zc_S sv cS g))) ++ zy_O ou cJ (vp_updL fo 0 (Int32.toInt64 (zc_rea den rch)))) H := hP
  have hD : va_D A ((zs_W o a b d cJ den rch pol exg xp (nI n) str rdl rds off del arr ++ (zc_C c0 q v sv loc slw wst ++ (zp_W q r cB row ++ zc_S sv cS g))) ++ zy_O ou cJ (vp_updL fo 0 (Int32.toInt64 (zc_rea den rch)))) := hD
  refine lv_goto (tgt := 15) hx hb dL_reach_9 (by decide) ?_
  refine lv_iconst (v := 0) hx hb dL_reach_15 (by decide) ?_
  exact zy_iret hx hb hr hlocks dL_reach_16 (rfl) (Nat.le_of_ble_eq_true rfl) (Nat.le_of_ble_eq_true rfl) hAe hP hD hS
set_option maxHeartbeats 4000000 in
set_option maxRecDepth 100000 in
theorem ct_L_poll_no (l : Launch) (hlt : l.stackTraces = false) {dC : Nat → ClassId} {dI : Nat → Nat → Nat} {cJ cI cB cZ cS : ClassId} {sz : Nat} {c0 q v sv : Nat} {loc slw : Int64} {wst : Int32} {ou : Nat} {fo : Nat → Int64} {k : Int32} (hk : k < 0 ∨ ¬ k < 5) : vx_Met l yL_poll [Cond.codeWith yL_poll cL_poll 4 (some .int) hhL_poll] { frames := 8, cells := 1, slots := 6, locals := 123 } (va_Pc [.ref c0, .int k, .ref ou] (zy_B (dC, dI) vcl (zz_T cJ cI cB cZ cS) ((zc_C c0 q v sv loc slw wst) ++ zy_O ou cJ fo) sz)) (zq_Q (dC, dI) vcl (some (.int 1)) ((zc_C c0 q v sv loc slw wst) ++ zy_O ou cJ fo) ((zc_C c0 q v sv loc slw wst) ++ zy_O ou cJ fo) sz) zy_X 1 6 (va_A ((zc_C c0 q v sv loc slw wst) ++ zy_O ou cJ fo) sz) := by
  refine vx_ofWH (cc := cL_poll) (maxL := 4) (ret := (some .int)) (hh := hhL_poll) (by decide) rfl ?_
  intro p e s m args below meth c s₁ B hml hv
  obtain ⟨rfl, ⟨⟨hsz, hT, hP, hK, hD0⟩, hN, hZ⟩, hC⟩ := hv
  subst hsz
  have htb := vx_table (x := yL_poll) B (hT.w th_L_poll.1)
  have hx := B.exec
  have hb := B.bytes
  have hr := B.returns
  have hlocks := B.notSynchronized
  have hown : s.vm.findClass RL = some m.cls := findClass_of_methodNamed B.named
  have hD := hD0.self (sz := s.heap.size)
  generalize hAe : va_A ((zc_C c0 q v sv loc slw wst) ++ zy_O ou cJ fo) s.heap.size = A at hD hZ ⊢
  have hA : ∀ q : Nat, s.heap.size ≤ q → A q := fun q h => by rw [← hAe]; exact Or.inr h
  have hS : va_S A s.heap s.heap [] := va_S.rf
  have hl := lv_entry ([.ref c0, .int k, .ref ou]) (n := 4) (Nat.le_of_ble_eq_true rfl)
  rw [lg_entry_eq]
  generalize (lg_sl ([.ref c0, .int k, .ref ou]) ++ List.replicate (4 - (lg_sl ([.ref c0, .int k, .ref ou])).length) Slot.unset).toArray = ls at hl ⊢
  have hl : lv_has ls 4 [(0, .ref c0), (1, .int k), (2, .ref ou)] := hl
  refine lv_aload_n hx hb dL_poll_0 rfl (lv_at hl 2 rfl) ?_
  refine lv_iconst (v := 0) hx hb dL_poll_1 (by decide) ?_
  refine lv_aload_n hx hb dL_poll_2 rfl (lv_at hl 0 rfl) ?_
  refine lv_iload_n hx hb dL_poll_3 rfl (lv_at hl 1 rfl) ?_
  refine zy_caught (x := ⟨0, 9, 12, 19⟩) (pre := []) (suf := []) htb rfl hown hT hN zy_p0 (by decide) (by decide) tw_311 tw_318 (List.Perm.refl _) (List.Perm.refl _) hA hP hD hS (vx_runV (Ts := []) (As := [.int k]) (own := RL) ⟨hx, hb, hml, hown, fun _ h => nomatch h⟩ (ct_C_poll_no l hlt hk) (zt_cv hT tc_C_poll tv_C_poll tw_450 ⟨Nat.le_of_ble_eq_true rfl, Nat.le_of_ble_eq_true rfl⟩) (zx_preV (q0 := 0) hT (zq_Pl hP) hK (zq_Dl hD) hN hZ hS hA rfl rfl) rfl rfl hl.1 rfl (lv_room (Nat.le_of_ble_eq_true rfl)) dL_poll_4 ⟨Nat.le_of_ble_eq_true rfl, Nat.le_of_ble_eq_true rfl⟩) (fun _ _ _ h => h) (fun q9 H locs hP hD hS => ?_)
  have hP : va_P (dC, dI) vcl ((zc_C c0 q v sv loc slw wst) ++ zy_O ou cJ fo) H := hP
  have hD : va_D A ((zc_C c0 q v sv loc slw wst) ++ zy_O ou cJ fo) := hD
  refine W.eq (g2 := F0 m 12 ls [.ref q9]) rfl ?_
  refine lv_astore_n (lv' := [(3, .ref q9), (0, .ref c0), (1, .int k), (2, .ref ou)]) hx hb dL_poll_12 rfl hl (by decide) rfl (fun ls hl => ?_)
  refine lv_iconst (v := 1) hx hb dL_poll_13 (by decide) ?_
  exact zy_iret hx hb hr hlocks dL_poll_14 (rfl) (Nat.le_of_ble_eq_true rfl) (Nat.le_of_ble_eq_true rfl) hAe hP hD hS
set_option maxHeartbeats 4000000 in
set_option maxRecDepth 100000 in
theorem ct_L_poll_ok (l : Launch) (hlt : l.stackTraces = false) {dC : Nat → ClassId} {dI : Nat → Nat → Nat} {cJ cI cB cZ cS : ClassId} {sz : Nat} {o a b d : Nat} {den rch pol exg str : Int32} {xp rdl rds : Int64} {off del arr : Nat → Int64} {n : Nat} {c0 q r v sv : Nat} {g : Nat → Option Nat} {loc slw : Int64} {wst : Int32} {row : Nat → Int32} {k : Nat} (hk : k < 5) (hg : g k = some o) {ou : Nat} {fo : Nat → Int64}  : vx_Met l yL_poll [Cond.codeWith yL_poll cL_poll 4 (some .int) hhL_poll] { frames := 2, cells := 1, slots := 6, locals := 42 } (va_Pc [.ref c0, .int (nI k), .ref ou] (zy_B (dC, dI) vcl (zz_T cJ cI cB cZ cS) ((zs_W o a b d cJ den rch pol exg xp (nI n) str rdl rds off del arr ++ (zc_C c0 q v sv loc slw wst ++ (zp_W q r cB row ++ zc_S sv cS g))) ++ zy_O ou cJ fo) sz)) (zq_Q (dC, dI) vcl (some (.int 0)) ((zs_W o a b d cJ den rch pol exg xp (nI n) str rdl rds off del arr ++ (zc_C c0 q v sv loc slw wst ++ (zp_W q r cB row ++ zc_S sv cS g))) ++ zy_O ou cJ fo) ((zs_W o a b d cJ den rch pol exg xp (nI n) str rdl rds off del arr ++ (zc_C c0 q v sv loc slw wst ++ (zp_W q r cB row ++ zc_S sv cS g))) ++ zy_O ou cJ (vp_updL fo 0 (Int32.toInt64 pol))) sz) zy_X 1 6 (va_A ((zs_W o a b d cJ den rch pol exg xp (nI n) str rdl rds off del arr ++ (zc_C c0 q v sv loc slw wst ++ (zp_W q r cB row ++ zc_S sv cS g))) ++ zy_O ou cJ fo) sz) := by
  refine vx_ofWH (cc := cL_poll) (maxL := 4) (ret := (some .int)) (hh := hhL_poll) (by decide) rfl ?_
  intro p e s m args below meth c s₁ B hml hv
  obtain ⟨rfl, ⟨⟨hsz, hT, hP, hK, hD0⟩, hN, hZ⟩, hC⟩ := hv
  subst hsz
  have htb := vx_table (x := yL_poll) B (hT.w th_L_poll.1)
  have hx := B.exec
  have hb := B.bytes
  have hr := B.returns
  have hlocks := B.notSynchronized
  have hown : s.vm.findClass RL = some m.cls := findClass_of_methodNamed B.named
  have hD := hD0.self (sz := s.heap.size)
  generalize hAe : va_A ((zs_W o a b d cJ den rch pol exg xp (nI n) str rdl rds off del arr ++ (zc_C c0 q v sv loc slw wst ++ (zp_W q r cB row ++ zc_S sv cS g))) ++ zy_O ou cJ fo) s.heap.size = A at hD hZ ⊢
  have hA : ∀ q : Nat, s.heap.size ≤ q → A q := fun q h => by rw [← hAe]; exact Or.inr h
  have hS : va_S A s.heap s.heap [] := va_S.rf
  have hl := lv_entry ([.ref c0, .int (nI k), .ref ou]) (n := 4) (Nat.le_of_ble_eq_true rfl)
  rw [lg_entry_eq]
  generalize (lg_sl ([.ref c0, .int (nI k), .ref ou]) ++ List.replicate (4 - (lg_sl ([.ref c0, .int (nI k), .ref ou])).length) Slot.unset).toArray = ls at hl ⊢
  have hl : lv_has ls 4 [(0, .ref c0), (1, .int (nI k)), (2, .ref ou)] := hl
  refine lv_aload_n hx hb dL_poll_0 rfl (lv_at hl 2 rfl) ?_
  refine lv_iconst (v := 0) hx hb dL_poll_1 (by decide) ?_
  refine lv_aload_n hx hb dL_poll_2 rfl (lv_at hl 0 rfl) ?_
  refine lv_iload_n hx hb dL_poll_3 rfl (lv_at hl 1 rfl) ?_
  refine zz_call (va_runV (Ts := []) (As := [.int (nI k)]) (own := RL) ⟨hx, hb, hml, hown, fun _ h => nomatch h⟩ (ct_C_poll l hk hg) (zt_cv hT tc_C_poll tv_C_poll tw_450 ⟨Nat.le_of_ble_eq_true rfl, Nat.le_of_ble_eq_true rfl⟩) (zz_preV (q0 := 4) hT (zq_Pl hP) hK rfl rfl) rfl rfl hl.1 rfl (lv_room (Nat.le_of_ble_eq_true rfl)) dL_poll_4 ⟨Nat.zero_le _, Nat.zero_le _⟩) ?_
  refine lv_i2l (v := Int32.toInt64 pol) hx hb dL_poll_7 rfl ?_
  refine zq_last hx hb hK hP hD hS 8 0 rfl rfl 0 rfl (by first | omega | decide | assumption) (by decide) dL_poll_8 (fun H locs hP hD hS => ?_)
  have hP : va_P (dC, dI) vcl ((zs_W o a b d cJ den rch pol exg xp (nI n) str rdl rds off del arr ++ (zc_C c0 q v sv loc slw wst ++ (zp_W q r cB row ++ zc_S sv cS g))) ++ zy_O ou cJ (vp_updL fo 0 (Int32.toInt64 pol))) H := hP
  have hD : va_D A ((zs_W o a b d cJ den rch pol exg xp (nI n) str rdl rds off del arr ++ (zc_C c0 q v sv loc slw wst ++ (zp_W q r cB row ++ zc_S sv cS g))) ++ zy_O ou cJ (vp_updL fo 0 (Int32.toInt64 pol))) := hD
  refine lv_goto (tgt := 15) hx hb dL_poll_9 (by decide) ?_
  refine lv_iconst (v := 0) hx hb dL_poll_15 (by decide) ?_
  exact zy_iret hx hb hr hlocks dL_poll_16 (rfl) (Nat.le_of_ble_eq_true rfl) (Nat.le_of_ble_eq_true rfl) hAe hP hD hS
set_option maxHeartbeats 4000000 in
set_option maxRecDepth 100000 in
theorem ct_L_samples_no (l : Launch) (hlt : l.stackTraces = false) {dC : Nat → ClassId} {dI : Nat → Nat → Nat} {cJ cI cB cZ cS : ClassId} {sz : Nat} {c0 q v sv : Nat} {loc slw : Int64} {wst : Int32} {ou : Nat} {fo : Nat → Int64} {k : Int32} (hk : k < 0 ∨ ¬ k < 5) : vx_Met l yL_samples [Cond.codeWith yL_samples cL_samples 4 (some .int) hhL_samples] { frames := 8, cells := 1, slots := 6, locals := 123 } (va_Pc [.ref c0, .int k, .ref ou] (zy_B (dC, dI) vcl (zz_T cJ cI cB cZ cS) ((zc_C c0 q v sv loc slw wst) ++ zy_O ou cJ fo) sz)) (zq_Q (dC, dI) vcl (some (.int 1)) ((zc_C c0 q v sv loc slw wst) ++ zy_O ou cJ fo) ((zc_C c0 q v sv loc slw wst) ++ zy_O ou cJ fo) sz) zy_X 1 6 (va_A ((zc_C c0 q v sv loc slw wst) ++ zy_O ou cJ fo) sz) := by
  refine vx_ofWH (cc := cL_samples) (maxL := 4) (ret := (some .int)) (hh := hhL_samples) (by decide) rfl ?_
  intro p e s m args below meth c s₁ B hml hv
  obtain ⟨rfl, ⟨⟨hsz, hT, hP, hK, hD0⟩, hN, hZ⟩, hC⟩ := hv
  subst hsz
  have htb := vx_table (x := yL_samples) B (hT.w th_L_samples.1)
  have hx := B.exec
  have hb := B.bytes
  have hr := B.returns
  have hlocks := B.notSynchronized
  have hown : s.vm.findClass RL = some m.cls := findClass_of_methodNamed B.named
  have hD := hD0.self (sz := s.heap.size)
  generalize hAe : va_A ((zc_C c0 q v sv loc slw wst) ++ zy_O ou cJ fo) s.heap.size = A at hD hZ ⊢
  have hA : ∀ q : Nat, s.heap.size ≤ q → A q := fun q h => by rw [← hAe]; exact Or.inr h
  have hS : va_S A s.heap s.heap [] := va_S.rf
  have hl := lv_entry ([.ref c0, .int k, .ref ou]) (n := 4) (Nat.le_of_ble_eq_true rfl)
  rw [lg_entry_eq]
  generalize (lg_sl ([.ref c0, .int k, .ref ou]) ++ List.replicate (4 - (lg_sl ([.ref c0, .int k, .ref ou])).length) Slot.unset).toArray = ls at hl ⊢
  have hl : lv_has ls 4 [(0, .ref c0), (1, .int k), (2, .ref ou)] := hl
  refine lv_aload_n hx hb dL_samples_0 rfl (lv_at hl 2 rfl) ?_
  refine lv_iconst (v := 0) hx hb dL_samples_1 (by decide) ?_
  refine lv_aload_n hx hb dL_samples_2 rfl (lv_at hl 0 rfl) ?_
  refine lv_iload_n hx hb dL_samples_3 rfl (lv_at hl 1 rfl) ?_
  refine zy_caught (x := ⟨0, 9, 12, 19⟩) (pre := []) (suf := []) htb rfl hown hT hN zy_p0 (by decide) (by decide) tw_311 tw_318 (List.Perm.refl _) (List.Perm.refl _) hA hP hD hS (vx_runV (Ts := []) (As := [.int k]) (own := RL) ⟨hx, hb, hml, hown, fun _ h => nomatch h⟩ (ct_C_samples_no l hlt hk) (zt_cv hT tc_C_samples tv_C_samples tw_457 ⟨Nat.le_of_ble_eq_true rfl, Nat.le_of_ble_eq_true rfl⟩) (zx_preV (q0 := 0) hT (zq_Pl hP) hK (zq_Dl hD) hN hZ hS hA rfl rfl) rfl rfl hl.1 rfl (lv_room (Nat.le_of_ble_eq_true rfl)) dL_samples_4 ⟨Nat.le_of_ble_eq_true rfl, Nat.le_of_ble_eq_true rfl⟩) (fun _ _ _ h => h) (fun q9 H locs hP hD hS => ?_)
  have hP : va_P (dC, dI) vcl ((zc_C c0 q v sv loc slw wst) ++ zy_O ou cJ fo) H := hP
  have hD : va_D A ((zc_C c0 q v sv loc slw wst) ++ zy_O ou cJ fo) := hD
  refine W.eq (g2 := F0 m 12 ls [.ref q9]) rfl ?_
  refine lv_astore_n (lv' := [(3, .ref q9), (0, .ref c0), (1, .int k), (2, .ref ou)]) hx hb dL_samples_12 rfl hl (by decide) rfl (fun ls hl => ?_)
  refine lv_iconst (v := 1) hx hb dL_samples_13 (by decide) ?_
  exact zy_iret hx hb hr hlocks dL_samples_14 (rfl) (Nat.le_of_ble_eq_true rfl) (Nat.le_of_ble_eq_true rfl) hAe hP hD hS
set_option maxHeartbeats 4000000 in
set_option maxRecDepth 100000 in
theorem ct_L_samples_ok (l : Launch) (hlt : l.stackTraces = false) {dC : Nat → ClassId} {dI : Nat → Nat → Nat} {cJ cI cB cZ cS : ClassId} {sz : Nat} {o a b d : Nat} {den rch pol exg str : Int32} {xp rdl rds : Int64} {off del arr : Nat → Int64} {n : Nat} {c0 q r v sv : Nat} {g : Nat → Option Nat} {loc slw : Int64} {wst : Int32} {row : Nat → Int32} {k : Nat} (hk : k < 5) (hg : g k = some o) {ou : Nat} {fo : Nat → Int64}  : vx_Met l yL_samples [Cond.codeWith yL_samples cL_samples 4 (some .int) hhL_samples] { frames := 2, cells := 1, slots := 6, locals := 42 } (va_Pc [.ref c0, .int (nI k), .ref ou] (zy_B (dC, dI) vcl (zz_T cJ cI cB cZ cS) ((zs_W o a b d cJ den rch pol exg xp (nI n) str rdl rds off del arr ++ (zc_C c0 q v sv loc slw wst ++ (zp_W q r cB row ++ zc_S sv cS g))) ++ zy_O ou cJ fo) sz)) (zq_Q (dC, dI) vcl (some (.int 0)) ((zs_W o a b d cJ den rch pol exg xp (nI n) str rdl rds off del arr ++ (zc_C c0 q v sv loc slw wst ++ (zp_W q r cB row ++ zc_S sv cS g))) ++ zy_O ou cJ fo) ((zs_W o a b d cJ den rch pol exg xp (nI n) str rdl rds off del arr ++ (zc_C c0 q v sv loc slw wst ++ (zp_W q r cB row ++ zc_S sv cS g))) ++ zy_O ou cJ (vp_updL fo 0 (Int32.toInt64 (nI n)))) sz) zy_X 1 6 (va_A ((zs_W o a b d cJ den rch pol exg xp (nI n) str rdl rds off del arr ++ (zc_C c0 q v sv loc slw wst ++ (zp_W q r cB row ++ zc_S sv cS g))) ++ zy_O ou cJ fo) sz) := by
  refine vx_ofWH (cc := cL_samples) (maxL := 4) (ret := (some .int)) (hh := hhL_samples) (by decide) rfl ?_
  intro p e s m args below meth c s₁ B hml hv
  obtain ⟨rfl, ⟨⟨hsz, hT, hP, hK, hD0⟩, hN, hZ⟩, hC⟩ := hv
  subst hsz
  have htb := vx_table (x := yL_samples) B (hT.w th_L_samples.1)
  have hx := B.exec
  have hb := B.bytes
  have hr := B.returns
  have hlocks := B.notSynchronized
  have hown : s.vm.findClass RL = some m.cls := findClass_of_methodNamed B.named
  have hD := hD0.self (sz := s.heap.size)
  generalize hAe : va_A ((zs_W o a b d cJ den rch pol exg xp (nI n) str rdl rds off del arr ++ (zc_C c0 q v sv loc slw wst ++ (zp_W q r cB row ++ zc_S sv cS g))) ++ zy_O ou cJ fo) s.heap.size = A at hD hZ ⊢
  have hA : ∀ q : Nat, s.heap.size ≤ q → A q := fun q h => by rw [← hAe]; exact Or.inr h
  have hS : va_S A s.heap s.heap [] := va_S.rf
  have hl := lv_entry ([.ref c0, .int (nI k), .ref ou]) (n := 4) (Nat.le_of_ble_eq_true rfl)
  rw [lg_entry_eq]
  generalize (lg_sl ([.ref c0, .int (nI k), .ref ou]) ++ List.replicate (4 - (lg_sl ([.ref c0, .int (nI k), .ref ou])).length) Slot.unset).toArray = ls at hl ⊢
  have hl : lv_has ls 4 [(0, .ref c0), (1, .int (nI k)), (2, .ref ou)] := hl
  refine lv_aload_n hx hb dL_samples_0 rfl (lv_at hl 2 rfl) ?_
  refine lv_iconst (v := 0) hx hb dL_samples_1 (by decide) ?_
  refine lv_aload_n hx hb dL_samples_2 rfl (lv_at hl 0 rfl) ?_
  refine lv_iload_n hx hb dL_samples_3 rfl (lv_at hl 1 rfl) ?_
  refine zz_call (va_runV (Ts := []) (As := [.int (nI k)]) (own := RL) ⟨hx, hb, hml, hown, fun _ h => nomatch h⟩ (ct_C_samples l hk hg) (zt_cv hT tc_C_samples tv_C_samples tw_457 ⟨Nat.le_of_ble_eq_true rfl, Nat.le_of_ble_eq_true rfl⟩) (zz_preV (q0 := 4) hT (zq_Pl hP) hK rfl rfl) rfl rfl hl.1 rfl (lv_room (Nat.le_of_ble_eq_true rfl)) dL_samples_4 ⟨Nat.zero_le _, Nat.zero_le _⟩) ?_
  refine lv_i2l (v := Int32.toInt64 (nI n)) hx hb dL_samples_7 rfl ?_
  refine zq_last hx hb hK hP hD hS 8 0 rfl rfl 0 rfl (by first | omega | decide | assumption) (by decide) dL_samples_8 (fun H locs hP hD hS => ?_)
  have hP : va_P (dC, dI) vcl ((zs_W o a b d cJ den rch pol exg xp (nI n) str rdl rds off del arr ++ (zc_C c0 q v sv loc slw wst ++ (zp_W q r cB row ++ zc_S sv cS g))) ++ zy_O ou cJ (vp_updL fo 0 (Int32.toInt64 (nI n)))) H := hP
  have hD : va_D A ((zs_W o a b d cJ den rch pol exg xp (nI n) str rdl rds off del arr ++ (zc_C c0 q v sv loc slw wst ++ (zp_W q r cB row ++ zc_S sv cS g))) ++ zy_O ou cJ (vp_updL fo 0 (Int32.toInt64 (nI n)))) := hD
  refine lv_goto (tgt := 15) hx hb dL_samples_9 (by decide) ?_
  refine lv_iconst (v := 0) hx hb dL_samples_15 (by decide) ?_
  exact zy_iret hx hb hr hlocks dL_samples_16 (rfl) (Nat.le_of_ble_eq_true rfl) (Nat.le_of_ble_eq_true rfl) hAe hP hD hS
set_option maxHeartbeats 4000000 in
set_option maxRecDepth 100000 in
theorem ct_L_offset_no (l : Launch) (hlt : l.stackTraces = false) {dC : Nat → ClassId} {dI : Nat → Nat → Nat} {cJ cI cB cZ cS : ClassId} {sz : Nat} {c0 q v sv : Nat} {loc slw : Int64} {wst : Int32} {ou : Nat} {fo : Nat → Int64} {k : Int32} (hk : k < 0 ∨ ¬ k < 5) : vx_Met l yL_offset [Cond.codeWith yL_offset cL_offset 4 (some .int) hhL_offset] { frames := 9, cells := 1, slots := 6, locals := 145 } (va_Pc [.ref c0, .int k, .ref ou] (zy_B (dC, dI) vcl (zz_T cJ cI cB cZ cS) ((zc_C c0 q v sv loc slw wst) ++ zy_O ou cJ fo) sz)) (zq_Q (dC, dI) vcl (some (.int 1)) ((zc_C c0 q v sv loc slw wst) ++ zy_O ou cJ fo) ((zc_C c0 q v sv loc slw wst) ++ zy_O ou cJ fo) sz) zy_X 1 6 (va_A ((zc_C c0 q v sv loc slw wst) ++ zy_O ou cJ fo) sz) := by
  refine vx_ofWH (cc := cL_offset) (maxL := 4) (ret := (some .int)) (hh := hhL_offset) (by decide) rfl ?_
  intro p e s m args below meth c s₁ B hml hv
  obtain ⟨rfl, ⟨⟨hsz, hT, hP, hK, hD0⟩, hN, hZ⟩, hC⟩ := hv
  subst hsz
  have htb := vx_table (x := yL_offset) B (hT.w th_L_offset.1)
  have hx := B.exec
  have hb := B.bytes
  have hr := B.returns
  have hlocks := B.notSynchronized
  have hown : s.vm.findClass RL = some m.cls := findClass_of_methodNamed B.named
  have hD := hD0.self (sz := s.heap.size)
  generalize hAe : va_A ((zc_C c0 q v sv loc slw wst) ++ zy_O ou cJ fo) s.heap.size = A at hD hZ ⊢
  have hA : ∀ q : Nat, s.heap.size ≤ q → A q := fun q h => by rw [← hAe]; exact Or.inr h
  have hS : va_S A s.heap s.heap [] := va_S.rf
  have hl := lv_entry ([.ref c0, .int k, .ref ou]) (n := 4) (Nat.le_of_ble_eq_true rfl)
  rw [lg_entry_eq]
  generalize (lg_sl ([.ref c0, .int k, .ref ou]) ++ List.replicate (4 - (lg_sl ([.ref c0, .int k, .ref ou])).length) Slot.unset).toArray = ls at hl ⊢
  have hl : lv_has ls 4 [(0, .ref c0), (1, .int k), (2, .ref ou)] := hl
  refine lv_aload_n hx hb dL_offset_0 rfl (lv_at hl 2 rfl) ?_
  refine lv_iconst (v := 0) hx hb dL_offset_1 (by decide) ?_
  refine lv_aload_n hx hb dL_offset_2 rfl (lv_at hl 0 rfl) ?_
  refine lv_iload_n hx hb dL_offset_3 rfl (lv_at hl 1 rfl) ?_
  refine zy_caught (x := ⟨0, 8, 11, 19⟩) (pre := []) (suf := [⟨0, 8, 14, 47⟩]) htb rfl hown hT hN zy_p0 (by decide) (by decide) tw_311 tw_318 (List.Perm.refl _) (List.Perm.refl _) hA hP hD hS (vx_runV (Ts := []) (As := [.int k]) (own := RL) ⟨hx, hb, hml, hown, fun _ h => nomatch h⟩ (ct_C_offset_no l hlt hk) (zt_cv hT tc_C_offset tv_C_offset tw_465 ⟨Nat.le_of_ble_eq_true rfl, Nat.le_of_ble_eq_true rfl⟩) (zx_preV (q0 := 0) hT (zq_Pl hP) hK (zq_Dl hD) hN hZ hS hA rfl rfl) rfl rfl hl.1 rfl (lv_room (Nat.le_of_ble_eq_true rfl)) dL_offset_4 ⟨Nat.le_of_ble_eq_true rfl, Nat.le_of_ble_eq_true rfl⟩) (fun _ _ _ h => h) (fun q9 H locs hP hD hS => ?_)
  have hP : va_P (dC, dI) vcl ((zc_C c0 q v sv loc slw wst) ++ zy_O ou cJ fo) H := hP
  have hD : va_D A ((zc_C c0 q v sv loc slw wst) ++ zy_O ou cJ fo) := hD
  refine W.eq (g2 := F0 m 11 ls [.ref q9]) rfl ?_
  refine lv_astore_n (lv' := [(3, .ref q9), (0, .ref c0), (1, .int k), (2, .ref ou)]) hx hb dL_offset_11 rfl hl (by decide) rfl (fun ls hl => ?_)
  refine lv_iconst (v := 1) hx hb dL_offset_12 (by decide) ?_
  exact zy_iret hx hb hr hlocks dL_offset_13 (rfl) (Nat.le_of_ble_eq_true rfl) (Nat.le_of_ble_eq_true rfl) hAe hP hD hS
set_option maxHeartbeats 4000000 in
set_option maxRecDepth 100000 in
theorem ct_L_offset_0 (l : Launch) (hlt : l.stackTraces = false) {dC : Nat → ClassId} {dI : Nat → Nat → Nat} {cJ cI cB cZ cS : ClassId} {sz : Nat} {o a b d : Nat} {den rch pol exg str : Int32} {xp rdl rds : Int64} {off del arr : Nat → Int64} {n : Nat} {c0 q r v sv : Nat} {g : Nat → Option Nat} {loc slw : Int64} {wst : Int32} {row : Nat → Int32} {k : Nat} (hk : k < 5) (hg : g k = some o) {ou : Nat} {fo : Nat → Int64} (h0 : n = 0) : vx_Met l yL_offset [Cond.codeWith yL_offset cL_offset 4 (some .int) hhL_offset] { frames := 8, cells := 1, slots := 6, locals := 124 } (va_Pc [.ref c0, .int (nI k), .ref ou] (zy_B (dC, dI) vcl (zz_T cJ cI cB cZ cS) ((zs_W o a b d cJ den rch pol exg xp (nI n) str rdl rds off del arr ++ (zc_C c0 q v sv loc slw wst ++ (zp_W q r cB row ++ zc_S sv cS g))) ++ zy_O ou cJ fo) sz)) (zq_Q (dC, dI) vcl (some (.int 2)) ((zs_W o a b d cJ den rch pol exg xp (nI n) str rdl rds off del arr ++ (zc_C c0 q v sv loc slw wst ++ (zp_W q r cB row ++ zc_S sv cS g))) ++ zy_O ou cJ fo) ((zs_W o a b d cJ den rch pol exg xp (nI n) str rdl rds off del arr ++ (zc_C c0 q v sv loc slw wst ++ (zp_W q r cB row ++ zc_S sv cS g))) ++ zy_O ou cJ fo) sz) zy_X 1 6 (va_A ((zs_W o a b d cJ den rch pol exg xp (nI n) str rdl rds off del arr ++ (zc_C c0 q v sv loc slw wst ++ (zp_W q r cB row ++ zc_S sv cS g))) ++ zy_O ou cJ fo) sz) := by
  refine vx_ofWH (cc := cL_offset) (maxL := 4) (ret := (some .int)) (hh := hhL_offset) (by decide) rfl ?_
  intro p e s m args below meth c s₁ B hml hv
  obtain ⟨rfl, ⟨⟨hsz, hT, hP, hK, hD0⟩, hN, hZ⟩, hC⟩ := hv
  subst hsz
  have htb := vx_table (x := yL_offset) B (hT.w th_L_offset.1)
  have hx := B.exec
  have hb := B.bytes
  have hr := B.returns
  have hlocks := B.notSynchronized
  have hown : s.vm.findClass RL = some m.cls := findClass_of_methodNamed B.named
  have hD := hD0.self (sz := s.heap.size)
  generalize hAe : va_A ((zs_W o a b d cJ den rch pol exg xp (nI n) str rdl rds off del arr ++ (zc_C c0 q v sv loc slw wst ++ (zp_W q r cB row ++ zc_S sv cS g))) ++ zy_O ou cJ fo) s.heap.size = A at hD hZ ⊢
  have hA : ∀ q : Nat, s.heap.size ≤ q → A q := fun q h => by rw [← hAe]; exact Or.inr h
  have hS : va_S A s.heap s.heap [] := va_S.rf
  have hl := lv_entry ([.ref c0, .int (nI k), .ref ou]) (n := 4) (Nat.le_of_ble_eq_true rfl)
  rw [lg_entry_eq]
  generalize (lg_sl ([.ref c0, .int (nI k), .ref ou]) ++ List.replicate (4 - (lg_sl ([.ref c0, .int (nI k), .ref ou])).length) Slot.unset).toArray = ls at hl ⊢
  have hl : lv_has ls 4 [(0, .ref c0), (1, .int (nI k)), (2, .ref ou)] := hl
  refine lv_aload_n hx hb dL_offset_0 rfl (lv_at hl 2 rfl) ?_
  refine lv_iconst (v := 0) hx hb dL_offset_1 (by decide) ?_
  refine lv_aload_n hx hb dL_offset_2 rfl (lv_at hl 0 rfl) ?_
  refine lv_iload_n hx hb dL_offset_3 rfl (lv_at hl 1 rfl) ?_
  refine zy_caught (x := ⟨0, 8, 14, 47⟩) (pre := [⟨0, 8, 11, 19⟩]) (suf := []) htb rfl hown hT hN (zy_pc (Or.inr ⟨by decide, _, hT.w tw_311, hC.2.2.2.2.1⟩) zy_p0) (by decide) (by decide) tw_464 tw_475 (List.Perm.refl _) (List.Perm.refl _) hA hP hD hS (vx_runV (Ts := []) (As := [.int (nI k)]) (own := RL) ⟨hx, hb, hml, hown, fun _ h => nomatch h⟩ (ct_C_offset_0 l hlt hk hg h0) (zt_cv hT tc_C_offset tv_C_offset tw_465 ⟨Nat.le_of_ble_eq_true rfl, Nat.le_of_ble_eq_true rfl⟩) (zx_preV (q0 := 4) hT (zq_Pl hP) hK (zq_Dl hD) hN hZ hS hA rfl rfl) rfl rfl hl.1 rfl (lv_room (Nat.le_of_ble_eq_true rfl)) dL_offset_4 ⟨Nat.le_of_ble_eq_true rfl, Nat.le_of_ble_eq_true rfl⟩) (fun _ _ _ h => h) (fun q9 H locs hP hD hS => ?_)
  have hP : va_P (dC, dI) vcl ((zs_W o a b d cJ den rch pol exg xp (nI n) str rdl rds off del arr ++ (zc_C c0 q v sv loc slw wst ++ (zp_W q r cB row ++ zc_S sv cS g))) ++ zy_O ou cJ fo) H := hP
  have hD : va_D A ((zs_W o a b d cJ den rch pol exg xp (nI n) str rdl rds off del arr ++ (zc_C c0 q v sv loc slw wst ++ (zp_W q r cB row ++ zc_S sv cS g))) ++ zy_O ou cJ fo) := hD
  refine W.eq (g2 := F0 m 14 ls [.ref q9]) rfl ?_
  refine lv_astore_n (lv' := [(3, .ref q9), (0, .ref c0), (1, .int (nI k)), (2, .ref ou)]) hx hb dL_offset_14 rfl hl (by decide) rfl (fun ls hl => ?_)
  refine lv_iconst (v := 2) hx hb dL_offset_15 (by decide) ?_
  exact zy_iret hx hb hr hlocks dL_offset_16 (rfl) (Nat.le_of_ble_eq_true rfl) (Nat.le_of_ble_eq_true rfl) hAe hP hD hS
set_option maxHeartbeats 4000000 in
set_option maxRecDepth 100000 in
theorem ct_L_offset_ok (l : Launch) (hlt : l.stackTraces = false) {dC : Nat → ClassId} {dI : Nat → Nat → Nat} {cJ cI cB cZ cS : ClassId} {sz : Nat} {o a b d : Nat} {den rch pol exg str : Int32} {xp rdl rds : Int64} {off del arr : Nat → Int64} {n : Nat} {c0 q r v sv : Nat} {g : Nat → Option Nat} {loc slw : Int64} {wst : Int32} {row : Nat → Int32} {k : Nat} (hk : k < 5) (hg : g k = some o) {ou : Nat} {fo : Nat → Int64} (h0 : ¬ n = 0) (hn : n ≤ 8) : vx_Met l yL_offset [Cond.codeWith yL_offset cL_offset 4 (some .int) hhL_offset] { frames := 5, cells := 1, slots := 6, locals := 117 } (va_Pc [.ref c0, .int (nI k), .ref ou] (zy_B (dC, dI) vcl (zz_T cJ cI cB cZ cS) ((zs_W o a b d cJ den rch pol exg xp (nI n) str rdl rds off del arr ++ (zc_C c0 q v sv loc slw wst ++ (zp_W q r cB row ++ zc_S sv cS g))) ++ zy_O ou cJ fo) sz)) (zq_Q (dC, dI) vcl (some (.int 0)) ((zs_W o a b d cJ den rch pol exg xp (nI n) str rdl rds off del arr ++ (zc_C c0 q v sv loc slw wst ++ (zp_W q r cB row ++ zc_S sv cS g))) ++ zy_O ou cJ fo) ((zs_W o a b d cJ den rch pol exg xp (nI n) str rdl rds off del arr ++ (zc_C c0 q v sv loc slw wst ++ (zp_W q r cB row ++ zc_S sv cS g))) ++ zy_O ou cJ (vp_updL fo 0 (off (zs_at del arr loc n)))) sz) zy_X 1 6 (va_A ((zs_W o a b d cJ den rch pol exg xp (nI n) str rdl rds off del arr ++ (zc_C c0 q v sv loc slw wst ++ (zp_W q r cB row ++ zc_S sv cS g))) ++ zy_O ou cJ fo) sz) := by
  refine vx_ofWH (cc := cL_offset) (maxL := 4) (ret := (some .int)) (hh := hhL_offset) (by decide) rfl ?_
  intro p e s m args below meth c s₁ B hml hv
  obtain ⟨rfl, ⟨⟨hsz, hT, hP, hK, hD0⟩, hN, hZ⟩, hC⟩ := hv
  subst hsz
  have htb := vx_table (x := yL_offset) B (hT.w th_L_offset.1)
  have hx := B.exec
  have hb := B.bytes
  have hr := B.returns
  have hlocks := B.notSynchronized
  have hown : s.vm.findClass RL = some m.cls := findClass_of_methodNamed B.named
  have hD := hD0.self (sz := s.heap.size)
  generalize hAe : va_A ((zs_W o a b d cJ den rch pol exg xp (nI n) str rdl rds off del arr ++ (zc_C c0 q v sv loc slw wst ++ (zp_W q r cB row ++ zc_S sv cS g))) ++ zy_O ou cJ fo) s.heap.size = A at hD hZ ⊢
  have hA : ∀ q : Nat, s.heap.size ≤ q → A q := fun q h => by rw [← hAe]; exact Or.inr h
  have hS : va_S A s.heap s.heap [] := va_S.rf
  have hl := lv_entry ([.ref c0, .int (nI k), .ref ou]) (n := 4) (Nat.le_of_ble_eq_true rfl)
  rw [lg_entry_eq]
  generalize (lg_sl ([.ref c0, .int (nI k), .ref ou]) ++ List.replicate (4 - (lg_sl ([.ref c0, .int (nI k), .ref ou])).length) Slot.unset).toArray = ls at hl ⊢
  have hl : lv_has ls 4 [(0, .ref c0), (1, .int (nI k)), (2, .ref ou)] := hl
  refine lv_aload_n hx hb dL_offset_0 rfl (lv_at hl 2 rfl) ?_
  refine lv_iconst (v := 0) hx hb dL_offset_1 (by decide) ?_
  refine lv_aload_n hx hb dL_offset_2 rfl (lv_at hl 0 rfl) ?_
  refine lv_iload_n hx hb dL_offset_3 rfl (lv_at hl 1 rfl) ?_
  refine zz_call (va_runV (Ts := []) (As := [.int (nI k)]) (own := RL) ⟨hx, hb, hml, hown, fun _ h => nomatch h⟩ (ct_C_offset l hk hg h0 hn) (zt_cv hT tc_C_offset tv_C_offset tw_465 ⟨Nat.le_of_ble_eq_true rfl, Nat.le_of_ble_eq_true rfl⟩) (zz_preV (q0 := 4) hT (zq_Pl hP) hK rfl rfl) rfl rfl hl.1 rfl (lv_room (Nat.le_of_ble_eq_true rfl)) dL_offset_4 ⟨Nat.zero_le _, Nat.zero_le _⟩) ?_
  refine zq_last hx hb hK hP hD hS 8 0 rfl rfl 0 rfl (by first | omega | decide | assumption) (by decide) dL_offset_7 (fun H locs hP hD hS => ?_)
  have hP : va_P (dC, dI) vcl ((zs_W o a b d cJ den rch pol exg xp (nI n) str rdl rds off del arr ++ (zc_C c0 q v sv loc slw wst ++ (zp_W q r cB row ++ zc_S sv cS g))) ++ zy_O ou cJ (vp_updL fo 0 (off (zs_at del arr loc n)))) H := hP
  have hD : va_D A ((zs_W o a b d cJ den rch pol exg xp (nI n) str rdl rds off del arr ++ (zc_C c0 q v sv loc slw wst ++ (zp_W q r cB row ++ zc_S sv cS g))) ++ zy_O ou cJ (vp_updL fo 0 (off (zs_at del arr loc n)))) := hD
  refine lv_goto (tgt := 17) hx hb dL_offset_8 (by decide) ?_
  refine lv_iconst (v := 0) hx hb dL_offset_17 (by decide) ?_
  exact zy_iret hx hb hr hlocks dL_offset_18 (rfl) (Nat.le_of_ble_eq_true rfl) (Nat.le_of_ble_eq_true rfl) hAe hP hD hS
set_option maxHeartbeats 4000000 in
set_option maxRecDepth 100000 in
theorem ct_L_delay_no (l : Launch) (hlt : l.stackTraces = false) {dC : Nat → ClassId} {dI : Nat → Nat → Nat} {cJ cI cB cZ cS : ClassId} {sz : Nat} {c0 q v sv : Nat} {loc slw : Int64} {wst : Int32} {ou : Nat} {fo : Nat → Int64} {k : Int32} (hk : k < 0 ∨ ¬ k < 5) : vx_Met l yL_delay [Cond.codeWith yL_delay cL_delay 4 (some .int) hhL_delay] { frames := 9, cells := 1, slots := 6, locals := 145 } (va_Pc [.ref c0, .int k, .ref ou] (zy_B (dC, dI) vcl (zz_T cJ cI cB cZ cS) ((zc_C c0 q v sv loc slw wst) ++ zy_O ou cJ fo) sz)) (zq_Q (dC, dI) vcl (some (.int 1)) ((zc_C c0 q v sv loc slw wst) ++ zy_O ou cJ fo) ((zc_C c0 q v sv loc slw wst) ++ zy_O ou cJ fo) sz) zy_X 1 6 (va_A ((zc_C c0 q v sv loc slw wst) ++ zy_O ou cJ fo) sz) := by
  refine vx_ofWH (cc := cL_delay) (maxL := 4) (ret := (some .int)) (hh := hhL_delay) (by decide) rfl ?_
  intro p e s m args below meth c s₁ B hml hv
  obtain ⟨rfl, ⟨⟨hsz, hT, hP, hK, hD0⟩, hN, hZ⟩, hC⟩ := hv
  subst hsz
  have htb := vx_table (x := yL_delay) B (hT.w th_L_delay.1)
  have hx := B.exec
  have hb := B.bytes
  have hr := B.returns
  have hlocks := B.notSynchronized
  have hown : s.vm.findClass RL = some m.cls := findClass_of_methodNamed B.named
  have hD := hD0.self (sz := s.heap.size)
  generalize hAe : va_A ((zc_C c0 q v sv loc slw wst) ++ zy_O ou cJ fo) s.heap.size = A at hD hZ ⊢
  have hA : ∀ q : Nat, s.heap.size ≤ q → A q := fun q h => by rw [← hAe]; exact Or.inr h
  have hS : va_S A s.heap s.heap [] := va_S.rf
  have hl := lv_entry ([.ref c0, .int k, .ref ou]) (n := 4) (Nat.le_of_ble_eq_true rfl)
  rw [lg_entry_eq]
  generalize (lg_sl ([.ref c0, .int k, .ref ou]) ++ List.replicate (4 - (lg_sl ([.ref c0, .int k, .ref ou])).length) Slot.unset).toArray = ls at hl ⊢
  have hl : lv_has ls 4 [(0, .ref c0), (1, .int k), (2, .ref ou)] := hl
  refine lv_aload_n hx hb dL_delay_0 rfl (lv_at hl 2 rfl) ?_
  refine lv_iconst (v := 0) hx hb dL_delay_1 (by decide) ?_
  refine lv_aload_n hx hb dL_delay_2 rfl (lv_at hl 0 rfl) ?_
  refine lv_iload_n hx hb dL_delay_3 rfl (lv_at hl 1 rfl) ?_
  refine zy_caught (x := ⟨0, 8, 11, 19⟩) (pre := []) (suf := [⟨0, 8, 14, 47⟩]) htb rfl hown hT hN zy_p0 (by decide) (by decide) tw_311 tw_318 (List.Perm.refl _) (List.Perm.refl _) hA hP hD hS (vx_runV (Ts := []) (As := [.int k]) (own := RL) ⟨hx, hb, hml, hown, fun _ h => nomatch h⟩ (ct_C_delay_no l hlt hk) (zt_cv hT tc_C_delay tv_C_delay tw_492 ⟨Nat.le_of_ble_eq_true rfl, Nat.le_of_ble_eq_true rfl⟩) (zx_preV (q0 := 0) hT (zq_Pl hP) hK (zq_Dl hD) hN hZ hS hA rfl rfl) rfl rfl hl.1 rfl (lv_room (Nat.le_of_ble_eq_true rfl)) dL_delay_4 ⟨Nat.le_of_ble_eq_true rfl, Nat.le_of_ble_eq_true rfl⟩) (fun _ _ _ h => h) (fun q9 H locs hP hD hS => ?_)
  have hP : va_P (dC, dI) vcl ((zc_C c0 q v sv loc slw wst) ++ zy_O ou cJ fo) H := hP
  have hD : va_D A ((zc_C c0 q v sv loc slw wst) ++ zy_O ou cJ fo) := hD
  refine W.eq (g2 := F0 m 11 ls [.ref q9]) rfl ?_
  refine lv_astore_n (lv' := [(3, .ref q9), (0, .ref c0), (1, .int k), (2, .ref ou)]) hx hb dL_delay_11 rfl hl (by decide) rfl (fun ls hl => ?_)
  refine lv_iconst (v := 1) hx hb dL_delay_12 (by decide) ?_
  exact zy_iret hx hb hr hlocks dL_delay_13 (rfl) (Nat.le_of_ble_eq_true rfl) (Nat.le_of_ble_eq_true rfl) hAe hP hD hS
set_option maxHeartbeats 4000000 in
set_option maxRecDepth 100000 in
theorem ct_L_delay_0 (l : Launch) (hlt : l.stackTraces = false) {dC : Nat → ClassId} {dI : Nat → Nat → Nat} {cJ cI cB cZ cS : ClassId} {sz : Nat} {o a b d : Nat} {den rch pol exg str : Int32} {xp rdl rds : Int64} {off del arr : Nat → Int64} {n : Nat} {c0 q r v sv : Nat} {g : Nat → Option Nat} {loc slw : Int64} {wst : Int32} {row : Nat → Int32} {k : Nat} (hk : k < 5) (hg : g k = some o) {ou : Nat} {fo : Nat → Int64} (h0 : n = 0) : vx_Met l yL_delay [Cond.codeWith yL_delay cL_delay 4 (some .int) hhL_delay] { frames := 8, cells := 1, slots := 6, locals := 124 } (va_Pc [.ref c0, .int (nI k), .ref ou] (zy_B (dC, dI) vcl (zz_T cJ cI cB cZ cS) ((zs_W o a b d cJ den rch pol exg xp (nI n) str rdl rds off del arr ++ (zc_C c0 q v sv loc slw wst ++ (zp_W q r cB row ++ zc_S sv cS g))) ++ zy_O ou cJ fo) sz)) (zq_Q (dC, dI) vcl (some (.int 2)) ((zs_W o a b d cJ den rch pol exg xp (nI n) str rdl rds off del arr ++ (zc_C c0 q v sv loc slw wst ++ (zp_W q r cB row ++ zc_S sv cS g))) ++ zy_O ou cJ fo) ((zs_W o a b d cJ den rch pol exg xp (nI n) str rdl rds off del arr ++ (zc_C c0 q v sv loc slw wst ++ (zp_W q r cB row ++ zc_S sv cS g))) ++ zy_O ou cJ fo) sz) zy_X 1 6 (va_A ((zs_W o a b d cJ den rch pol exg xp (nI n) str rdl rds off del arr ++ (zc_C c0 q v sv loc slw wst ++ (zp_W q r cB row ++ zc_S sv cS g))) ++ zy_O ou cJ fo) sz) := by
  refine vx_ofWH (cc := cL_delay) (maxL := 4) (ret := (some .int)) (hh := hhL_delay) (by decide) rfl ?_
  intro p e s m args below meth c s₁ B hml hv
  obtain ⟨rfl, ⟨⟨hsz, hT, hP, hK, hD0⟩, hN, hZ⟩, hC⟩ := hv
  subst hsz
  have htb := vx_table (x := yL_delay) B (hT.w th_L_delay.1)
  have hx := B.exec
  have hb := B.bytes
  have hr := B.returns
  have hlocks := B.notSynchronized
  have hown : s.vm.findClass RL = some m.cls := findClass_of_methodNamed B.named
  have hD := hD0.self (sz := s.heap.size)
  generalize hAe : va_A ((zs_W o a b d cJ den rch pol exg xp (nI n) str rdl rds off del arr ++ (zc_C c0 q v sv loc slw wst ++ (zp_W q r cB row ++ zc_S sv cS g))) ++ zy_O ou cJ fo) s.heap.size = A at hD hZ ⊢
  have hA : ∀ q : Nat, s.heap.size ≤ q → A q := fun q h => by rw [← hAe]; exact Or.inr h
  have hS : va_S A s.heap s.heap [] := va_S.rf
  have hl := lv_entry ([.ref c0, .int (nI k), .ref ou]) (n := 4) (Nat.le_of_ble_eq_true rfl)
  rw [lg_entry_eq]
  generalize (lg_sl ([.ref c0, .int (nI k), .ref ou]) ++ List.replicate (4 - (lg_sl ([.ref c0, .int (nI k), .ref ou])).length) Slot.unset).toArray = ls at hl ⊢
  have hl : lv_has ls 4 [(0, .ref c0), (1, .int (nI k)), (2, .ref ou)] := hl
  refine lv_aload_n hx hb dL_delay_0 rfl (lv_at hl 2 rfl) ?_
  refine lv_iconst (v := 0) hx hb dL_delay_1 (by decide) ?_
  refine lv_aload_n hx hb dL_delay_2 rfl (lv_at hl 0 rfl) ?_
  refine lv_iload_n hx hb dL_delay_3 rfl (lv_at hl 1 rfl) ?_
  refine zy_caught (x := ⟨0, 8, 14, 47⟩) (pre := [⟨0, 8, 11, 19⟩]) (suf := []) htb rfl hown hT hN (zy_pc (Or.inr ⟨by decide, _, hT.w tw_311, hC.2.2.2.2.1⟩) zy_p0) (by decide) (by decide) tw_464 tw_475 (List.Perm.refl _) (List.Perm.refl _) hA hP hD hS (vx_runV (Ts := []) (As := [.int (nI k)]) (own := RL) ⟨hx, hb, hml, hown, fun _ h => nomatch h⟩ (ct_C_delay_0 l hlt hk hg h0) (zt_cv hT tc_C_delay tv_C_delay tw_492 ⟨Nat.le_of_ble_eq_true rfl, Nat.le_of_ble_eq_true rfl⟩) (zx_preV (q0 := 4) hT (zq_Pl hP) hK (zq_Dl hD) hN hZ hS hA rfl rfl) rfl rfl hl.1 rfl (lv_room (Nat.le_of_ble_eq_true rfl)) dL_delay_4 ⟨Nat.le_of_ble_eq_true rfl, Nat.le_of_ble_eq_true rfl⟩) (fun _ _ _ h => h) (fun q9 H locs hP hD hS => ?_)
  have hP : va_P (dC, dI) vcl ((zs_W o a b d cJ den rch pol exg xp (nI n) str rdl rds off del arr ++ (zc_C c0 q v sv loc slw wst ++ (zp_W q r cB row ++ zc_S sv cS g))) ++ zy_O ou cJ fo) H := hP
  have hD : va_D A ((zs_W o a b d cJ den rch pol exg xp (nI n) str rdl rds off del arr ++ (zc_C c0 q v sv loc slw wst ++ (zp_W q r cB row ++ zc_S sv cS g))) ++ zy_O ou cJ fo) := hD
  refine W.eq (g2 := F0 m 14 ls [.ref q9]) rfl ?_
  refine lv_astore_n (lv' := [(3, .ref q9), (0, .ref c0), (1, .int (nI k)), (2, .ref ou)]) hx hb dL_delay_14 rfl hl (by decide) rfl (fun ls hl => ?_)
  refine lv_iconst (v := 2) hx hb dL_delay_15 (by decide) ?_
  exact zy_iret hx hb hr hlocks dL_delay_16 (rfl) (Nat.le_of_ble_eq_true rfl) (Nat.le_of_ble_eq_true rfl) hAe hP hD hS
set_option maxHeartbeats 4000000 in
set_option maxRecDepth 100000 in
theorem ct_L_delay_ok (l : Launch) (hlt : l.stackTraces = false) {dC : Nat → ClassId} {dI : Nat → Nat → Nat} {cJ cI cB cZ cS : ClassId} {sz : Nat} {o a b d : Nat} {den rch pol exg str : Int32} {xp rdl rds : Int64} {off del arr : Nat → Int64} {n : Nat} {c0 q r v sv : Nat} {g : Nat → Option Nat} {loc slw : Int64} {wst : Int32} {row : Nat → Int32} {k : Nat} (hk : k < 5) (hg : g k = some o) {ou : Nat} {fo : Nat → Int64} (h0 : ¬ n = 0) (hn : n ≤ 8) : vx_Met l yL_delay [Cond.codeWith yL_delay cL_delay 4 (some .int) hhL_delay] { frames := 5, cells := 1, slots := 6, locals := 117 } (va_Pc [.ref c0, .int (nI k), .ref ou] (zy_B (dC, dI) vcl (zz_T cJ cI cB cZ cS) ((zs_W o a b d cJ den rch pol exg xp (nI n) str rdl rds off del arr ++ (zc_C c0 q v sv loc slw wst ++ (zp_W q r cB row ++ zc_S sv cS g))) ++ zy_O ou cJ fo) sz)) (zq_Q (dC, dI) vcl (some (.int 0)) ((zs_W o a b d cJ den rch pol exg xp (nI n) str rdl rds off del arr ++ (zc_C c0 q v sv loc slw wst ++ (zp_W q r cB row ++ zc_S sv cS g))) ++ zy_O ou cJ fo) ((zs_W o a b d cJ den rch pol exg xp (nI n) str rdl rds off del arr ++ (zc_C c0 q v sv loc slw wst ++ (zp_W q r cB row ++ zc_S sv cS g))) ++ zy_O ou cJ (vp_updL fo 0 (del (zs_at del arr loc n)))) sz) zy_X 1 6 (va_A ((zs_W o a b d cJ den rch pol exg xp (nI n) str rdl rds off del arr ++ (zc_C c0 q v sv loc slw wst ++ (zp_W q r cB row ++ zc_S sv cS g))) ++ zy_O ou cJ fo) sz) := by
  refine vx_ofWH (cc := cL_delay) (maxL := 4) (ret := (some .int)) (hh := hhL_delay) (by decide) rfl ?_
  intro p e s m args below meth c s₁ B hml hv
  obtain ⟨rfl, ⟨⟨hsz, hT, hP, hK, hD0⟩, hN, hZ⟩, hC⟩ := hv
  subst hsz
  have htb := vx_table (x := yL_delay) B (hT.w th_L_delay.1)
  have hx := B.exec
  have hb := B.bytes
  have hr := B.returns
  have hlocks := B.notSynchronized
  have hown : s.vm.findClass RL = some m.cls := findClass_of_methodNamed B.named
  have hD := hD0.self (sz := s.heap.size)
  generalize hAe : va_A ((zs_W o a b d cJ den rch pol exg xp (nI n) str rdl rds off del arr ++ (zc_C c0 q v sv loc slw wst ++ (zp_W q r cB row ++ zc_S sv cS g))) ++ zy_O ou cJ fo) s.heap.size = A at hD hZ ⊢
  have hA : ∀ q : Nat, s.heap.size ≤ q → A q := fun q h => by rw [← hAe]; exact Or.inr h
  have hS : va_S A s.heap s.heap [] := va_S.rf
  have hl := lv_entry ([.ref c0, .int (nI k), .ref ou]) (n := 4) (Nat.le_of_ble_eq_true rfl)
  rw [lg_entry_eq]
  generalize (lg_sl ([.ref c0, .int (nI k), .ref ou]) ++ List.replicate (4 - (lg_sl ([.ref c0, .int (nI k), .ref ou])).length) Slot.unset).toArray = ls at hl ⊢
  have hl : lv_has ls 4 [(0, .ref c0), (1, .int (nI k)), (2, .ref ou)] := hl
  refine lv_aload_n hx hb dL_delay_0 rfl (lv_at hl 2 rfl) ?_
  refine lv_iconst (v := 0) hx hb dL_delay_1 (by decide) ?_
  refine lv_aload_n hx hb dL_delay_2 rfl (lv_at hl 0 rfl) ?_
  refine lv_iload_n hx hb dL_delay_3 rfl (lv_at hl 1 rfl) ?_
  refine zz_call (va_runV (Ts := []) (As := [.int (nI k)]) (own := RL) ⟨hx, hb, hml, hown, fun _ h => nomatch h⟩ (ct_C_delay l hk hg h0 hn) (zt_cv hT tc_C_delay tv_C_delay tw_492 ⟨Nat.le_of_ble_eq_true rfl, Nat.le_of_ble_eq_true rfl⟩) (zz_preV (q0 := 4) hT (zq_Pl hP) hK rfl rfl) rfl rfl hl.1 rfl (lv_room (Nat.le_of_ble_eq_true rfl)) dL_delay_4 ⟨Nat.zero_le _, Nat.zero_le _⟩) ?_
  refine zq_last hx hb hK hP hD hS 8 0 rfl rfl 0 rfl (by first | omega | decide | assumption) (by decide) dL_delay_7 (fun H locs hP hD hS => ?_)
  have hP : va_P (dC, dI) vcl ((zs_W o a b d cJ den rch pol exg xp (nI n) str rdl rds off del arr ++ (zc_C c0 q v sv loc slw wst ++ (zp_W q r cB row ++ zc_S sv cS g))) ++ zy_O ou cJ (vp_updL fo 0 (del (zs_at del arr loc n)))) H := hP
  have hD : va_D A ((zs_W o a b d cJ den rch pol exg xp (nI n) str rdl rds off del arr ++ (zc_C c0 q v sv loc slw wst ++ (zp_W q r cB row ++ zc_S sv cS g))) ++ zy_O ou cJ (vp_updL fo 0 (del (zs_at del arr loc n)))) := hD
  refine lv_goto (tgt := 17) hx hb dL_delay_8 (by decide) ?_
  refine lv_iconst (v := 0) hx hb dL_delay_17 (by decide) ?_
  exact zy_iret hx hb hr hlocks dL_delay_18 (rfl) (Nat.le_of_ble_eq_true rfl) (Nat.le_of_ble_eq_true rfl) hAe hP hD hS
set_option maxHeartbeats 4000000 in
set_option maxRecDepth 100000 in
theorem ct_L_jitter_no (l : Launch) (hlt : l.stackTraces = false) {dC : Nat → ClassId} {dI : Nat → Nat → Nat} {cJ cI cB cZ cS : ClassId} {sz : Nat} {c0 q v sv : Nat} {loc slw : Int64} {wst : Int32} {ou : Nat} {fo : Nat → Int64} {k : Int32} (hk : k < 0 ∨ ¬ k < 5) : vx_Met l yL_jitter [Cond.codeWith yL_jitter cL_jitter 4 (some .int) hhL_jitter] { frames := 9, cells := 1, slots := 6, locals := 145 } (va_Pc [.ref c0, .int k, .ref ou] (zy_B (dC, dI) vcl (zz_T cJ cI cB cZ cS) ((zc_C c0 q v sv loc slw wst) ++ zy_O ou cJ fo) sz)) (zq_Q (dC, dI) vcl (some (.int 1)) ((zc_C c0 q v sv loc slw wst) ++ zy_O ou cJ fo) ((zc_C c0 q v sv loc slw wst) ++ zy_O ou cJ fo) sz) zy_X 1 6 (va_A ((zc_C c0 q v sv loc slw wst) ++ zy_O ou cJ fo) sz) := by
  refine vx_ofWH (cc := cL_jitter) (maxL := 4) (ret := (some .int)) (hh := hhL_jitter) (by decide) rfl ?_
  intro p e s m args below meth c s₁ B hml hv
  obtain ⟨rfl, ⟨⟨hsz, hT, hP, hK, hD0⟩, hN, hZ⟩, hC⟩ := hv
  subst hsz
  have htb := vx_table (x := yL_jitter) B (hT.w th_L_jitter.1)
  have hx := B.exec
  have hb := B.bytes
  have hr := B.returns
  have hlocks := B.notSynchronized
  have hown : s.vm.findClass RL = some m.cls := findClass_of_methodNamed B.named
  have hD := hD0.self (sz := s.heap.size)
  generalize hAe : va_A ((zc_C c0 q v sv loc slw wst) ++ zy_O ou cJ fo) s.heap.size = A at hD hZ ⊢
  have hA : ∀ q : Nat, s.heap.size ≤ q → A q := fun q h => by rw [← hAe]; exact Or.inr h
  have hS : va_S A s.heap s.heap [] := va_S.rf
  have hl := lv_entry ([.ref c0, .int k, .ref ou]) (n := 4) (Nat.le_of_ble_eq_true rfl)
  rw [lg_entry_eq]
  generalize (lg_sl ([.ref c0, .int k, .ref ou]) ++ List.replicate (4 - (lg_sl ([.ref c0, .int k, .ref ou])).length) Slot.unset).toArray = ls at hl ⊢
  have hl : lv_has ls 4 [(0, .ref c0), (1, .int k), (2, .ref ou)] := hl
  refine lv_aload_n hx hb dL_jitter_0 rfl (lv_at hl 2 rfl) ?_
  refine lv_iconst (v := 0) hx hb dL_jitter_1 (by decide) ?_
  refine lv_aload_n hx hb dL_jitter_2 rfl (lv_at hl 0 rfl) ?_
  refine lv_iload_n hx hb dL_jitter_3 rfl (lv_at hl 1 rfl) ?_
  refine zy_caught (x := ⟨0, 8, 11, 19⟩) (pre := []) (suf := [⟨0, 8, 14, 47⟩]) htb rfl hown hT hN zy_p0 (by decide) (by decide) tw_311 tw_318 (List.Perm.refl _) (List.Perm.refl _) hA hP hD hS (vx_runV (Ts := []) (As := [.int k]) (own := RL) ⟨hx, hb, hml, hown, fun _ h => nomatch h⟩ (ct_C_jitter_no l hlt hk) (zt_cv hT tc_C_jitter tv_C_jitter tw_503 ⟨Nat.le_of_ble_eq_true rfl, Nat.le_of_ble_eq_true rfl⟩) (zx_preV (q0 := 0) hT (zq_Pl hP) hK (zq_Dl hD) hN hZ hS hA rfl rfl) rfl rfl hl.1 rfl (lv_room (Nat.le_of_ble_eq_true rfl)) dL_jitter_4 ⟨Nat.le_of_ble_eq_true rfl, Nat.le_of_ble_eq_true rfl⟩) (fun _ _ _ h => h) (fun q9 H locs hP hD hS => ?_)
  have hP : va_P (dC, dI) vcl ((zc_C c0 q v sv loc slw wst) ++ zy_O ou cJ fo) H := hP
  have hD : va_D A ((zc_C c0 q v sv loc slw wst) ++ zy_O ou cJ fo) := hD
  refine W.eq (g2 := F0 m 11 ls [.ref q9]) rfl ?_
  refine lv_astore_n (lv' := [(3, .ref q9), (0, .ref c0), (1, .int k), (2, .ref ou)]) hx hb dL_jitter_11 rfl hl (by decide) rfl (fun ls hl => ?_)
  refine lv_iconst (v := 1) hx hb dL_jitter_12 (by decide) ?_
  exact zy_iret hx hb hr hlocks dL_jitter_13 (rfl) (Nat.le_of_ble_eq_true rfl) (Nat.le_of_ble_eq_true rfl) hAe hP hD hS
set_option maxHeartbeats 4000000 in
set_option maxRecDepth 100000 in
theorem ct_L_jitter_0 (l : Launch) (hlt : l.stackTraces = false) {dC : Nat → ClassId} {dI : Nat → Nat → Nat} {cJ cI cB cZ cS : ClassId} {sz : Nat} {o a b d : Nat} {den rch pol exg str : Int32} {xp rdl rds : Int64} {off del arr : Nat → Int64} {n : Nat} {c0 q r v sv : Nat} {g : Nat → Option Nat} {loc slw : Int64} {wst : Int32} {row : Nat → Int32} {k : Nat} (hk : k < 5) (hg : g k = some o) {ou : Nat} {fo : Nat → Int64} (h0 : n = 0) : vx_Met l yL_jitter [Cond.codeWith yL_jitter cL_jitter 4 (some .int) hhL_jitter] { frames := 8, cells := 1, slots := 6, locals := 124 } (va_Pc [.ref c0, .int (nI k), .ref ou] (zy_B (dC, dI) vcl (zz_T cJ cI cB cZ cS) ((zs_W o a b d cJ den rch pol exg xp (nI n) str rdl rds off del arr ++ (zc_C c0 q v sv loc slw wst ++ (zp_W q r cB row ++ zc_S sv cS g))) ++ zy_O ou cJ fo) sz)) (zq_Q (dC, dI) vcl (some (.int 2)) ((zs_W o a b d cJ den rch pol exg xp (nI n) str rdl rds off del arr ++ (zc_C c0 q v sv loc slw wst ++ (zp_W q r cB row ++ zc_S sv cS g))) ++ zy_O ou cJ fo) ((zs_W o a b d cJ den rch pol exg xp (nI n) str rdl rds off del arr ++ (zc_C c0 q v sv loc slw wst ++ (zp_W q r cB row ++ zc_S sv cS g))) ++ zy_O ou cJ fo) sz) zy_X 1 6 (va_A ((zs_W o a b d cJ den rch pol exg xp (nI n) str rdl rds off del arr ++ (zc_C c0 q v sv loc slw wst ++ (zp_W q r cB row ++ zc_S sv cS g))) ++ zy_O ou cJ fo) sz) := by
  refine vx_ofWH (cc := cL_jitter) (maxL := 4) (ret := (some .int)) (hh := hhL_jitter) (by decide) rfl ?_
  intro p e s m args below meth c s₁ B hml hv
  obtain ⟨rfl, ⟨⟨hsz, hT, hP, hK, hD0⟩, hN, hZ⟩, hC⟩ := hv
  subst hsz
  have htb := vx_table (x := yL_jitter) B (hT.w th_L_jitter.1)
  have hx := B.exec
  have hb := B.bytes
  have hr := B.returns
  have hlocks := B.notSynchronized
  have hown : s.vm.findClass RL = some m.cls := findClass_of_methodNamed B.named
  have hD := hD0.self (sz := s.heap.size)
  generalize hAe : va_A ((zs_W o a b d cJ den rch pol exg xp (nI n) str rdl rds off del arr ++ (zc_C c0 q v sv loc slw wst ++ (zp_W q r cB row ++ zc_S sv cS g))) ++ zy_O ou cJ fo) s.heap.size = A at hD hZ ⊢
  have hA : ∀ q : Nat, s.heap.size ≤ q → A q := fun q h => by rw [← hAe]; exact Or.inr h
  have hS : va_S A s.heap s.heap [] := va_S.rf
  have hl := lv_entry ([.ref c0, .int (nI k), .ref ou]) (n := 4) (Nat.le_of_ble_eq_true rfl)
  rw [lg_entry_eq]
  generalize (lg_sl ([.ref c0, .int (nI k), .ref ou]) ++ List.replicate (4 - (lg_sl ([.ref c0, .int (nI k), .ref ou])).length) Slot.unset).toArray = ls at hl ⊢
  have hl : lv_has ls 4 [(0, .ref c0), (1, .int (nI k)), (2, .ref ou)] := hl
  refine lv_aload_n hx hb dL_jitter_0 rfl (lv_at hl 2 rfl) ?_
  refine lv_iconst (v := 0) hx hb dL_jitter_1 (by decide) ?_
  refine lv_aload_n hx hb dL_jitter_2 rfl (lv_at hl 0 rfl) ?_
  refine lv_iload_n hx hb dL_jitter_3 rfl (lv_at hl 1 rfl) ?_
  refine zy_caught (x := ⟨0, 8, 14, 47⟩) (pre := [⟨0, 8, 11, 19⟩]) (suf := []) htb rfl hown hT hN (zy_pc (Or.inr ⟨by decide, _, hT.w tw_311, hC.2.2.2.2.1⟩) zy_p0) (by decide) (by decide) tw_464 tw_475 (List.Perm.refl _) (List.Perm.refl _) hA hP hD hS (vx_runV (Ts := []) (As := [.int (nI k)]) (own := RL) ⟨hx, hb, hml, hown, fun _ h => nomatch h⟩ (ct_C_jitter_0 l hlt hk hg h0) (zt_cv hT tc_C_jitter tv_C_jitter tw_503 ⟨Nat.le_of_ble_eq_true rfl, Nat.le_of_ble_eq_true rfl⟩) (zx_preV (q0 := 4) hT (zq_Pl hP) hK (zq_Dl hD) hN hZ hS hA rfl rfl) rfl rfl hl.1 rfl (lv_room (Nat.le_of_ble_eq_true rfl)) dL_jitter_4 ⟨Nat.le_of_ble_eq_true rfl, Nat.le_of_ble_eq_true rfl⟩) (fun _ _ _ h => h) (fun q9 H locs hP hD hS => ?_)
  have hP : va_P (dC, dI) vcl ((zs_W o a b d cJ den rch pol exg xp (nI n) str rdl rds off del arr ++ (zc_C c0 q v sv loc slw wst ++ (zp_W q r cB row ++ zc_S sv cS g))) ++ zy_O ou cJ fo) H := hP
  have hD : va_D A ((zs_W o a b d cJ den rch pol exg xp (nI n) str rdl rds off del arr ++ (zc_C c0 q v sv loc slw wst ++ (zp_W q r cB row ++ zc_S sv cS g))) ++ zy_O ou cJ fo) := hD
  refine W.eq (g2 := F0 m 14 ls [.ref q9]) rfl ?_
  refine lv_astore_n (lv' := [(3, .ref q9), (0, .ref c0), (1, .int (nI k)), (2, .ref ou)]) hx hb dL_jitter_14 rfl hl (by decide) rfl (fun ls hl => ?_)
  refine lv_iconst (v := 2) hx hb dL_jitter_15 (by decide) ?_
  exact zy_iret hx hb hr hlocks dL_jitter_16 (rfl) (Nat.le_of_ble_eq_true rfl) (Nat.le_of_ble_eq_true rfl) hAe hP hD hS
set_option maxHeartbeats 4000000 in
set_option maxRecDepth 100000 in
theorem ct_L_jitter_ok (l : Launch) (hlt : l.stackTraces = false) {dC : Nat → ClassId} {dI : Nat → Nat → Nat} {cJ cI cB cZ cS : ClassId} {sz : Nat} {o a b d : Nat} {den rch pol exg str : Int32} {xp rdl rds : Int64} {off del arr : Nat → Int64} {n : Nat} {c0 q r v sv : Nat} {g : Nat → Option Nat} {loc slw : Int64} {wst : Int32} {row : Nat → Int32} {k : Nat} (hk : k < 5) (hg : g k = some o) {ou : Nat} {fo : Nat → Int64} (h0 : ¬ n = 0) (hn : n ≤ 8) : vx_Met l yL_jitter [Cond.codeWith yL_jitter cL_jitter 4 (some .int) hhL_jitter] { frames := 5, cells := 1, slots := 6, locals := 117 } (va_Pc [.ref c0, .int (nI k), .ref ou] (zy_B (dC, dI) vcl (zz_T cJ cI cB cZ cS) ((zs_W o a b d cJ den rch pol exg xp (nI n) str rdl rds off del arr ++ (zc_C c0 q v sv loc slw wst ++ (zp_W q r cB row ++ zc_S sv cS g))) ++ zy_O ou cJ fo) sz)) (zq_Q (dC, dI) vcl (some (.int 0)) ((zs_W o a b d cJ den rch pol exg xp (nI n) str rdl rds off del arr ++ (zc_C c0 q v sv loc slw wst ++ (zp_W q r cB row ++ zc_S sv cS g))) ++ zy_O ou cJ fo) ((zs_W o a b d cJ den rch pol exg xp (nI n) str rdl rds off del arr ++ (zc_C c0 q v sv loc slw wst ++ (zp_W q r cB row ++ zc_S sv cS g))) ++ zy_O ou cJ (vp_updL fo 0 (zs_jit off del arr loc n))) sz) zy_X 1 6 (va_A ((zs_W o a b d cJ den rch pol exg xp (nI n) str rdl rds off del arr ++ (zc_C c0 q v sv loc slw wst ++ (zp_W q r cB row ++ zc_S sv cS g))) ++ zy_O ou cJ fo) sz) := by
  refine vx_ofWH (cc := cL_jitter) (maxL := 4) (ret := (some .int)) (hh := hhL_jitter) (by decide) rfl ?_
  intro p e s m args below meth c s₁ B hml hv
  obtain ⟨rfl, ⟨⟨hsz, hT, hP, hK, hD0⟩, hN, hZ⟩, hC⟩ := hv
  subst hsz
  have htb := vx_table (x := yL_jitter) B (hT.w th_L_jitter.1)
  have hx := B.exec
  have hb := B.bytes
  have hr := B.returns
  have hlocks := B.notSynchronized
  have hown : s.vm.findClass RL = some m.cls := findClass_of_methodNamed B.named
  have hD := hD0.self (sz := s.heap.size)
  generalize hAe : va_A ((zs_W o a b d cJ den rch pol exg xp (nI n) str rdl rds off del arr ++ (zc_C c0 q v sv loc slw wst ++ (zp_W q r cB row ++ zc_S sv cS g))) ++ zy_O ou cJ fo) s.heap.size = A at hD hZ ⊢
  have hA : ∀ q : Nat, s.heap.size ≤ q → A q := fun q h => by rw [← hAe]; exact Or.inr h
  have hS : va_S A s.heap s.heap [] := va_S.rf
  have hl := lv_entry ([.ref c0, .int (nI k), .ref ou]) (n := 4) (Nat.le_of_ble_eq_true rfl)
  rw [lg_entry_eq]
  generalize (lg_sl ([.ref c0, .int (nI k), .ref ou]) ++ List.replicate (4 - (lg_sl ([.ref c0, .int (nI k), .ref ou])).length) Slot.unset).toArray = ls at hl ⊢
  have hl : lv_has ls 4 [(0, .ref c0), (1, .int (nI k)), (2, .ref ou)] := hl
  refine lv_aload_n hx hb dL_jitter_0 rfl (lv_at hl 2 rfl) ?_
  refine lv_iconst (v := 0) hx hb dL_jitter_1 (by decide) ?_
  refine lv_aload_n hx hb dL_jitter_2 rfl (lv_at hl 0 rfl) ?_
  refine lv_iload_n hx hb dL_jitter_3 rfl (lv_at hl 1 rfl) ?_
  refine zz_call (va_runV (Ts := []) (As := [.int (nI k)]) (own := RL) ⟨hx, hb, hml, hown, fun _ h => nomatch h⟩ (ct_C_jitter l hk hg h0 hn) (zt_cv hT tc_C_jitter tv_C_jitter tw_503 ⟨Nat.le_of_ble_eq_true rfl, Nat.le_of_ble_eq_true rfl⟩) (zz_preV (q0 := 4) hT (zq_Pl hP) hK rfl rfl) rfl rfl hl.1 rfl (lv_room (Nat.le_of_ble_eq_true rfl)) dL_jitter_4 ⟨Nat.zero_le _, Nat.zero_le _⟩) ?_
  refine zq_last hx hb hK hP hD hS 8 0 rfl rfl 0 rfl (by first | omega | decide | assumption) (by decide) dL_jitter_7 (fun H locs hP hD hS => ?_)
  have hP : va_P (dC, dI) vcl ((zs_W o a b d cJ den rch pol exg xp (nI n) str rdl rds off del arr ++ (zc_C c0 q v sv loc slw wst ++ (zp_W q r cB row ++ zc_S sv cS g))) ++ zy_O ou cJ (vp_updL fo 0 (zs_jit off del arr loc n))) H := hP
  have hD : va_D A ((zs_W o a b d cJ den rch pol exg xp (nI n) str rdl rds off del arr ++ (zc_C c0 q v sv loc slw wst ++ (zp_W q r cB row ++ zc_S sv cS g))) ++ zy_O ou cJ (vp_updL fo 0 (zs_jit off del arr loc n))) := hD
  refine lv_goto (tgt := 17) hx hb dL_jitter_8 (by decide) ?_
  refine lv_iconst (v := 0) hx hb dL_jitter_17 (by decide) ?_
  exact zy_iret hx hb hr hlocks dL_jitter_18 (rfl) (Nat.le_of_ble_eq_true rfl) (Nat.le_of_ble_eq_true rfl) hAe hP hD hS
set_option maxHeartbeats 4000000 in
set_option maxRecDepth 100000 in
theorem ct_L_distance_no (l : Launch) (hlt : l.stackTraces = false) {dC : Nat → ClassId} {dI : Nat → Nat → Nat} {cJ cI cB cZ cS : ClassId} {sz : Nat} {c0 q v sv : Nat} {loc slw : Int64} {wst : Int32} {ou : Nat} {fo : Nat → Int64} {k : Int32} (hk : k < 0 ∨ ¬ k < 5) : vx_Met l yL_distance [Cond.codeWith yL_distance cL_distance 4 (some .int) hhL_distance] { frames := 9, cells := 1, slots := 6, locals := 145 } (va_Pc [.ref c0, .int k, .ref ou] (zy_B (dC, dI) vcl (zz_T cJ cI cB cZ cS) ((zc_C c0 q v sv loc slw wst) ++ zy_O ou cJ fo) sz)) (zq_Q (dC, dI) vcl (some (.int 1)) ((zc_C c0 q v sv loc slw wst) ++ zy_O ou cJ fo) ((zc_C c0 q v sv loc slw wst) ++ zy_O ou cJ fo) sz) zy_X 1 6 (va_A ((zc_C c0 q v sv loc slw wst) ++ zy_O ou cJ fo) sz) := by
  refine vx_ofWH (cc := cL_distance) (maxL := 4) (ret := (some .int)) (hh := hhL_distance) (by decide) rfl ?_
  intro p e s m args below meth c s₁ B hml hv
  obtain ⟨rfl, ⟨⟨hsz, hT, hP, hK, hD0⟩, hN, hZ⟩, hC⟩ := hv
  subst hsz
  have htb := vx_table (x := yL_distance) B (hT.w th_L_distance.1)
  have hx := B.exec
  have hb := B.bytes
  have hr := B.returns
  have hlocks := B.notSynchronized
  have hown : s.vm.findClass RL = some m.cls := findClass_of_methodNamed B.named
  have hD := hD0.self (sz := s.heap.size)
  generalize hAe : va_A ((zc_C c0 q v sv loc slw wst) ++ zy_O ou cJ fo) s.heap.size = A at hD hZ ⊢
  have hA : ∀ q : Nat, s.heap.size ≤ q → A q := fun q h => by rw [← hAe]; exact Or.inr h
  have hS : va_S A s.heap s.heap [] := va_S.rf
  have hl := lv_entry ([.ref c0, .int k, .ref ou]) (n := 4) (Nat.le_of_ble_eq_true rfl)
  rw [lg_entry_eq]
  generalize (lg_sl ([.ref c0, .int k, .ref ou]) ++ List.replicate (4 - (lg_sl ([.ref c0, .int k, .ref ou])).length) Slot.unset).toArray = ls at hl ⊢
  have hl : lv_has ls 4 [(0, .ref c0), (1, .int k), (2, .ref ou)] := hl
  refine lv_aload_n hx hb dL_distance_0 rfl (lv_at hl 2 rfl) ?_
  refine lv_iconst (v := 0) hx hb dL_distance_1 (by decide) ?_
  refine lv_aload_n hx hb dL_distance_2 rfl (lv_at hl 0 rfl) ?_
  refine lv_iload_n hx hb dL_distance_3 rfl (lv_at hl 1 rfl) ?_
  refine zy_caught (x := ⟨0, 8, 11, 19⟩) (pre := []) (suf := [⟨0, 8, 14, 47⟩]) htb rfl hown hT hN zy_p0 (by decide) (by decide) tw_311 tw_318 (List.Perm.refl _) (List.Perm.refl _) hA hP hD hS (vx_runV (Ts := []) (As := [.int k]) (own := RL) ⟨hx, hb, hml, hown, fun _ h => nomatch h⟩ (ct_C_distance_no l hlt hk) (zt_cv hT tc_C_distance tv_C_distance tw_514 ⟨Nat.le_of_ble_eq_true rfl, Nat.le_of_ble_eq_true rfl⟩) (zx_preV (q0 := 0) hT (zq_Pl hP) hK (zq_Dl hD) hN hZ hS hA rfl rfl) rfl rfl hl.1 rfl (lv_room (Nat.le_of_ble_eq_true rfl)) dL_distance_4 ⟨Nat.le_of_ble_eq_true rfl, Nat.le_of_ble_eq_true rfl⟩) (fun _ _ _ h => h) (fun q9 H locs hP hD hS => ?_)
  have hP : va_P (dC, dI) vcl ((zc_C c0 q v sv loc slw wst) ++ zy_O ou cJ fo) H := hP
  have hD : va_D A ((zc_C c0 q v sv loc slw wst) ++ zy_O ou cJ fo) := hD
  refine W.eq (g2 := F0 m 11 ls [.ref q9]) rfl ?_
  refine lv_astore_n (lv' := [(3, .ref q9), (0, .ref c0), (1, .int k), (2, .ref ou)]) hx hb dL_distance_11 rfl hl (by decide) rfl (fun ls hl => ?_)
  refine lv_iconst (v := 1) hx hb dL_distance_12 (by decide) ?_
  exact zy_iret hx hb hr hlocks dL_distance_13 (rfl) (Nat.le_of_ble_eq_true rfl) (Nat.le_of_ble_eq_true rfl) hAe hP hD hS
set_option maxHeartbeats 4000000 in
set_option maxRecDepth 100000 in
theorem ct_L_distance_0 (l : Launch) (hlt : l.stackTraces = false) {dC : Nat → ClassId} {dI : Nat → Nat → Nat} {cJ cI cB cZ cS : ClassId} {sz : Nat} {o a b d : Nat} {den rch pol exg str : Int32} {xp rdl rds : Int64} {off del arr : Nat → Int64} {n : Nat} {c0 q r v sv : Nat} {g : Nat → Option Nat} {loc slw : Int64} {wst : Int32} {row : Nat → Int32} {k : Nat} (hk : k < 5) (hg : g k = some o) {ou : Nat} {fo : Nat → Int64} (h0 : n = 0) : vx_Met l yL_distance [Cond.codeWith yL_distance cL_distance 4 (some .int) hhL_distance] { frames := 8, cells := 1, slots := 6, locals := 124 } (va_Pc [.ref c0, .int (nI k), .ref ou] (zy_B (dC, dI) vcl (zz_T cJ cI cB cZ cS) ((zs_W o a b d cJ den rch pol exg xp (nI n) str rdl rds off del arr ++ (zc_C c0 q v sv loc slw wst ++ (zp_W q r cB row ++ zc_S sv cS g))) ++ zy_O ou cJ fo) sz)) (zq_Q (dC, dI) vcl (some (.int 2)) ((zs_W o a b d cJ den rch pol exg xp (nI n) str rdl rds off del arr ++ (zc_C c0 q v sv loc slw wst ++ (zp_W q r cB row ++ zc_S sv cS g))) ++ zy_O ou cJ fo) ((zs_W o a b d cJ den rch pol exg xp (nI n) str rdl rds off del arr ++ (zc_C c0 q v sv loc slw wst ++ (zp_W q r cB row ++ zc_S sv cS g))) ++ zy_O ou cJ fo) sz) zy_X 1 6 (va_A ((zs_W o a b d cJ den rch pol exg xp (nI n) str rdl rds off del arr ++ (zc_C c0 q v sv loc slw wst ++ (zp_W q r cB row ++ zc_S sv cS g))) ++ zy_O ou cJ fo) sz) := by
  refine vx_ofWH (cc := cL_distance) (maxL := 4) (ret := (some .int)) (hh := hhL_distance) (by decide) rfl ?_
  intro p e s m args below meth c s₁ B hml hv
  obtain ⟨rfl, ⟨⟨hsz, hT, hP, hK, hD0⟩, hN, hZ⟩, hC⟩ := hv
  subst hsz
  have htb := vx_table (x := yL_distance) B (hT.w th_L_distance.1)
  have hx := B.exec
  have hb := B.bytes
  have hr := B.returns
  have hlocks := B.notSynchronized
  have hown : s.vm.findClass RL = some m.cls := findClass_of_methodNamed B.named
  have hD := hD0.self (sz := s.heap.size)
  generalize hAe : va_A ((zs_W o a b d cJ den rch pol exg xp (nI n) str rdl rds off del arr ++ (zc_C c0 q v sv loc slw wst ++ (zp_W q r cB row ++ zc_S sv cS g))) ++ zy_O ou cJ fo) s.heap.size = A at hD hZ ⊢
  have hA : ∀ q : Nat, s.heap.size ≤ q → A q := fun q h => by rw [← hAe]; exact Or.inr h
  have hS : va_S A s.heap s.heap [] := va_S.rf
  have hl := lv_entry ([.ref c0, .int (nI k), .ref ou]) (n := 4) (Nat.le_of_ble_eq_true rfl)
  rw [lg_entry_eq]
  generalize (lg_sl ([.ref c0, .int (nI k), .ref ou]) ++ List.replicate (4 - (lg_sl ([.ref c0, .int (nI k), .ref ou])).length) Slot.unset).toArray = ls at hl ⊢
  have hl : lv_has ls 4 [(0, .ref c0), (1, .int (nI k)), (2, .ref ou)] := hl
  refine lv_aload_n hx hb dL_distance_0 rfl (lv_at hl 2 rfl) ?_
  refine lv_iconst (v := 0) hx hb dL_distance_1 (by decide) ?_
  refine lv_aload_n hx hb dL_distance_2 rfl (lv_at hl 0 rfl) ?_
  refine lv_iload_n hx hb dL_distance_3 rfl (lv_at hl 1 rfl) ?_
  refine zy_caught (x := ⟨0, 8, 14, 47⟩) (pre := [⟨0, 8, 11, 19⟩]) (suf := []) htb rfl hown hT hN (zy_pc (Or.inr ⟨by decide, _, hT.w tw_311, hC.2.2.2.2.1⟩) zy_p0) (by decide) (by decide) tw_464 tw_475 (List.Perm.refl _) (List.Perm.refl _) hA hP hD hS (vx_runV (Ts := []) (As := [.int (nI k)]) (own := RL) ⟨hx, hb, hml, hown, fun _ h => nomatch h⟩ (ct_C_distance_0 l hlt hk hg h0) (zt_cv hT tc_C_distance tv_C_distance tw_514 ⟨Nat.le_of_ble_eq_true rfl, Nat.le_of_ble_eq_true rfl⟩) (zx_preV (q0 := 4) hT (zq_Pl hP) hK (zq_Dl hD) hN hZ hS hA rfl rfl) rfl rfl hl.1 rfl (lv_room (Nat.le_of_ble_eq_true rfl)) dL_distance_4 ⟨Nat.le_of_ble_eq_true rfl, Nat.le_of_ble_eq_true rfl⟩) (fun _ _ _ h => h) (fun q9 H locs hP hD hS => ?_)
  have hP : va_P (dC, dI) vcl ((zs_W o a b d cJ den rch pol exg xp (nI n) str rdl rds off del arr ++ (zc_C c0 q v sv loc slw wst ++ (zp_W q r cB row ++ zc_S sv cS g))) ++ zy_O ou cJ fo) H := hP
  have hD : va_D A ((zs_W o a b d cJ den rch pol exg xp (nI n) str rdl rds off del arr ++ (zc_C c0 q v sv loc slw wst ++ (zp_W q r cB row ++ zc_S sv cS g))) ++ zy_O ou cJ fo) := hD
  refine W.eq (g2 := F0 m 14 ls [.ref q9]) rfl ?_
  refine lv_astore_n (lv' := [(3, .ref q9), (0, .ref c0), (1, .int (nI k)), (2, .ref ou)]) hx hb dL_distance_14 rfl hl (by decide) rfl (fun ls hl => ?_)
  refine lv_iconst (v := 2) hx hb dL_distance_15 (by decide) ?_
  exact zy_iret hx hb hr hlocks dL_distance_16 (rfl) (Nat.le_of_ble_eq_true rfl) (Nat.le_of_ble_eq_true rfl) hAe hP hD hS
set_option maxHeartbeats 4000000 in
set_option maxRecDepth 100000 in
theorem ct_L_distance_ok (l : Launch) (hlt : l.stackTraces = false) {dC : Nat → ClassId} {dI : Nat → Nat → Nat} {cJ cI cB cZ cS : ClassId} {sz : Nat} {o a b d : Nat} {den rch pol exg str : Int32} {xp rdl rds : Int64} {off del arr : Nat → Int64} {n : Nat} {c0 q r v sv : Nat} {g : Nat → Option Nat} {loc slw : Int64} {wst : Int32} {row : Nat → Int32} {k : Nat} (hk : k < 5) (hg : g k = some o) {ou : Nat} {fo : Nat → Int64} (h0 : ¬ n = 0) (hn : n ≤ 8) : vx_Met l yL_distance [Cond.codeWith yL_distance cL_distance 4 (some .int) hhL_distance] { frames := 5, cells := 1, slots := 6, locals := 118 } (va_Pc [.ref c0, .int (nI k), .ref ou] (zy_B (dC, dI) vcl (zz_T cJ cI cB cZ cS) ((zs_W o a b d cJ den rch pol exg xp (nI n) str rdl rds off del arr ++ (zc_C c0 q v sv loc slw wst ++ (zp_W q r cB row ++ zc_S sv cS g))) ++ zy_O ou cJ fo) sz)) (zq_Q (dC, dI) vcl (some (.int 0)) ((zs_W o a b d cJ den rch pol exg xp (nI n) str rdl rds off del arr ++ (zc_C c0 q v sv loc slw wst ++ (zp_W q r cB row ++ zc_S sv cS g))) ++ zy_O ou cJ fo) ((zs_W o a b d cJ den rch pol exg xp (nI n) str rdl rds off del arr ++ (zc_C c0 q v sv loc slw wst ++ (zp_W q r cB row ++ zc_S sv cS g))) ++ zy_O ou cJ (vp_updL fo 0 (zs_root rdl rds off del arr loc n))) sz) zy_X 1 6 (va_A ((zs_W o a b d cJ den rch pol exg xp (nI n) str rdl rds off del arr ++ (zc_C c0 q v sv loc slw wst ++ (zp_W q r cB row ++ zc_S sv cS g))) ++ zy_O ou cJ fo) sz) := by
  refine vx_ofWH (cc := cL_distance) (maxL := 4) (ret := (some .int)) (hh := hhL_distance) (by decide) rfl ?_
  intro p e s m args below meth c s₁ B hml hv
  obtain ⟨rfl, ⟨⟨hsz, hT, hP, hK, hD0⟩, hN, hZ⟩, hC⟩ := hv
  subst hsz
  have htb := vx_table (x := yL_distance) B (hT.w th_L_distance.1)
  have hx := B.exec
  have hb := B.bytes
  have hr := B.returns
  have hlocks := B.notSynchronized
  have hown : s.vm.findClass RL = some m.cls := findClass_of_methodNamed B.named
  have hD := hD0.self (sz := s.heap.size)
  generalize hAe : va_A ((zs_W o a b d cJ den rch pol exg xp (nI n) str rdl rds off del arr ++ (zc_C c0 q v sv loc slw wst ++ (zp_W q r cB row ++ zc_S sv cS g))) ++ zy_O ou cJ fo) s.heap.size = A at hD hZ ⊢
  have hA : ∀ q : Nat, s.heap.size ≤ q → A q := fun q h => by rw [← hAe]; exact Or.inr h
  have hS : va_S A s.heap s.heap [] := va_S.rf
  have hl := lv_entry ([.ref c0, .int (nI k), .ref ou]) (n := 4) (Nat.le_of_ble_eq_true rfl)
  rw [lg_entry_eq]
  generalize (lg_sl ([.ref c0, .int (nI k), .ref ou]) ++ List.replicate (4 - (lg_sl ([.ref c0, .int (nI k), .ref ou])).length) Slot.unset).toArray = ls at hl ⊢
  have hl : lv_has ls 4 [(0, .ref c0), (1, .int (nI k)), (2, .ref ou)] := hl
  refine lv_aload_n hx hb dL_distance_0 rfl (lv_at hl 2 rfl) ?_
  refine lv_iconst (v := 0) hx hb dL_distance_1 (by decide) ?_
  refine lv_aload_n hx hb dL_distance_2 rfl (lv_at hl 0 rfl) ?_
  refine lv_iload_n hx hb dL_distance_3 rfl (lv_at hl 1 rfl) ?_
  refine zz_call (va_runV (Ts := []) (As := [.int (nI k)]) (own := RL) ⟨hx, hb, hml, hown, fun _ h => nomatch h⟩ (ct_C_distance l hk hg h0 hn) (zt_cv hT tc_C_distance tv_C_distance tw_514 ⟨Nat.le_of_ble_eq_true rfl, Nat.le_of_ble_eq_true rfl⟩) (zz_preV (q0 := 4) hT (zq_Pl hP) hK rfl rfl) rfl rfl hl.1 rfl (lv_room (Nat.le_of_ble_eq_true rfl)) dL_distance_4 ⟨Nat.zero_le _, Nat.zero_le _⟩) ?_
  refine zq_last hx hb hK hP hD hS 8 0 rfl rfl 0 rfl (by first | omega | decide | assumption) (by decide) dL_distance_7 (fun H locs hP hD hS => ?_)
  have hP : va_P (dC, dI) vcl ((zs_W o a b d cJ den rch pol exg xp (nI n) str rdl rds off del arr ++ (zc_C c0 q v sv loc slw wst ++ (zp_W q r cB row ++ zc_S sv cS g))) ++ zy_O ou cJ (vp_updL fo 0 (zs_root rdl rds off del arr loc n))) H := hP
  have hD : va_D A ((zs_W o a b d cJ den rch pol exg xp (nI n) str rdl rds off del arr ++ (zc_C c0 q v sv loc slw wst ++ (zp_W q r cB row ++ zc_S sv cS g))) ++ zy_O ou cJ (vp_updL fo 0 (zs_root rdl rds off del arr loc n))) := hD
  refine lv_goto (tgt := 17) hx hb dL_distance_8 (by decide) ?_
  refine lv_iconst (v := 0) hx hb dL_distance_17 (by decide) ?_
  exact zy_iret hx hb hr hlocks dL_distance_18 (rfl) (Nat.le_of_ble_eq_true rfl) (Nat.le_of_ble_eq_true rfl) hAe hP hD hS
