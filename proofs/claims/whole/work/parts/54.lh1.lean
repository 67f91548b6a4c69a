/-! The law's helpers: run, put, echo -/
set_option maxHeartbeats 4000000 in
set_option maxRecDepth 100000 in
theorem ct_L_run_ok (l : Launch) (hlt : l.stackTraces = false) {dC : Nat → ClassId} {dI : Nat → Nat → Nat} {cJ cI cB cZ cS : ClassId} {sz : Nat} {c0 q v sv : Nat} {loc slw : Int64} {wst : Int32} {ou : Nat} {fo : Nat → Int64} {x : Int64} (h0 : ¬ x < 0) (h1m : ¬ 1099511627776 < x) : vx_Met l yL_run [Cond.codeWith yL_run cL_run 4 (some .int) hhL_run] { frames := 2, cells := 1, slots := 6, locals := 49 } (va_Pc [.ref c0, .long x] (zy_B (dC, dI) vcl (zz_T cJ cI cB cZ cS) ((zc_C c0 q v sv loc slw wst) ++ zy_O ou cJ fo) sz)) (zq_Q (dC, dI) vcl (some (.int 0)) ((zc_C c0 q v sv loc slw wst) ++ zy_O ou cJ fo) ((zc_C c0 q v sv (loc + (x + (zn_max (-(x / 2048)) (zn_min (x / 2048) slw)))) (slw - (zn_max (-(x / 2048)) (zn_min (x / 2048) slw))) wst) ++ zy_O ou cJ fo) sz) zy_X 1 6 (va_A ((zc_C c0 q v sv loc slw wst) ++ zy_O ou cJ fo) sz) := by
  refine vx_ofWH (cc := cL_run) (maxL := 4) (ret := (some .int)) (hh := hhL_run) (by decide) rfl ?_
  intro p e s m args below meth c s₁ B hml hv
  obtain ⟨rfl, ⟨⟨hsz, hT, hP, hK, hD0⟩, hN, hZ⟩, hC⟩ := hv
  subst hsz
  have htb := vx_table (x := yL_run) B (hT.w th_L_run.1)
  have hx := B.exec
  have hb := B.bytes
  have hr := B.returns
  have hlocks := B.notSynchronized
  have hown : s.vm.findClass RL = some m.cls := findClass_of_methodNamed B.named
  have hD := hD0.self (sz := s.heap.size)
  generalize hAe : va_A ((zc_C c0 q v sv loc slw wst) ++ zy_O ou cJ fo) s.heap.size = A at hD hZ ⊢
  have hA : ∀ q : Nat, s.heap.size ≤ q → A q := fun q h => by rw [← hAe]; exact Or.inr h
  have hS : va_S A s.heap s.heap [] := va_S.rf
  have hl := lv_entry ([.ref c0, .long x]) (n := 4) (Nat.le_of_ble_eq_true rfl)
  rw [lg_entry_eq]
  generalize (lg_sl ([.ref c0, .long x]) ++ List.replicate (4 - (lg_sl ([.ref c0, .long x])).length) Slot.unset).toArray = ls at hl ⊢
  have hl : lv_has ls 4 [(0, .ref c0), (1, .long x)] := hl
  refine lv_aload_n hx hb dL_run_0 rfl (lv_at hl 0 rfl) ?_
  refine lv_lload_n hx hb dL_run_1 rfl (lv_at hl 1 rfl) ?_
  refine zq_call (va_runV (Ts := []) (As := [.long x]) (own := RL) ⟨hx, hb, hml, hown, fun _ h => nomatch h⟩ (ct_C_run l h0 h1m) (zt_cv hT tc_C_run tv_C_run tw_235 ⟨Nat.le_of_ble_eq_true rfl, Nat.le_of_ble_eq_true rfl⟩) (zq_preV (q0 := 0) hT (zq_Pl hP) hK (zq_Dl hD) rfl rfl) rfl rfl hl.1 rfl (lv_room (Nat.le_of_ble_eq_true rfl)) dL_run_2 ⟨Nat.zero_le _, Nat.zero_le _⟩) hP hD hS hA (fun H locs hP hD hS => ?_)
  have hP : va_P (dC, dI) vcl ((zc_C c0 q v sv (loc + (x + (zn_max (-(x / 2048)) (zn_min (x / 2048) slw)))) (slw - (zn_max (-(x / 2048)) (zn_min (x / 2048) slw))) wst) ++ zy_O ou cJ fo) H := hP
  have hD : va_D A ((zc_C c0 q v sv (loc + (x + (zn_max (-(x / 2048)) (zn_min (x / 2048) slw)))) (slw - (zn_max (-(x / 2048)) (zn_min (x / 2048) slw))) wst) ++ zy_O ou cJ fo) := hD
  refine W.eq (g2 := F0 m 5 ls []) rfl ?_
  refine lv_goto (tgt := 11) hx hb dL_run_5 (by decide) ?_
  refine lv_iconst (v := 0) hx hb dL_run_11 (by decide) ?_
  exact zy_iret hx hb hr hlocks dL_run_12 (rfl) (Nat.le_of_ble_eq_true rfl) (Nat.le_of_ble_eq_true rfl) hAe hP hD hS
set_option maxHeartbeats 4000000 in
set_option maxRecDepth 100000 in
theorem ct_L_run_bad (l : Launch) (hlt : l.stackTraces = false) {dC : Nat → ClassId} {dI : Nat → Nat → Nat} {cJ cI cB cZ cS : ClassId} {sz : Nat} {c0 q v sv : Nat} {loc slw : Int64} {wst : Int32} {ou : Nat} {fo : Nat → Int64} {x : Int64} (hx0 : x < 0 ∨ 1099511627776 < x) : vx_Met l yL_run [Cond.codeWith yL_run cL_run 4 (some .int) hhL_run] { frames := 7, cells := 1, slots := 6, locals := 107 } (va_Pc [.ref c0, .long x] (zy_B (dC, dI) vcl (zz_T cJ cI cB cZ cS) ((zc_C c0 q v sv loc slw wst) ++ zy_O ou cJ fo) sz)) (zq_Q (dC, dI) vcl (some (.int 1)) ((zc_C c0 q v sv loc slw wst) ++ zy_O ou cJ fo) ((zc_C c0 q v sv loc slw wst) ++ zy_O ou cJ fo) sz) zy_X 1 6 (va_A ((zc_C c0 q v sv loc slw wst) ++ zy_O ou cJ fo) sz) := by
  refine vx_ofWH (cc := cL_run) (maxL := 4) (ret := (some .int)) (hh := hhL_run) (by decide) rfl ?_
  intro p e s m args below meth c s₁ B hml hv
  obtain ⟨rfl, ⟨⟨hsz, hT, hP, hK, hD0⟩, hN, hZ⟩, hC⟩ := hv
  subst hsz
  have htb := vx_table (x := yL_run) B (hT.w th_L_run.1)
  have hx := B.exec
  have hb := B.bytes
  have hr := B.returns
  have hlocks := B.notSynchronized
  have hown : s.vm.findClass RL = some m.cls := findClass_of_methodNamed B.named
  have hD := hD0.self (sz := s.heap.size)
  generalize hAe : va_A ((zc_C c0 q v sv loc slw wst) ++ zy_O ou cJ fo) s.heap.size = A at hD hZ ⊢
  have hA : ∀ q : Nat, s.heap.size ≤ q → A q := fun q h => by rw [← hAe]; exact Or.inr h
  have hS : va_S A s.heap s.heap [] := va_S.rf
  have hl := lv_entry ([.ref c0, .long x]) (n := 4) (Nat.le_of_ble_eq_true rfl)
  rw [lg_entry_eq]
  generalize (lg_sl ([.ref c0, .long x]) ++ List.replicate (4 - (lg_sl ([.ref c0, .long x])).length) Slot.unset).toArray = ls at hl ⊢
  have hl : lv_has ls 4 [(0, .ref c0), (1, .long x)] := hl
  refine lv_aload_n hx hb dL_run_0 rfl (lv_at hl 0 rfl) ?_
  refine lv_lload_n hx hb dL_run_1 rfl (lv_at hl 1 rfl) ?_
  refine zy_caught (x := ⟨0, 5, 8, 13⟩) (pre := []) (suf := []) htb rfl hown hT hN zy_p0 (by decide) (by decide) tw_234 tw_242 (List.Perm.refl _) (List.Perm.refl _) hA hP hD hS (vx_runV (Ts := []) (As := [.long x]) (own := RL) ⟨hx, hb, hml, hown, fun _ h => nomatch h⟩ (ct_C_run_bad l hlt hx0) (zt_cv hT tc_C_run tv_C_run tw_235 ⟨Nat.le_of_ble_eq_true rfl, Nat.le_of_ble_eq_true rfl⟩) (zx_preV (q0 := 0) hT (zq_Pl hP) hK (zq_Dl hD) hN hZ hS hA rfl rfl) rfl rfl hl.1 rfl (lv_room (Nat.le_of_ble_eq_true rfl)) dL_run_2 ⟨Nat.le_of_ble_eq_true rfl, Nat.le_of_ble_eq_true rfl⟩) (fun _ _ _ h => h) (fun q9 H locs hP hD hS => ?_)
  have hP : va_P (dC, dI) vcl ((zc_C c0 q v sv loc slw wst) ++ zy_O ou cJ fo) H := hP
  have hD : va_D A ((zc_C c0 q v sv loc slw wst) ++ zy_O ou cJ fo) := hD
  refine W.eq (g2 := F0 m 8 ls [.ref q9]) rfl ?_
  refine lv_astore_n (lv' := [(3, .ref q9), (0, .ref c0), (1, .long x)]) hx hb dL_run_8 rfl hl (by decide) rfl (fun ls hl => ?_)
  refine lv_iconst (v := 1) hx hb dL_run_9 (by decide) ?_
  exact zy_iret hx hb hr hlocks dL_run_10 (rfl) (Nat.le_of_ble_eq_true rfl) (Nat.le_of_ble_eq_true rfl) hAe hP hD hS
set_option maxHeartbeats 4000000 in
set_option maxRecDepth 100000 in
theorem ct_L_put_ok (l : Launch) (hlt : l.stackTraces = false) {dC : Nat → ClassId} {dI : Nat → Nat → Nat} {cJ cI cB cZ cS : ClassId} {sz : Nat} {c0 q v sv : Nat} {loc slw : Int64} {wst : Int32} {ou : Nat} {fo : Nat → Int64} {r u w : Nat} {row : Nat → Int32} {x : Int64} (h1w : 1 ≤ w) (hw8 : w ≤ 8) (huw : u + w ≤ 48) : vx_Met l yL_put [Cond.codeWith yL_put cL_put 6 (some .int) hhL_put] { frames := 2, cells := 1, slots := 6, locals := 49 } (va_Pc [.ref c0, .int (nI u), .long x, .int (nI w)] (zy_B (dC, dI) vcl (zz_T cJ cI cB cZ cS) ((zp_W q r cB row ++ zc_C c0 q v sv loc slw wst) ++ zy_O ou cJ fo) sz)) (zq_Q (dC, dI) vcl (some (.int 0)) ((zp_W q r cB row ++ zc_C c0 q v sv loc slw wst) ++ zy_O ou cJ fo) ((zp_W q r cB (zp_wr row u x w w) ++ zc_C c0 q v sv loc slw wst) ++ zy_O ou cJ fo) sz) zy_X 1 6 (va_A ((zp_W q r cB row ++ zc_C c0 q v sv loc slw wst) ++ zy_O ou cJ fo) sz) := by
  refine vx_ofWH (cc := cL_put) (maxL := 6) (ret := (some .int)) (hh := hhL_put) (by decide) rfl ?_
  intro p e s m args below meth c s₁ B hml hv
  obtain ⟨rfl, ⟨⟨hsz, hT, hP, hK, hD0⟩, hN, hZ⟩, hC⟩ := hv
  subst hsz
  have htb := vx_table (x := yL_put) B (hT.w th_L_put.1)
  have hx := B.exec
  have hb := B.bytes
  have hr := B.returns
  have hlocks := B.notSynchronized
  have hown : s.vm.findClass RL = some m.cls := findClass_of_methodNamed B.named
  have hD := hD0.self (sz := s.heap.size)
  generalize hAe : va_A ((zp_W q r cB row ++ zc_C c0 q v sv loc slw wst) ++ zy_O ou cJ fo) s.heap.size = A at hD hZ ⊢
  have hA : ∀ q : Nat, s.heap.size ≤ q → A q := fun q h => by rw [← hAe]; exact Or.inr h
  have hS : va_S A s.heap s.heap [] := va_S.rf
  have hl := lv_entry ([.ref c0, .int (nI u), .long x, .int (nI w)]) (n := 6) (Nat.le_of_ble_eq_true rfl)
  rw [lg_entry_eq]
  generalize (lg_sl ([.ref c0, .int (nI u), .long x, .int (nI w)]) ++ List.replicate (6 - (lg_sl ([.ref c0, .int (nI u), .long x, .int (nI w)])).length) Slot.unset).toArray = ls at hl ⊢
  have hl : lv_has ls 6 [(0, .ref c0), (1, .int (nI u)), (2, .long x), (4, .int (nI w))] := hl
  refine lv_aload_n hx hb dL_put_0 rfl (lv_at hl 0 rfl) ?_
  refine lv_iload_n hx hb dL_put_1 rfl (lv_at hl 1 rfl) ?_
  refine lv_lload_n hx hb dL_put_2 rfl (lv_at hl 2 rfl) ?_
  refine lv_iload hx hb dL_put_3 (lv_at hl 3 rfl) ?_
  refine zq_call (va_runV (Ts := []) (As := [.int (nI u), .long x, .int (nI w)]) (own := RL) ⟨hx, hb, hml, hown, fun _ h => nomatch h⟩ (ct_C_put l h1w hw8 huw) (zt_cv hT tc_C_put tv_C_put tw_312 ⟨Nat.le_of_ble_eq_true rfl, Nat.le_of_ble_eq_true rfl⟩) (zq_preV (q0 := 2) hT (zq_Pl hP) hK (zq_Dl hD) rfl rfl) rfl rfl hl.1 rfl (lv_room (Nat.le_of_ble_eq_true rfl)) dL_put_5 ⟨Nat.zero_le _, Nat.zero_le _⟩) hP hD hS hA (fun H locs hP hD hS => ?_)
  have hP : va_P (dC, dI) vcl ((zp_W q r cB (zp_wr row u x w w) ++ zc_C c0 q v sv loc slw wst) ++ zy_O ou cJ fo) H := hP
  have hD : va_D A ((zp_W q r cB (zp_wr row u x w w) ++ zc_C c0 q v sv loc slw wst) ++ zy_O ou cJ fo) := hD
  refine W.eq (g2 := F0 m 8 ls []) rfl ?_
  refine lv_goto (tgt := 19) hx hb dL_put_8 (by decide) ?_
  refine lv_iconst (v := 0) hx hb dL_put_19 (by decide) ?_
  exact zy_iret hx hb hr hlocks dL_put_20 (rfl) (Nat.le_of_ble_eq_true rfl) (Nat.le_of_ble_eq_true rfl) hAe hP hD hS
set_option maxHeartbeats 4000000 in
set_option maxRecDepth 100000 in
theorem ct_L_put_bad (l : Launch) (hlt : l.stackTraces = false) {dC : Nat → ClassId} {dI : Nat → Nat → Nat} {cJ cI cB cZ cS : ClassId} {sz : Nat} {c0 q v sv : Nat} {loc slw : Int64} {wst : Int32} {ou : Nat} {fo : Nat → Int64} {u w : Int32} {x : Int64} (hw : w < 1 ∨ 8 < w) : vx_Met l yL_put [Cond.codeWith yL_put cL_put 6 (some .int) hhL_put] { frames := 7, cells := 1, slots := 6, locals := 105 } (va_Pc [.ref c0, .int u, .long x, .int w] (zy_B (dC, dI) vcl (zz_T cJ cI cB cZ cS) ((zc_C c0 q v sv loc slw wst) ++ zy_O ou cJ fo) sz)) (zq_Q (dC, dI) vcl (some (.int 1)) ((zc_C c0 q v sv loc slw wst) ++ zy_O ou cJ fo) ((zc_C c0 q v sv loc slw wst) ++ zy_O ou cJ fo) sz) zy_X 1 6 (va_A ((zc_C c0 q v sv loc slw wst) ++ zy_O ou cJ fo) sz) := by
  refine vx_ofWH (cc := cL_put) (maxL := 6) (ret := (some .int)) (hh := hhL_put) (by decide) rfl ?_
  intro p e s m args below meth c s₁ B hml hv
  obtain ⟨rfl, ⟨⟨hsz, hT, hP, hK, hD0⟩, hN, hZ⟩, hC⟩ := hv
  subst hsz
  have htb := vx_table (x := yL_put) B (hT.w th_L_put.1)
  have hx := B.exec
  have hb := B.bytes
  have hr := B.returns
  have hlocks := B.notSynchronized
  have hown : s.vm.findClass RL = some m.cls := findClass_of_methodNamed B.named
  have hD := hD0.self (sz := s.heap.size)
  generalize hAe : va_A ((zc_C c0 q v sv loc slw wst) ++ zy_O ou cJ fo) s.heap.size = A at hD hZ ⊢
  have hA : ∀ q : Nat, s.heap.size ≤ q → A q := fun q h => by rw [← hAe]; exact Or.inr h
  have hS : va_S A s.heap s.heap [] := va_S.rf
  have hl := lv_entry ([.ref c0, .int u, .long x, .int w]) (n := 6) (Nat.le_of_ble_eq_true rfl)
  rw [lg_entry_eq]
  generalize (lg_sl ([.ref c0, .int u, .long x, .int w]) ++ List.replicate (6 - (lg_sl ([.ref c0, .int u, .long x, .int w])).length) Slot.unset).toArray = ls at hl ⊢
  have hl : lv_has ls 6 [(0, .ref c0), (1, .int u), (2, .long x), (4, .int w)] := hl
  refine lv_aload_n hx hb dL_put_0 rfl (lv_at hl 0 rfl) ?_
  refine lv_iload_n hx hb dL_put_1 rfl (lv_at hl 1 rfl) ?_
  refine lv_lload_n hx hb dL_put_2 rfl (lv_at hl 2 rfl) ?_
  refine lv_iload hx hb dL_put_3 (lv_at hl 3 rfl) ?_
  refine zy_caught (x := ⟨0, 8, 11, 13⟩) (pre := []) (suf := [⟨0, 8, 15, 19⟩]) htb rfl hown hT hN zy_p0 (by decide) (by decide) tw_234 tw_242 (List.Perm.refl _) (List.Perm.refl _) hA hP hD hS (vx_runV (Ts := []) (As := [.int u, .long x, .int w]) (own := RL) ⟨hx, hb, hml, hown, fun _ h => nomatch h⟩ (ct_C_put_bad l hlt hw) (zt_cv hT tc_C_put tv_C_put tw_312 ⟨Nat.le_of_ble_eq_true rfl, Nat.le_of_ble_eq_true rfl⟩) (zx_preV (q0 := 0) hT (zq_Pl hP) hK (zq_Dl hD) hN hZ hS hA rfl rfl) rfl rfl hl.1 rfl (lv_room (Nat.le_of_ble_eq_true rfl)) dL_put_5 ⟨Nat.le_of_ble_eq_true rfl, Nat.le_of_ble_eq_true rfl⟩) (fun _ _ _ h => h) (fun q9 H locs hP hD hS => ?_)
  have hP : va_P (dC, dI) vcl ((zc_C c0 q v sv loc slw wst) ++ zy_O ou cJ fo) H := hP
  have hD : va_D A ((zc_C c0 q v sv loc slw wst) ++ zy_O ou cJ fo) := hD
  refine W.eq (g2 := F0 m 11 ls [.ref q9]) rfl ?_
  refine lv_astore (lv' := [(5, .ref q9), (0, .ref c0), (1, .int u), (2, .long x), (4, .int w)]) hx hb dL_put_11 hl (by decide) rfl (fun ls hl => ?_)
  refine lv_iconst (v := 1) hx hb dL_put_13 (by decide) ?_
  exact zy_iret hx hb hr hlocks dL_put_14 (rfl) (Nat.le_of_ble_eq_true rfl) (Nat.le_of_ble_eq_true rfl) hAe hP hD hS
set_option maxHeartbeats 4000000 in
set_option maxRecDepth 100000 in
theorem ct_L_put_out (l : Launch) (hlt : l.stackTraces = false) {dC : Nat → ClassId} {dI : Nat → Nat → Nat} {cJ cI cB cZ cS : ClassId} {sz : Nat} {c0 q v sv : Nat} {loc slw : Int64} {wst : Int32} {ou : Nat} {fo : Nat → Int64} {u w : Int32} {x : Int64} (hw : ¬ w < 1) (hw8 : ¬ 8 < w) (hu : u < 0 ∨ 48 - w < u) : vx_Met l yL_put [Cond.codeWith yL_put cL_put 6 (some .int) hhL_put] { frames := 7, cells := 1, slots := 6, locals := 105 } (va_Pc [.ref c0, .int u, .long x, .int w] (zy_B (dC, dI) vcl (zz_T cJ cI cB cZ cS) ((zc_C c0 q v sv loc slw wst) ++ zy_O ou cJ fo) sz)) (zq_Q (dC, dI) vcl (some (.int 2)) ((zc_C c0 q v sv loc slw wst) ++ zy_O ou cJ fo) ((zc_C c0 q v sv loc slw wst) ++ zy_O ou cJ fo) sz) zy_X 1 6 (va_A ((zc_C c0 q v sv loc slw wst) ++ zy_O ou cJ fo) sz) := by
  refine vx_ofWH (cc := cL_put) (maxL := 6) (ret := (some .int)) (hh := hhL_put) (by decide) rfl ?_
  intro p e s m args below meth c s₁ B hml hv
  obtain ⟨rfl, ⟨⟨hsz, hT, hP, hK, hD0⟩, hN, hZ⟩, hC⟩ := hv
  subst hsz
  have htb := vx_table (x := yL_put) B (hT.w th_L_put.1)
  have hx := B.exec
  have hb := B.bytes
  have hr := B.returns
  have hlocks := B.notSynchronized
  have hown : s.vm.findClass RL = some m.cls := findClass_of_methodNamed B.named
  have hD := hD0.self (sz := s.heap.size)
  generalize hAe : va_A ((zc_C c0 q v sv loc slw wst) ++ zy_O ou cJ fo) s.heap.size = A at hD hZ ⊢
  have hA : ∀ q : Nat, s.heap.size ≤ q → A q := fun q h => by rw [← hAe]; exact Or.inr h
  have hS : va_S A s.heap s.heap [] := va_S.rf
  have hl := lv_entry ([.ref c0, .int u, .long x, .int w]) (n := 6) (Nat.le_of_ble_eq_true rfl)
  rw [lg_entry_eq]
  generalize (lg_sl ([.ref c0, .int u, .long x, .int w]) ++ List.replicate (6 - (lg_sl ([.ref c0, .int u, .long x, .int w])).length) Slot.unset).toArray = ls at hl ⊢
  have hl : lv_has ls 6 [(0, .ref c0), (1, .int u), (2, .long x), (4, .int w)] := hl
  refine lv_aload_n hx hb dL_put_0 rfl (lv_at hl 0 rfl) ?_
  refine lv_iload_n hx hb dL_put_1 rfl (lv_at hl 1 rfl) ?_
  refine lv_lload_n hx hb dL_put_2 rfl (lv_at hl 2 rfl) ?_
  refine lv_iload hx hb dL_put_3 (lv_at hl 3 rfl) ?_
  refine zy_caught (x := ⟨0, 8, 15, 19⟩) (pre := [⟨0, 8, 11, 13⟩]) (suf := []) htb rfl hown hT hN (zy_pc (Or.inr ⟨by decide, _, hT.w tw_234, hC.1⟩) zy_p0) (by decide) (by decide) tw_311 tw_318 (List.Perm.refl _) (List.Perm.refl _) hA hP hD hS (vx_runV (Ts := []) (As := [.int u, .long x, .int w]) (own := RL) ⟨hx, hb, hml, hown, fun _ h => nomatch h⟩ (ct_C_put_out l hlt hw hw8 hu) (zt_cv hT tc_C_put tv_C_put tw_312 ⟨Nat.le_of_ble_eq_true rfl, Nat.le_of_ble_eq_true rfl⟩) (zx_preV (q0 := 0) hT (zq_Pl hP) hK (zq_Dl hD) hN hZ hS hA rfl rfl) rfl rfl hl.1 rfl (lv_room (Nat.le_of_ble_eq_true rfl)) dL_put_5 ⟨Nat.le_of_ble_eq_true rfl, Nat.le_of_ble_eq_true rfl⟩) (fun _ _ _ h => h) (fun q9 H locs hP hD hS => ?_)
  have hP : va_P (dC, dI) vcl ((zc_C c0 q v sv loc slw wst) ++ zy_O ou cJ fo) H := hP
  have hD : va_D A ((zc_C c0 q v sv loc slw wst) ++ zy_O ou cJ fo) := hD
  refine W.eq (g2 := F0 m 15 ls [.ref q9]) rfl ?_
  refine lv_astore (lv' := [(5, .ref q9), (0, .ref c0), (1, .int u), (2, .long x), (4, .int w)]) hx hb dL_put_15 hl (by decide) rfl (fun ls hl => ?_)
  refine lv_iconst (v := 2) hx hb dL_put_17 (by decide) ?_
  exact zy_iret hx hb hr hlocks dL_put_18 (rfl) (Nat.le_of_ble_eq_true rfl) (Nat.le_of_ble_eq_true rfl) hAe hP hD hS
set_option maxHeartbeats 4000000 in
set_option maxRecDepth 100000 in
theorem ct_L_echo_ok (l : Launch) (hlt : l.stackTraces = false) {dC : Nat → ClassId} {dI : Nat → Nat → Nat} {cJ cI cB cZ cS : ClassId} {sz : Nat} {o a b d : Nat} {den rch pol exg str : Int32} {xp rdl rds : Int64} {off del arr : Nat → Int64} {n : Nat} {c0 q r v sv : Nat} {g : Nat → Option Nat} {loc slw : Int64} {wst : Int32} {row : Nat → Int32} {k : Nat} (hk : k < 5) (hg : g k = some o) {ou : Nat} {fo : Nat → Int64} {y z : Int64} (ha : ¬ exg = 0) : vx_Met l yL_echo [Cond.codeWith yL_echo cL_echo 7 (some .int) hhL_echo] { frames := 2, cells := 1, slots := 6, locals := 51 } (va_Pc [.ref c0, .int (nI k), .long y, .long z] (zy_B (dC, dI) vcl (zz_T cJ cI cB cZ cS) ((zs_W o a b d cJ den rch pol exg xp (nI n) str rdl rds off del arr ++ (zc_C c0 q v sv loc slw wst ++ (zp_W q r cB row ++ zc_S sv cS g))) ++ zy_O ou cJ fo) sz)) (zq_Q (dC, dI) vcl (some (.int 0)) ((zs_W o a b d cJ den rch pol exg xp (nI n) str rdl rds off del arr ++ (zc_C c0 q v sv loc slw wst ++ (zp_W q r cB row ++ zc_S sv cS g))) ++ zy_O ou cJ fo) ((zs_W o a b d cJ den rch pol exg xp (nI n) str rdl rds off del arr ++ (zc_C c0 q v sv loc slw wst ++ (zp_W q r cB (zc_ech row xp (xp + y) (loc + z)) ++ zc_S sv cS g))) ++ zy_O ou cJ fo) sz) zy_X 1 6 (va_A ((zs_W o a b d cJ den rch pol exg xp (nI n) str rdl rds off del arr ++ (zc_C c0 q v sv loc slw wst ++ (zp_W q r cB row ++ zc_S sv cS g))) ++ zy_O ou cJ fo) sz) := by
  refine vx_ofWH (cc := cL_echo) (maxL := 7) (ret := (some .int)) (hh := hhL_echo) (by decide) rfl ?_
  intro p e s m args below meth c s₁ B hml hv
  obtain ⟨rfl, ⟨⟨hsz, hT, hP, hK, hD0⟩, hN, hZ⟩, hC⟩ := hv
  subst hsz
  have htb := vx_table (x := yL_echo) B (hT.w th_L_echo.1)
  have hx := B.exec
  have hb := B.bytes
  have hr := B.returns
  have hlocks := B.notSynchronized
  have hown : s.vm.findClass RL = some m.cls := findClass_of_methodNamed B.named
  have hD := hD0.self (sz := s.heap.size)
  generalize hAe : va_A ((zs_W o a b d cJ den rch pol exg xp (nI n) str rdl rds off del arr ++ (zc_C c0 q v sv loc slw wst ++ (zp_W q r cB row ++ zc_S sv cS g))) ++ zy_O ou cJ fo) s.heap.size = A at hD hZ ⊢
  have hA : ∀ q : Nat, s.heap.size ≤ q → A q := fun q h => by rw [← hAe]; exact Or.inr h
  have hS : va_S A s.heap s.heap [] := va_S.rf
  have hl := lv_entry ([.ref c0, .int (nI k), .long y, .long z]) (n := 7) (Nat.le_of_ble_eq_true rfl)
  rw [lg_entry_eq]
  generalize (lg_sl ([.ref c0, .int (nI k), .long y, .long z]) ++ List.replicate (7 - (lg_sl ([.ref c0, .int (nI k), .long y, .long z])).length) Slot.unset).toArray = ls at hl ⊢
  have hl : lv_has ls 7 [(0, .ref c0), (1, .int (nI k)), (2, .long y), (4, .long z)] := hl
  refine lv_aload_n hx hb dL_echo_0 rfl (lv_at hl 0 rfl) ?_
  refine lv_iload_n hx hb dL_echo_1 rfl (lv_at hl 1 rfl) ?_
  refine lv_lload_n hx hb dL_echo_2 rfl (lv_at hl 2 rfl) ?_
  refine lv_lload hx hb dL_echo_3 (lv_at hl 3 rfl) ?_
  refine zq_call (va_runV (Ts := []) (As := [.int (nI k), .long y, .long z]) (own := RL) ⟨hx, hb, hml, hown, fun _ h => nomatch h⟩ (ct_C_echo l hk hg ha) (zt_cv hT tc_C_echo tv_C_echo tw_339 ⟨Nat.le_of_ble_eq_true rfl, Nat.le_of_ble_eq_true rfl⟩) (zq_preV (q0 := 4) hT (zq_Pl hP) hK (zq_Dl hD) rfl rfl) rfl rfl hl.1 rfl (lv_room (Nat.le_of_ble_eq_true rfl)) dL_echo_5 ⟨Nat.zero_le _, Nat.zero_le _⟩) hP hD hS hA (fun H locs hP hD hS => ?_)
  have hP : va_P (dC, dI) vcl ((zs_W o a b d cJ den rch pol exg xp (nI n) str rdl rds off del arr ++ (zc_C c0 q v sv loc slw wst ++ (zp_W q r cB (zc_ech row xp (xp + y) (loc + z)) ++ zc_S sv cS g))) ++ zy_O ou cJ fo) H := hP
  have hD : va_D A ((zs_W o a b d cJ den rch pol exg xp (nI n) str rdl rds off del arr ++ (zc_C c0 q v sv loc slw wst ++ (zp_W q r cB (zc_ech row xp (xp + y) (loc + z)) ++ zc_S sv cS g))) ++ zy_O ou cJ fo) := hD
  refine W.eq (g2 := F0 m 8 ls []) rfl ?_
  refine lv_goto (tgt := 19) hx hb dL_echo_8 (by decide) ?_
  refine lv_iconst (v := 0) hx hb dL_echo_19 (by decide) ?_
  exact zy_iret hx hb hr hlocks dL_echo_20 (rfl) (Nat.le_of_ble_eq_true rfl) (Nat.le_of_ble_eq_true rfl) hAe hP hD hS
set_option maxHeartbeats 4000000 in
set_option maxRecDepth 100000 in
theorem ct_L_echo_na (l : Launch) (hlt : l.stackTraces = false) {dC : Nat → ClassId} {dI : Nat → Nat → Nat} {cJ cI cB cZ cS : ClassId} {sz : Nat} {o a b d : Nat} {den rch pol exg str : Int32} {xp rdl rds : Int64} {off del arr : Nat → Int64} {n : Nat} {c0 q r v sv : Nat} {g : Nat → Option Nat} {loc slw : Int64} {wst : Int32} {row : Nat → Int32} {k : Nat} (hk : k < 5) (hg : g k = some o) {ou : Nat} {fo : Nat → Int64} {y z : Int64} (ha : exg = 0) : vx_Met l yL_echo [Cond.codeWith yL_echo cL_echo 7 (some .int) hhL_echo] { frames := 7, cells := 1, slots := 6, locals := 107 } (va_Pc [.ref c0, .int (nI k), .long y, .long z] (zy_B (dC, dI) vcl (zz_T cJ cI cB cZ cS) ((zs_W o a b d cJ den rch pol exg xp (nI n) str rdl rds off del arr ++ (zc_C c0 q v sv loc slw wst ++ (zp_W q r cB row ++ zc_S sv cS g))) ++ zy_O ou cJ fo) sz)) (zq_Q (dC, dI) vcl (some (.int 2)) ((zs_W o a b d cJ den rch pol exg xp (nI n) str rdl rds off del arr ++ (zc_C c0 q v sv loc slw wst ++ (zp_W q r cB row ++ zc_S sv cS g))) ++ zy_O ou cJ fo) ((zs_W o a b d cJ den rch pol exg xp (nI n) str rdl rds off del arr ++ (zc_C c0 q v sv loc slw wst ++ (zp_W q r cB row ++ zc_S sv cS g))) ++ zy_O ou cJ fo) sz) zy_X 1 6 (va_A ((zs_W o a b d cJ den rch pol exg xp (nI n) str rdl rds off del arr ++ (zc_C c0 q v sv loc slw wst ++ (zp_W q r cB row ++ zc_S sv cS g))) ++ zy_O ou cJ fo) sz) := by
  refine vx_ofWH (cc := cL_echo) (maxL := 7) (ret := (some .int)) (hh := hhL_echo) (by decide) rfl ?_
  intro p e s m args below meth c s₁ B hml hv
  obtain ⟨rfl, ⟨⟨hsz, hT, hP, hK, hD0⟩, hN, hZ⟩, hC⟩ := hv
  subst hsz
  have htb := vx_table (x := yL_echo) B (hT.w th_L_echo.1)
  have hx := B.exec
  have hb := B.bytes
  have hr := B.returns
  have hlocks := B.notSynchronized
  have hown : s.vm.findClass RL = some m.cls := findClass_of_methodNamed B.named
  have hD := hD0.self (sz := s.heap.size)
  generalize hAe : va_A ((zs_W o a b d cJ den rch pol exg xp (nI n) str rdl rds off del arr ++ (zc_C c0 q v sv loc slw wst ++ (zp_W q r cB row ++ zc_S sv cS g))) ++ zy_O ou cJ fo) s.heap.size = A at hD hZ ⊢
  have hA : ∀ q : Nat, s.heap.size ≤ q → A q := fun q h => by rw [← hAe]; exact Or.inr h
  have hS : va_S A s.heap s.heap [] := va_S.rf
  have hl := lv_entry ([.ref c0, .int (nI k), .long y, .long z]) (n := 7) (Nat.le_of_ble_eq_true rfl)
  rw [lg_entry_eq]
  generalize (lg_sl ([.ref c0, .int (nI k), .long y, .long z]) ++ List.replicate (7 - (lg_sl ([.ref c0, .int (nI k), .long y, .long z])).length) Slot.unset).toArray = ls at hl ⊢
  have hl : lv_has ls 7 [(0, .ref c0), (1, .int (nI k)), (2, .long y), (4, .long z)] := hl
  refine lv_aload_n hx hb dL_echo_0 rfl (lv_at hl 0 rfl) ?_
  refine lv_iload_n hx hb dL_echo_1 rfl (lv_at hl 1 rfl) ?_
  refine lv_lload_n hx hb dL_echo_2 rfl (lv_at hl 2 rfl) ?_
  refine lv_lload hx hb dL_echo_3 (lv_at hl 3 rfl) ?_
  refine zy_caught (x := ⟨0, 8, 15, 25⟩) (pre := [⟨0, 8, 11, 19⟩]) (suf := []) htb rfl hown hT hN (zy_pc (Or.inr ⟨by decide, _, hT.w tw_311, hC.2.1⟩) zy_p0) (by decide) (by decide) tw_338 tw_349 (List.Perm.refl _) (List.Perm.refl _) hA hP hD hS (vx_runV (Ts := []) (As := [.int (nI k), .long y, .long z]) (own := RL) ⟨hx, hb, hml, hown, fun _ h => nomatch h⟩ (ct_C_echo_na l hlt hk hg ha) (zt_cv hT tc_C_echo tv_C_echo tw_339 ⟨Nat.le_of_ble_eq_true rfl, Nat.le_of_ble_eq_true rfl⟩) (zx_preV (q0 := 4) hT (zq_Pl hP) hK (zq_Dl hD) hN hZ hS hA rfl rfl) rfl rfl hl.1 rfl (lv_room (Nat.le_of_ble_eq_true rfl)) dL_echo_5 ⟨Nat.le_of_ble_eq_true rfl, Nat.le_of_ble_eq_true rfl⟩) (fun _ _ _ h => h) (fun q9 H locs hP hD hS => ?_)
  have hP : va_P (dC, dI) vcl ((zs_W o a b d cJ den rch pol exg xp (nI n) str rdl rds off del arr ++ (zc_C c0 q v sv loc slw wst ++ (zp_W q r cB row ++ zc_S sv cS g))) ++ zy_O ou cJ fo) H := hP
  have hD : va_D A ((zs_W o a b d cJ den rch pol exg xp (nI n) str rdl rds off del arr ++ (zc_C c0 q v sv loc slw wst ++ (zp_W q r cB row ++ zc_S sv cS g))) ++ zy_O ou cJ fo) := hD
  refine W.eq (g2 := F0 m 15 ls [.ref q9]) rfl ?_
  refine lv_astore (lv' := [(6, .ref q9), (0, .ref c0), (1, .int (nI k)), (2, .long y), (4, .long z)]) hx hb dL_echo_15 hl (by decide) rfl (fun ls hl => ?_)
  refine lv_iconst (v := 2) hx hb dL_echo_17 (by decide) ?_
  exact zy_iret hx hb hr hlocks dL_echo_18 (rfl) (Nat.le_of_ble_eq_true rfl) (Nat.le_of_ble_eq_true rfl) hAe hP hD hS
set_option maxHeartbeats 4000000 in
set_option maxRecDepth 100000 in
theorem ct_L_echo_no (l : Launch) (hlt : l.stackTraces = false) {dC : Nat → ClassId} {dI : Nat → Nat → Nat} {cJ cI cB cZ cS : ClassId} {sz : Nat} {c0 q v sv : Nat} {loc slw : Int64} {wst : Int32} {ou : Nat} {fo : Nat → Int64} {k : Int32} (hk : k < 0 ∨ ¬ k < 5) {y z : Int64} : vx_Met l yL_echo [Cond.codeWith yL_echo cL_echo 7 (some .int) hhL_echo] { frames := 8, cells := 1, slots := 6, locals := 128 } (va_Pc [.ref c0, .int k, .long y, .long z] (zy_B (dC, dI) vcl (zz_T cJ cI cB cZ cS) ((zc_C c0 q v sv loc slw wst) ++ zy_O ou cJ fo) sz)) (zq_Q (dC, dI) vcl (some (.int 1)) ((zc_C c0 q v sv loc slw wst) ++ zy_O ou cJ fo) ((zc_C c0 q v sv loc slw wst) ++ zy_O ou cJ fo) sz) zy_X 1 6 (va_A ((zc_C c0 q v sv loc slw wst) ++ zy_O ou cJ fo) sz) := by
  refine vx_ofWH (cc := cL_echo) (maxL := 7) (ret := (some .int)) (hh := hhL_echo) (by decide) rfl ?_
  intro p e s m args below meth c s₁ B hml hv
  obtain ⟨rfl, ⟨⟨hsz, hT, hP, hK, hD0⟩, hN, hZ⟩, hC⟩ := hv
  subst hsz
  have htb := vx_table (x := yL_echo) B (hT.w th_L_echo.1)
  have hx := B.exec
  have hb := B.bytes
  have hr := B.returns
  have hlocks := B.notSynchronized
  have hown : s.vm.findClass RL = some m.cls := findClass_of_methodNamed B.named
  have hD := hD0.self (sz := s.heap.size)
  generalize hAe : va_A ((zc_C c0 q v sv loc slw wst) ++ zy_O ou cJ fo) s.heap.size = A at hD hZ ⊢
  have hA : ∀ q : Nat, s.heap.size ≤ q → A q := fun q h => by rw [← hAe]; exact Or.inr h
  have hS : va_S A s.heap s.heap [] := va_S.rf
  have hl := lv_entry ([.ref c0, .int k, .long y, .long z]) (n := 7) (Nat.le_of_ble_eq_true rfl)
  rw [lg_entry_eq]
  generalize (lg_sl ([.ref c0, .int k, .long y, .long z]) ++ List.replicate (7 - (lg_sl ([.ref c0, .int k, .long y, .long z])).length) Slot.unset).toArray = ls at hl ⊢
  have hl : lv_has ls 7 [(0, .ref c0), (1, .int k), (2, .long y), (4, .long z)] := hl
  refine lv_aload_n hx hb dL_echo_0 rfl (lv_at hl 0 rfl) ?_
  refine lv_iload_n hx hb dL_echo_1 rfl (lv_at hl 1 rfl) ?_
  refine lv_lload_n hx hb dL_echo_2 rfl (lv_at hl 2 rfl) ?_
  refine lv_lload hx hb dL_echo_3 (lv_at hl 3 rfl) ?_
  refine zy_caught (x := ⟨0, 8, 11, 19⟩) (pre := []) (suf := [⟨0, 8, 15, 25⟩]) htb rfl hown hT hN zy_p0 (by decide) (by decide) tw_311 tw_318 (List.Perm.refl _) (List.Perm.refl _) hA hP hD hS (vx_runV (Ts := []) (As := [.int k, .long y, .long z]) (own := RL) ⟨hx, hb, hml, hown, fun _ h => nomatch h⟩ (ct_C_echo_no l hlt hk) (zt_cv hT tc_C_echo tv_C_echo tw_339 ⟨Nat.le_of_ble_eq_true rfl, Nat.le_of_ble_eq_true rfl⟩) (zx_preV (q0 := 0) hT (zq_Pl hP) hK (zq_Dl hD) hN hZ hS hA rfl rfl) rfl rfl hl.1 rfl (lv_room (Nat.le_of_ble_eq_true rfl)) dL_echo_5 ⟨Nat.le_of_ble_eq_true rfl, Nat.le_of_ble_eq_true rfl⟩) (fun _ _ _ h => h) (fun q9 H locs hP hD hS => ?_)
  have hP : va_P (dC, dI) vcl ((zc_C c0 q v sv loc slw wst) ++ zy_O ou cJ fo) H := hP
  have hD : va_D A ((zc_C c0 q v sv loc slw wst) ++ zy_O ou cJ fo) := hD
  refine W.eq (g2 := F0 m 11 ls [.ref q9]) rfl ?_
  refine lv_astore (lv' := [(6, .ref q9), (0, .ref c0), (1, .int k), (2, .long y), (4, .long z)]) hx hb dL_echo_11 hl (by decide) rfl (fun ls hl => ?_)
  refine lv_iconst (v := 1) hx hb dL_echo_13 (by decide) ?_
  exact zy_iret hx hb hr hlocks dL_echo_14 (rfl) (Nat.le_of_ble_eq_true rfl) (Nat.le_of_ble_eq_true rfl) hAe hP hD hS
