/-! The client: what throws for one server -/
set_option maxHeartbeats 4000000 in
set_option maxRecDepth 100000 in
theorem ct_C_sampledAt_0 (l : Launch) (hlt : l.stackTraces = false) {dC : Nat → ClassId} {dI : Nat → Nat → Nat} {cJ cI cB cZ cS : ClassId} {sz : Nat} {o a b d : Nat} {den rch pol exg str : Int32} {xp rdl rds : Int64} {off del arr : Nat → Int64} {n : Nat} {c0 q r v sv : Nat} {g : Nat → Option Nat} {loc slw : Int64} {wst : Int32} {row : Nat → Int32} {k : Nat} (hk : k < 5) (hg : g k = some o) (h0 : n = 0) : vx_Met l yC_sampledAt [Cond.code yC_sampledAt cC_sampledAt 3 (some (.object "StrataClient$Server"))] { frames := 6, cells := 1, slots := 6, locals := 81 } (va_Pc [.ref c0, .int (nI k)] (zx_B (dC, dI) vcl (zz_T cJ cI cB cZ cS) (zs_W o a b d cJ den rch pol exg xp (nI n) str rdl rds off del arr ++ (zc_C c0 q v sv loc slw wst ++ (zp_W q r cB row ++ zc_S sv cS g))) sz)) zx_Q (zx_X (dC, dI) vcl "java/util/NoSuchElementException" (zs_W o a b d cJ den rch pol exg xp (nI n) str rdl rds off del arr ++ (zc_C c0 q v sv loc slw wst ++ (zp_W q r cB row ++ zc_S sv cS g))) (zs_W o a b d cJ den rch pol exg xp (nI n) str rdl rds off del arr ++ (zc_C c0 q v sv loc slw wst ++ (zp_W q r cB row ++ zc_S sv cS g))) sz) 1 6 (va_A (zs_W o a b d cJ den rch pol exg xp (nI n) str rdl rds off del arr ++ (zc_C c0 q v sv loc slw wst ++ (zp_W q r cB row ++ zc_S sv cS g))) sz) := by
  refine vx_ofW (cc := cC_sampledAt) (maxL := 3) (ret := (some (.object "StrataClient$Server"))) (by decide) rfl ?_
  intro p e s m args below meth c s₁ B hml htb hv
  obtain ⟨rfl, ⟨hsz, hT, hP, hK, hD0⟩, hN, hZ⟩ := hv
  subst hsz
  have hx := B.exec
  have hb := B.bytes
  have hr := B.returns
  have hlocks := B.notSynchronized
  have hown : s.vm.findClass RC = some m.cls := findClass_of_methodNamed B.named
  have hD := hD0.self (sz := s.heap.size)
  generalize hAe : va_A (zs_W o a b d cJ den rch pol exg xp (nI n) str rdl rds off del arr ++ (zc_C c0 q v sv loc slw wst ++ (zp_W q r cB row ++ zc_S sv cS g))) s.heap.size = A at hD hZ ⊢
  have hA : ∀ q : Nat, s.heap.size ≤ q → A q := fun q h => by rw [← hAe]; exact Or.inr h
  have hS : va_S A s.heap s.heap [] := va_S.rf
  have hl := lv_entry ([.ref c0, .int (nI k)]) (n := 3) (Nat.le_of_ble_eq_true rfl)
  rw [lg_entry_eq]
  generalize (lg_sl ([.ref c0, .int (nI k)]) ++ List.replicate (3 - (lg_sl ([.ref c0, .int (nI k)])).length) Slot.unset).toArray = ls at hl ⊢
  have hl : lv_has ls 3 [(0, .ref c0), (1, .int (nI k))] := hl
  refine lv_aload_n hx hb dC_sampledAt_0 rfl (lv_at hl 0 rfl) ?_
  refine lv_iload_n hx hb dC_sampledAt_1 rfl (lv_at hl 1 rfl) ?_
  refine zz_call (va_runV (Ts := []) (As := [.int (nI k)]) (own := RC) ⟨hx, hb, hml, hown, fun _ h => nomatch h⟩ (ct_C_serverAt l hk hg) (zt_cv hT tc_C_serverAt tv_C_serverAt tw_343 ⟨Nat.le_of_ble_eq_true rfl, Nat.le_of_ble_eq_true rfl⟩) (zz_preV (q0 := 4) hT hP hK rfl rfl) rfl rfl hl.1 rfl (lv_room (Nat.le_of_ble_eq_true rfl)) dC_sampledAt_2 ⟨Nat.zero_le _, Nat.zero_le _⟩) ?_
  refine lv_astore_n (lv' := [(2, .ref o), (0, .ref c0), (1, .int (nI k))]) hx hb dC_sampledAt_5 rfl hl (by decide) rfl (fun ls hl => ?_)
  refine lv_aload_n hx hb dC_sampledAt_6 rfl (lv_at hl 0 rfl) ?_
  refine zz_getS hx hb hT hown hK hP 0 rfl 5 (by decide) tw_56 rfl dC_sampledAt_7 ?_
  refine zz_zne (tgt := 21) hx hb dC_sampledAt_10 (by decide) (fun h1 => ?_) (fun h1 => ?_)
  · have h1n := mt (zz_eqN (a := n) (b := 0) rfl rfl (by omega) (by omega)).mpr h1
    exact absurd h0 h1n
  · have h1n := (zz_eqN (a := n) (b := 0) rfl rfl (by omega) (by omega)).mp h1
    exact zx_throw hx hb hlt zx_NSE hT hN hZ hown hlocks htb (hl.1.trans hml.symm) ⟨Nat.le_of_ble_eq_true rfl, Nat.le_of_ble_eq_true rfl, Nat.le_of_ble_eq_true rfl, Nat.le_of_ble_eq_true rfl⟩ dC_sampledAt_13 dC_sampledAt_16 dC_sampledAt_17 dC_sampledAt_20 hAe hP hD hS
set_option maxHeartbeats 4000000 in
set_option maxRecDepth 100000 in
theorem ct_C_offset_0 (l : Launch) (hlt : l.stackTraces = false) {dC : Nat → ClassId} {dI : Nat → Nat → Nat} {cJ cI cB cZ cS : ClassId} {sz : Nat} {o a b d : Nat} {den rch pol exg str : Int32} {xp rdl rds : Int64} {off del arr : Nat → Int64} {n : Nat} {c0 q r v sv : Nat} {g : Nat → Option Nat} {loc slw : Int64} {wst : Int32} {row : Nat → Int32} {k : Nat} (hk : k < 5) (hg : g k = some o) (h0 : n = 0) : vx_Met l yC_offset [Cond.code yC_offset cC_offset 2 (some .long)] { frames := 7, cells := 1, slots := 6, locals := 103 } (va_Pc [.ref c0, .int (nI k)] (zx_B (dC, dI) vcl (zz_T cJ cI cB cZ cS) (zs_W o a b d cJ den rch pol exg xp (nI n) str rdl rds off del arr ++ (zc_C c0 q v sv loc slw wst ++ (zp_W q r cB row ++ zc_S sv cS g))) sz)) zx_Q (zx_X (dC, dI) vcl "java/util/NoSuchElementException" (zs_W o a b d cJ den rch pol exg xp (nI n) str rdl rds off del arr ++ (zc_C c0 q v sv loc slw wst ++ (zp_W q r cB row ++ zc_S sv cS g))) (zs_W o a b d cJ den rch pol exg xp (nI n) str rdl rds off del arr ++ (zc_C c0 q v sv loc slw wst ++ (zp_W q r cB row ++ zc_S sv cS g))) sz) 1 6 (va_A (zs_W o a b d cJ den rch pol exg xp (nI n) str rdl rds off del arr ++ (zc_C c0 q v sv loc slw wst ++ (zp_W q r cB row ++ zc_S sv cS g))) sz) := by
  refine vx_ofW (cc := cC_offset) (maxL := 2) (ret := (some .long)) (by decide) rfl ?_
  intro p e s m args below meth c s₁ B hml htb hv
  obtain ⟨rfl, ⟨hsz, hT, hP, hK, hD0⟩, hN, hZ⟩ := hv
  subst hsz
  have hx := B.exec
  have hb := B.bytes
  have hr := B.returns
  have hlocks := B.notSynchronized
  have hown : s.vm.findClass RC = some m.cls := findClass_of_methodNamed B.named
  have hD := hD0.self (sz := s.heap.size)
  generalize hAe : va_A (zs_W o a b d cJ den rch pol exg xp (nI n) str rdl rds off del arr ++ (zc_C c0 q v sv loc slw wst ++ (zp_W q r cB row ++ zc_S sv cS g))) s.heap.size = A at hD hZ ⊢
  have hA : ∀ q : Nat, s.heap.size ≤ q → A q := fun q h => by rw [← hAe]; exact Or.inr h
  have hS : va_S A s.heap s.heap [] := va_S.rf
  have hl := lv_entry ([.ref c0, .int (nI k)]) (n := 2) (Nat.le_of_ble_eq_true rfl)
  rw [lg_entry_eq]
  generalize (lg_sl ([.ref c0, .int (nI k)]) ++ List.replicate (2 - (lg_sl ([.ref c0, .int (nI k)])).length) Slot.unset).toArray = ls at hl ⊢
  have hl : lv_has ls 2 [(0, .ref c0), (1, .int (nI k))] := hl
  refine lv_aload_n hx hb dC_offset_0 rfl (lv_at hl 0 rfl) ?_
  refine lv_iload_n hx hb dC_offset_1 rfl (lv_at hl 1 rfl) ?_
  exact zx_prop (List.Perm.of_eq (List.append_nil _).symm) (List.Perm.of_eq (List.append_nil _)) hlocks htb hA hAe hP hD hS (vx_runV (Ts := []) (As := [.int (nI k)]) (own := RC) ⟨hx, hb, hml, hown, fun _ h => nomatch h⟩ (ct_C_sampledAt_0 l hlt hk hg h0) (zt_cv hT tc_C_sampledAt tv_C_sampledAt tw_469 ⟨Nat.le_of_ble_eq_true rfl, Nat.le_of_ble_eq_true rfl⟩) (zx_preV (q0 := 4) hT (zq_Pl (zq_Pp (List.Perm.of_eq (List.append_nil _).symm) hP)) hK (zq_Dl (zq_Dp (List.Perm.of_eq (List.append_nil _).symm) hD)) hN hZ hS hA rfl rfl) rfl rfl hl.1 rfl (lv_room (Nat.le_of_ble_eq_true rfl)) dC_offset_2 ⟨Nat.le_of_ble_eq_true rfl, Nat.le_of_ble_eq_true rfl⟩) (fun _ _ _ h => h)
set_option maxHeartbeats 4000000 in
set_option maxRecDepth 100000 in
theorem ct_C_delay_0 (l : Launch) (hlt : l.stackTraces = false) {dC : Nat → ClassId} {dI : Nat → Nat → Nat} {cJ cI cB cZ cS : ClassId} {sz : Nat} {o a b d : Nat} {den rch pol exg str : Int32} {xp rdl rds : Int64} {off del arr : Nat → Int64} {n : Nat} {c0 q r v sv : Nat} {g : Nat → Option Nat} {loc slw : Int64} {wst : Int32} {row : Nat → Int32} {k : Nat} (hk : k < 5) (hg : g k = some o) (h0 : n = 0) : vx_Met l yC_delay [Cond.code yC_delay cC_delay 2 (some .long)] { frames := 7, cells := 1, slots := 6, locals := 103 } (va_Pc [.ref c0, .int (nI k)] (zx_B (dC, dI) vcl (zz_T cJ cI cB cZ cS) (zs_W o a b d cJ den rch pol exg xp (nI n) str rdl rds off del arr ++ (zc_C c0 q v sv loc slw wst ++ (zp_W q r cB row ++ zc_S sv cS g))) sz)) zx_Q (zx_X (dC, dI) vcl "java/util/NoSuchElementException" (zs_W o a b d cJ den rch pol exg xp (nI n) str rdl rds off del arr ++ (zc_C c0 q v sv loc slw wst ++ (zp_W q r cB row ++ zc_S sv cS g))) (zs_W o a b d cJ den rch pol exg xp (nI n) str rdl rds off del arr ++ (zc_C c0 q v sv loc slw wst ++ (zp_W q r cB row ++ zc_S sv cS g))) sz) 1 6 (va_A (zs_W o a b d cJ den rch pol exg xp (nI n) str rdl rds off del arr ++ (zc_C c0 q v sv loc slw wst ++ (zp_W q r cB row ++ zc_S sv cS g))) sz) := by
  refine vx_ofW (cc := cC_delay) (maxL := 2) (ret := (some .long)) (by decide) rfl ?_
  intro p e s m args below meth c s₁ B hml htb hv
  obtain ⟨rfl, ⟨hsz, hT, hP, hK, hD0⟩, hN, hZ⟩ := hv
  subst hsz
  have hx := B.exec
  have hb := B.bytes
  have hr := B.returns
  have hlocks := B.notSynchronized
  have hown : s.vm.findClass RC = some m.cls := findClass_of_methodNamed B.named
  have hD := hD0.self (sz := s.heap.size)
  generalize hAe : va_A (zs_W o a b d cJ den rch pol exg xp (nI n) str rdl rds off del arr ++ (zc_C c0 q v sv loc slw wst ++ (zp_W q r cB row ++ zc_S sv cS g))) s.heap.size = A at hD hZ ⊢
  have hA : ∀ q : Nat, s.heap.size ≤ q → A q := fun q h => by rw [← hAe]; exact Or.inr h
  have hS : va_S A s.heap s.heap [] := va_S.rf
  have hl := lv_entry ([.ref c0, .int (nI k)]) (n := 2) (Nat.le_of_ble_eq_true rfl)
  rw [lg_entry_eq]
  generalize (lg_sl ([.ref c0, .int (nI k)]) ++ List.replicate (2 - (lg_sl ([.ref c0, .int (nI k)])).length) Slot.unset).toArray = ls at hl ⊢
  have hl : lv_has ls 2 [(0, .ref c0), (1, .int (nI k))] := hl
  refine lv_aload_n hx hb dC_delay_0 rfl (lv_at hl 0 rfl) ?_
  refine lv_iload_n hx hb dC_delay_1 rfl (lv_at hl 1 rfl) ?_
  exact zx_prop (List.Perm.of_eq (List.append_nil _).symm) (List.Perm.of_eq (List.append_nil _)) hlocks htb hA hAe hP hD hS (vx_runV (Ts := []) (As := [.int (nI k)]) (own := RC) ⟨hx, hb, hml, hown, fun _ h => nomatch h⟩ (ct_C_sampledAt_0 l hlt hk hg h0) (zt_cv hT tc_C_sampledAt tv_C_sampledAt tw_469 ⟨Nat.le_of_ble_eq_true rfl, Nat.le_of_ble_eq_true rfl⟩) (zx_preV (q0 := 4) hT (zq_Pl (zq_Pp (List.Perm.of_eq (List.append_nil _).symm) hP)) hK (zq_Dl (zq_Dp (List.Perm.of_eq (List.append_nil _).symm) hD)) hN hZ hS hA rfl rfl) rfl rfl hl.1 rfl (lv_room (Nat.le_of_ble_eq_true rfl)) dC_delay_2 ⟨Nat.le_of_ble_eq_true rfl, Nat.le_of_ble_eq_true rfl⟩) (fun _ _ _ h => h)
set_option maxHeartbeats 4000000 in
set_option maxRecDepth 100000 in
theorem ct_C_jitter_0 (l : Launch) (hlt : l.stackTraces = false) {dC : Nat → ClassId} {dI : Nat → Nat → Nat} {cJ cI cB cZ cS : ClassId} {sz : Nat} {o a b d : Nat} {den rch pol exg str : Int32} {xp rdl rds : Int64} {off del arr : Nat → Int64} {n : Nat} {c0 q r v sv : Nat} {g : Nat → Option Nat} {loc slw : Int64} {wst : Int32} {row : Nat → Int32} {k : Nat} (hk : k < 5) (hg : g k = some o) (h0 : n = 0) : vx_Met l yC_jitter [Cond.code yC_jitter cC_jitter 2 (some .long)] { frames := 7, cells := 1, slots := 6, locals := 103 } (va_Pc [.ref c0, .int (nI k)] (zx_B (dC, dI) vcl (zz_T cJ cI cB cZ cS) (zs_W o a b d cJ den rch pol exg xp (nI n) str rdl rds off del arr ++ (zc_C c0 q v sv loc slw wst ++ (zp_W q r cB row ++ zc_S sv cS g))) sz)) zx_Q (zx_X (dC, dI) vcl "java/util/NoSuchElementException" (zs_W o a b d cJ den rch pol exg xp (nI n) str rdl rds off del arr ++ (zc_C c0 q v sv loc slw wst ++ (zp_W q r cB row ++ zc_S sv cS g))) (zs_W o a b d cJ den rch pol exg xp (nI n) str rdl rds off del arr ++ (zc_C c0 q v sv loc slw wst ++ (zp_W q r cB row ++ zc_S sv cS g))) sz) 1 6 (va_A (zs_W o a b d cJ den rch pol exg xp (nI n) str rdl rds off del arr ++ (zc_C c0 q v sv loc slw wst ++ (zp_W q r cB row ++ zc_S sv cS g))) sz) := by
  refine vx_ofW (cc := cC_jitter) (maxL := 2) (ret := (some .long)) (by decide) rfl ?_
  intro p e s m args below meth c s₁ B hml htb hv
  obtain ⟨rfl, ⟨hsz, hT, hP, hK, hD0⟩, hN, hZ⟩ := hv
  subst hsz
  have hx := B.exec
  have hb := B.bytes
  have hr := B.returns
  have hlocks := B.notSynchronized
  have hown : s.vm.findClass RC = some m.cls := findClass_of_methodNamed B.named
  have hD := hD0.self (sz := s.heap.size)
  generalize hAe : va_A (zs_W o a b d cJ den rch pol exg xp (nI n) str rdl rds off del arr ++ (zc_C c0 q v sv loc slw wst ++ (zp_W q r cB row ++ zc_S sv cS g))) s.heap.size = A at hD hZ ⊢
  have hA : ∀ q : Nat, s.heap.size ≤ q → A q := fun q h => by rw [← hAe]; exact Or.inr h
  have hS : va_S A s.heap s.heap [] := va_S.rf
  have hl := lv_entry ([.ref c0, .int (nI k)]) (n := 2) (Nat.le_of_ble_eq_true rfl)
  rw [lg_entry_eq]
  generalize (lg_sl ([.ref c0, .int (nI k)]) ++ List.replicate (2 - (lg_sl ([.ref c0, .int (nI k)])).length) Slot.unset).toArray = ls at hl ⊢
  have hl : lv_has ls 2 [(0, .ref c0), (1, .int (nI k))] := hl
  refine lv_aload_n hx hb dC_jitter_0 rfl (lv_at hl 0 rfl) ?_
  refine lv_iload_n hx hb dC_jitter_1 rfl (lv_at hl 1 rfl) ?_
  exact zx_prop (List.Perm.of_eq (List.append_nil _).symm) (List.Perm.of_eq (List.append_nil _)) hlocks htb hA hAe hP hD hS (vx_runV (Ts := []) (As := [.int (nI k)]) (own := RC) ⟨hx, hb, hml, hown, fun _ h => nomatch h⟩ (ct_C_sampledAt_0 l hlt hk hg h0) (zt_cv hT tc_C_sampledAt tv_C_sampledAt tw_469 ⟨Nat.le_of_ble_eq_true rfl, Nat.le_of_ble_eq_true rfl⟩) (zx_preV (q0 := 4) hT (zq_Pl (zq_Pp (List.Perm.of_eq (List.append_nil _).symm) hP)) hK (zq_Dl (zq_Dp (List.Perm.of_eq (List.append_nil _).symm) hD)) hN hZ hS hA rfl rfl) rfl rfl hl.1 rfl (lv_room (Nat.le_of_ble_eq_true rfl)) dC_jitter_2 ⟨Nat.le_of_ble_eq_true rfl, Nat.le_of_ble_eq_true rfl⟩) (fun _ _ _ h => h)
set_option maxHeartbeats 4000000 in
set_option maxRecDepth 100000 in
theorem ct_C_distance_0 (l : Launch) (hlt : l.stackTraces = false) {dC : Nat → ClassId} {dI : Nat → Nat → Nat} {cJ cI cB cZ cS : ClassId} {sz : Nat} {o a b d : Nat} {den rch pol exg str : Int32} {xp rdl rds : Int64} {off del arr : Nat → Int64} {n : Nat} {c0 q r v sv : Nat} {g : Nat → Option Nat} {loc slw : Int64} {wst : Int32} {row : Nat → Int32} {k : Nat} (hk : k < 5) (hg : g k = some o) (h0 : n = 0) : vx_Met l yC_distance [Cond.code yC_distance cC_distance 2 (some .long)] { frames := 7, cells := 1, slots := 6, locals := 103 } (va_Pc [.ref c0, .int (nI k)] (zx_B (dC, dI) vcl (zz_T cJ cI cB cZ cS) (zs_W o a b d cJ den rch pol exg xp (nI n) str rdl rds off del arr ++ (zc_C c0 q v sv loc slw wst ++ (zp_W q r cB row ++ zc_S sv cS g))) sz)) zx_Q (zx_X (dC, dI) vcl "java/util/NoSuchElementException" (zs_W o a b d cJ den rch pol exg xp (nI n) str rdl rds off del arr ++ (zc_C c0 q v sv loc slw wst ++ (zp_W q r cB row ++ zc_S sv cS g))) (zs_W o a b d cJ den rch pol exg xp (nI n) str rdl rds off del arr ++ (zc_C c0 q v sv loc slw wst ++ (zp_W q r cB row ++ zc_S sv cS g))) sz) 1 6 (va_A (zs_W o a b d cJ den rch pol exg xp (nI n) str rdl rds off del arr ++ (zc_C c0 q v sv loc slw wst ++ (zp_W q r cB row ++ zc_S sv cS g))) sz) := by
  refine vx_ofW (cc := cC_distance) (maxL := 2) (ret := (some .long)) (by decide) rfl ?_
  intro p e s m args below meth c s₁ B hml htb hv
  obtain ⟨rfl, ⟨hsz, hT, hP, hK, hD0⟩, hN, hZ⟩ := hv
  subst hsz
  have hx := B.exec
  have hb := B.bytes
  have hr := B.returns
  have hlocks := B.notSynchronized
  have hown : s.vm.findClass RC = some m.cls := findClass_of_methodNamed B.named
  have hD := hD0.self (sz := s.heap.size)
  generalize hAe : va_A (zs_W o a b d cJ den rch pol exg xp (nI n) str rdl rds off del arr ++ (zc_C c0 q v sv loc slw wst ++ (zp_W q r cB row ++ zc_S sv cS g))) s.heap.size = A at hD hZ ⊢
  have hA : ∀ q : Nat, s.heap.size ≤ q → A q := fun q h => by rw [← hAe]; exact Or.inr h
  have hS : va_S A s.heap s.heap [] := va_S.rf
  have hl := lv_entry ([.ref c0, .int (nI k)]) (n := 2) (Nat.le_of_ble_eq_true rfl)
  rw [lg_entry_eq]
  generalize (lg_sl ([.ref c0, .int (nI k)]) ++ List.replicate (2 - (lg_sl ([.ref c0, .int (nI k)])).length) Slot.unset).toArray = ls at hl ⊢
  have hl : lv_has ls 2 [(0, .ref c0), (1, .int (nI k))] := hl
  refine lv_aload_n hx hb dC_distance_0 rfl (lv_at hl 0 rfl) ?_
  refine lv_iload_n hx hb dC_distance_1 rfl (lv_at hl 1 rfl) ?_
  exact zx_prop (List.Perm.of_eq (List.append_nil _).symm) (List.Perm.of_eq (List.append_nil _)) hlocks htb hA hAe hP hD hS (vx_runV (Ts := []) (As := [.int (nI k)]) (own := RC) ⟨hx, hb, hml, hown, fun _ h => nomatch h⟩ (ct_C_sampledAt_0 l hlt hk hg h0) (zt_cv hT tc_C_sampledAt tv_C_sampledAt tw_469 ⟨Nat.le_of_ble_eq_true rfl, Nat.le_of_ble_eq_true rfl⟩) (zx_preV (q0 := 4) hT (zq_Pl (zq_Pp (List.Perm.of_eq (List.append_nil _).symm) hP)) hK (zq_Dl (zq_Dp (List.Perm.of_eq (List.append_nil _).symm) hD)) hN hZ hS hA rfl rfl) rfl rfl hl.1 rfl (lv_room (Nat.le_of_ble_eq_true rfl)) dC_distance_2 ⟨Nat.le_of_ble_eq_true rfl, Nat.le_of_ble_eq_true rfl⟩) (fun _ _ _ h => h)
set_option maxHeartbeats 4000000 in
set_option maxRecDepth 100000 in
theorem ct_C_send_dn (l : Launch) (hlt : l.stackTraces = false) {dC : Nat → ClassId} {dI : Nat → Nat → Nat} {cJ cI cB cZ cS : ClassId} {sz : Nat} {o a b d : Nat} {den rch pol exg str : Int32} {xp rdl rds : Int64} {off del arr : Nat → Int64} {n : Nat} {c0 q r v sv : Nat} {g : Nat → Option Nat} {loc slw : Int64} {wst : Int32} {row : Nat → Int32} {k : Nat} (hk : k < 5) (hg : g k = some o) (hd : ¬ den = 0) : vx_Met l yC_send [Cond.code yC_send cC_send 3 (some .long)] { frames := 6, cells := 1, slots := 6, locals := 81 } (va_Pc [.ref c0, .int (nI k)] (zx_B (dC, dI) vcl (zz_T cJ cI cB cZ cS) (zs_W o a b d cJ den rch pol exg xp (nI n) str rdl rds off del arr ++ (zc_C c0 q v sv loc slw wst ++ (zp_W q r cB row ++ zc_S sv cS g))) sz)) zx_Q (zx_X (dC, dI) vcl "java/lang/IllegalStateException" (zs_W o a b d cJ den rch pol exg xp (nI n) str rdl rds off del arr ++ (zc_C c0 q v sv loc slw wst ++ (zp_W q r cB row ++ zc_S sv cS g))) (zs_W o a b d cJ den rch pol exg xp (nI n) str rdl rds off del arr ++ (zc_C c0 q v sv loc slw wst ++ (zp_W q r cB row ++ zc_S sv cS g))) sz) 1 6 (va_A (zs_W o a b d cJ den rch pol exg xp (nI n) str rdl rds off del arr ++ (zc_C c0 q v sv loc slw wst ++ (zp_W q r cB row ++ zc_S sv cS g))) sz) := by
  refine vx_ofW (cc := cC_send) (maxL := 3) (ret := (some .long)) (by decide) rfl ?_
  intro p e s m args below meth c s₁ B hml htb hv
  obtain ⟨rfl, ⟨hsz, hT, hP, hK, hD0⟩, hN, hZ⟩ := hv
  subst hsz
  have hx := B.exec
  have hb := B.bytes
  have hr := B.returns
  have hlocks := B.notSynchronized
  have hown : s.vm.findClass RC = some m.cls := findClass_of_methodNamed B.named
  have hD := hD0.self (sz := s.heap.size)
  generalize hAe : va_A (zs_W o a b d cJ den rch pol exg xp (nI n) str rdl rds off del arr ++ (zc_C c0 q v sv loc slw wst ++ (zp_W q r cB row ++ zc_S sv cS g))) s.heap.size = A at hD hZ ⊢
  have hA : ∀ q : Nat, s.heap.size ≤ q → A q := fun q h => by rw [← hAe]; exact Or.inr h
  have hS : va_S A s.heap s.heap [] := va_S.rf
  have hl := lv_entry ([.ref c0, .int (nI k)]) (n := 3) (Nat.le_of_ble_eq_true rfl)
  rw [lg_entry_eq]
  generalize (lg_sl ([.ref c0, .int (nI k)]) ++ List.replicate (3 - (lg_sl ([.ref c0, .int (nI k)])).length) Slot.unset).toArray = ls at hl ⊢
  have hl : lv_has ls 3 [(0, .ref c0), (1, .int (nI k))] := hl
  refine lv_aload_n hx hb dC_send_0 rfl (lv_at hl 0 rfl) ?_
  refine lv_iload_n hx hb dC_send_1 rfl (lv_at hl 1 rfl) ?_
  refine zz_call (va_runV (Ts := []) (As := [.int (nI k)]) (own := RC) ⟨hx, hb, hml, hown, fun _ h => nomatch h⟩ (ct_C_serverAt l hk hg) (zt_cv hT tc_C_serverAt tv_C_serverAt tw_343 ⟨Nat.le_of_ble_eq_true rfl, Nat.le_of_ble_eq_true rfl⟩) (zz_preV (q0 := 4) hT hP hK rfl rfl) rfl rfl hl.1 rfl (lv_room (Nat.le_of_ble_eq_true rfl)) dC_send_2 ⟨Nat.zero_le _, Nat.zero_le _⟩) ?_
  refine lv_astore_n (lv' := [(2, .ref o), (0, .ref c0), (1, .int (nI k))]) hx hb dC_send_5 rfl hl (by decide) rfl (fun ls hl => ?_)
  refine lv_aload_n hx hb dC_send_6 rfl (lv_at hl 0 rfl) ?_
  refine zz_getS hx hb hT hown hK hP 0 rfl 0 (by decide) tw_43 rfl dC_send_7 ?_
  refine zz_zeq (tgt := 21) hx hb dC_send_10 (by decide) (fun h1 => ?_) (fun h1 => ?_)
  · exact absurd h1 hd
  · exact zx_throw hx hb hlt zx_ISE hT hN hZ hown hlocks htb (hl.1.trans hml.symm) ⟨Nat.le_of_ble_eq_true rfl, Nat.le_of_ble_eq_true rfl, Nat.le_of_ble_eq_true rfl, Nat.le_of_ble_eq_true rfl⟩ dC_send_13 dC_send_16 dC_send_17 dC_send_20 hAe hP hD hS
set_option maxHeartbeats 4000000 in
set_option maxRecDepth 100000 in
theorem ct_C_echo_na (l : Launch) (hlt : l.stackTraces = false) {dC : Nat → ClassId} {dI : Nat → Nat → Nat} {cJ cI cB cZ cS : ClassId} {sz : Nat} {o a b d : Nat} {den rch pol exg str : Int32} {xp rdl rds : Int64} {off del arr : Nat → Int64} {n : Nat} {c0 q r v sv : Nat} {g : Nat → Option Nat} {loc slw : Int64} {wst : Int32} {row : Nat → Int32} {k : Nat} (hk : k < 5) (hg : g k = some o) {y z : Int64} (ha : exg = 0) : vx_Met l yC_echo [Cond.code yC_echo cC_echo 7 none] { frames := 6, cells := 1, slots := 6, locals := 81 } (va_Pc [.ref c0, .int (nI k), .long y, .long z] (zx_B (dC, dI) vcl (zz_T cJ cI cB cZ cS) (zs_W o a b d cJ den rch pol exg xp (nI n) str rdl rds off del arr ++ (zc_C c0 q v sv loc slw wst ++ (zp_W q r cB row ++ zc_S sv cS g))) sz)) zx_Q (zx_X (dC, dI) vcl "java/lang/IllegalStateException" (zs_W o a b d cJ den rch pol exg xp (nI n) str rdl rds off del arr ++ (zc_C c0 q v sv loc slw wst ++ (zp_W q r cB row ++ zc_S sv cS g))) (zs_W o a b d cJ den rch pol exg xp (nI n) str rdl rds off del arr ++ (zc_C c0 q v sv loc slw wst ++ (zp_W q r cB row ++ zc_S sv cS g))) sz) 1 6 (va_A (zs_W o a b d cJ den rch pol exg xp (nI n) str rdl rds off del arr ++ (zc_C c0 q v sv loc slw wst ++ (zp_W q r cB row ++ zc_S sv cS g))) sz) := by
  refine vx_ofW (cc := cC_echo) (maxL := 7) (ret := none) (by decide) rfl ?_
  intro p e s m args below meth c s₁ B hml htb hv
  obtain ⟨rfl, ⟨hsz, hT, hP, hK, hD0⟩, hN, hZ⟩ := hv
  subst hsz
  have hx := B.exec
  have hb := B.bytes
  have hr := B.returns
  have hlocks := B.notSynchronized
  have hown : s.vm.findClass RC = some m.cls := findClass_of_methodNamed B.named
  have hD := hD0.self (sz := s.heap.size)
  generalize hAe : va_A (zs_W o a b d cJ den rch pol exg xp (nI n) str rdl rds off del arr ++ (zc_C c0 q v sv loc slw wst ++ (zp_W q r cB row ++ zc_S sv cS g))) s.heap.size = A at hD hZ ⊢
  have hA : ∀ q : Nat, s.heap.size ≤ q → A q := fun q h => by rw [← hAe]; exact Or.inr h
  have hS : va_S A s.heap s.heap [] := va_S.rf
  have hl := lv_entry ([.ref c0, .int (nI k), .long y, .long z]) (n := 7) (Nat.le_of_ble_eq_true rfl)
  rw [lg_entry_eq]
  generalize (lg_sl ([.ref c0, .int (nI k), .long y, .long z]) ++ List.replicate (7 - (lg_sl ([.ref c0, .int (nI k), .long y, .long z])).length) Slot.unset).toArray = ls at hl ⊢
  have hl : lv_has ls 7 [(0, .ref c0), (1, .int (nI k)), (2, .long y), (4, .long z)] := hl
  refine lv_aload_n hx hb dC_echo_0 rfl (lv_at hl 0 rfl) ?_
  refine lv_iload_n hx hb dC_echo_1 rfl (lv_at hl 1 rfl) ?_
  refine zz_call (va_runV (Ts := []) (As := [.int (nI k)]) (own := RC) ⟨hx, hb, hml, hown, fun _ h => nomatch h⟩ (ct_C_serverAt l hk hg) (zt_cv hT tc_C_serverAt tv_C_serverAt tw_343 ⟨Nat.le_of_ble_eq_true rfl, Nat.le_of_ble_eq_true rfl⟩) (zz_preV (q0 := 4) hT hP hK rfl rfl) rfl rfl hl.1 rfl (lv_room (Nat.le_of_ble_eq_true rfl)) dC_echo_2 ⟨Nat.zero_le _, Nat.zero_le _⟩) ?_
  refine lv_astore (lv' := [(6, .ref o), (0, .ref c0), (1, .int (nI k)), (2, .long y), (4, .long z)]) hx hb dC_echo_5 hl (by decide) rfl (fun ls hl => ?_)
  refine lv_aload hx hb dC_echo_7 (lv_at hl 0 rfl) ?_
  refine zz_getS hx hb hT hown hK hP 0 rfl 3 (by decide) tw_51 rfl dC_echo_9 ?_
  refine zz_zne (tgt := 23) hx hb dC_echo_12 (by decide) (fun h1 => ?_) (fun h1 => ?_)
  · exact absurd ha h1
  · exact zx_throw hx hb hlt zx_ISE hT hN hZ hown hlocks htb (hl.1.trans hml.symm) ⟨Nat.le_of_ble_eq_true rfl, Nat.le_of_ble_eq_true rfl, Nat.le_of_ble_eq_true rfl, Nat.le_of_ble_eq_true rfl⟩ dC_echo_15 dC_echo_18 dC_echo_19 dC_echo_22 hAe hP hD hS
set_option maxHeartbeats 4000000 in
set_option maxRecDepth 100000 in
theorem ct_C_receive_na (l : Launch) (hlt : l.stackTraces = false) {dC : Nat → ClassId} {dI : Nat → Nat → Nat} {cJ cI cB cZ cS : ClassId} {sz : Nat} {o a b d : Nat} {den rch pol exg str : Int32} {xp rdl rds : Int64} {off del arr : Nat → Int64} {n : Nat} {c0 q r v sv : Nat} {g : Nat → Option Nat} {loc slw : Int64} {wst : Int32} {row : Nat → Int32} {k : Nat} (hk : k < 5) (hg : g k = some o) (ha : zp_ans row = 0) : vx_Met l yC_receive [Cond.code yC_receive cC_receive 3 (some .int)] { frames := 6, cells := 1, slots := 6, locals := 81 } (va_Pc [.ref c0, .int (nI k)] (zx_B (dC, dI) vcl (zz_T cJ cI cB cZ cS) (zs_W o a b d cJ den rch pol exg xp (nI n) str rdl rds off del arr ++ (zc_C c0 q v sv loc slw wst ++ (zp_W q r cB row ++ zc_S sv cS g))) sz)) zx_Q (zx_X (dC, dI) vcl "java/lang/IllegalArgumentException" (zs_W o a b d cJ den rch pol exg xp (nI n) str rdl rds off del arr ++ (zc_C c0 q v sv loc slw wst ++ (zp_W q r cB row ++ zc_S sv cS g))) (zs_W o a b d cJ den rch pol exg xp (nI n) str rdl rds off del arr ++ (zc_C c0 q v sv loc slw wst ++ (zp_W q r cB row ++ zc_S sv cS g))) sz) 1 6 (va_A (zs_W o a b d cJ den rch pol exg xp (nI n) str rdl rds off del arr ++ (zc_C c0 q v sv loc slw wst ++ (zp_W q r cB row ++ zc_S sv cS g))) sz) := by
  refine vx_ofW (cc := cC_receive) (maxL := 3) (ret := (some .int)) (by decide) rfl ?_
  intro p e s m args below meth c s₁ B hml htb hv
  obtain ⟨rfl, ⟨hsz, hT, hP, hK, hD0⟩, hN, hZ⟩ := hv
  subst hsz
  have hx := B.exec
  have hb := B.bytes
  have hr := B.returns
  have hlocks := B.notSynchronized
  have hown : s.vm.findClass RC = some m.cls := findClass_of_methodNamed B.named
  have hD := hD0.self (sz := s.heap.size)
  generalize hAe : va_A (zs_W o a b d cJ den rch pol exg xp (nI n) str rdl rds off del arr ++ (zc_C c0 q v sv loc slw wst ++ (zp_W q r cB row ++ zc_S sv cS g))) s.heap.size = A at hD hZ ⊢
  have hA : ∀ q : Nat, s.heap.size ≤ q → A q := fun q h => by rw [← hAe]; exact Or.inr h
  have hS : va_S A s.heap s.heap [] := va_S.rf
  have hl := lv_entry ([.ref c0, .int (nI k)]) (n := 3) (Nat.le_of_ble_eq_true rfl)
  rw [lg_entry_eq]
  generalize (lg_sl ([.ref c0, .int (nI k)]) ++ List.replicate (3 - (lg_sl ([.ref c0, .int (nI k)])).length) Slot.unset).toArray = ls at hl ⊢
  have hl : lv_has ls 3 [(0, .ref c0), (1, .int (nI k))] := hl
  refine lv_aload_n hx hb dC_receive_0 rfl (lv_at hl 0 rfl) ?_
  refine lv_iload_n hx hb dC_receive_1 rfl (lv_at hl 1 rfl) ?_
  refine zz_call (va_runV (Ts := []) (As := [.int (nI k)]) (own := RC) ⟨hx, hb, hml, hown, fun _ h => nomatch h⟩ (ct_C_serverAt l hk hg) (zt_cv hT tc_C_serverAt tv_C_serverAt tw_343 ⟨Nat.le_of_ble_eq_true rfl, Nat.le_of_ble_eq_true rfl⟩) (zz_preV (q0 := 4) hT hP hK rfl rfl) rfl rfl hl.1 rfl (lv_room (Nat.le_of_ble_eq_true rfl)) dC_receive_2 ⟨Nat.zero_le _, Nat.zero_le _⟩) ?_
  refine lv_astore_n (lv' := [(2, .ref o), (0, .ref c0), (1, .int (nI k))]) hx hb dC_receive_5 rfl hl (by decide) rfl (fun ls hl => ?_)
  refine lv_aload_n hx hb dC_receive_6 rfl (lv_at hl 1 rfl) ?_
  refine zz_getC hx hb hT hown hK hP 4 rfl 0 (by decide) tw_121 rfl dC_receive_7 ?_
  refine zz_call (va_runV (Ts := []) (As := []) (own := RC) ⟨hx, hb, hml, hown, fun _ h => nomatch h⟩ (ct_P_isAnswer l) (zt_cv hT tc_P_isAnswer tv_P_isAnswer tw_381 ⟨Nat.le_of_ble_eq_true rfl, Nat.le_of_ble_eq_true rfl⟩) (zz_preV (q0 := 0) hT (zq_Pl (zq_Pr (zq_Pr hP))) hK rfl rfl) rfl rfl hl.1 rfl (lv_room (Nat.le_of_ble_eq_true rfl)) dC_receive_10 ⟨Nat.zero_le _, Nat.zero_le _⟩) ?_
  refine zz_zne (tgt := 24) hx hb dC_receive_13 (by decide) (fun h1 => ?_) (fun h1 => ?_)
  · exact absurd ha h1
  · exact zx_throw hx hb hlt zx_IAE hT hN hZ hown hlocks htb (hl.1.trans hml.symm) ⟨Nat.le_of_ble_eq_true rfl, Nat.le_of_ble_eq_true rfl, Nat.le_of_ble_eq_true rfl, Nat.le_of_ble_eq_true rfl⟩ dC_receive_16 dC_receive_19 dC_receive_20 dC_receive_23 hAe hP hD hS
set_option maxHeartbeats 4000000 in
set_option maxRecDepth 100000 in
theorem ct_C_receive_st (l : Launch) (hlt : l.stackTraces = false) {dC : Nat → ClassId} {dI : Nat → Nat → Nat} {cJ cI cB cZ cS : ClassId} {sz : Nat} {o a b d : Nat} {den rch pol exg str : Int32} {xp rdl rds : Int64} {off del arr : Nat → Int64} {n : Nat} {c0 q r v sv : Nat} {g : Nat → Option Nat} {loc slw : Int64} {wst : Int32} {row : Nat → Int32} {k : Nat} (hk : k < 5) (hg : g k = some o) (ha : ¬ zp_ans row = 0) (hd : ¬ (den = 0 ∧ ¬ exg = 0 ∧ xp = zp_rd row 24 8)) : vx_Met l yC_receive [Cond.code yC_receive cC_receive 3 (some .int)] { frames := 6, cells := 1, slots := 6, locals := 81 } (va_Pc [.ref c0, .int (nI k)] (zx_B (dC, dI) vcl (zz_T cJ cI cB cZ cS) (zs_W o a b d cJ den rch pol exg xp (nI n) str rdl rds off del arr ++ (zc_C c0 q v sv loc slw wst ++ (zp_W q r cB row ++ zc_S sv cS g))) sz)) zx_Q (zx_X (dC, dI) vcl "java/lang/IllegalStateException" (zs_W o a b d cJ den rch pol exg xp (nI n) str rdl rds off del arr ++ (zc_C c0 q v sv loc slw wst ++ (zp_W q r cB row ++ zc_S sv cS g))) (zs_W o a b d cJ den rch pol exg xp (nI n) str rdl rds off del arr ++ (zc_C c0 q v sv loc slw wst ++ (zp_W q r cB row ++ zc_S sv cS g))) sz) 1 6 (va_A (zs_W o a b d cJ den rch pol exg xp (nI n) str rdl rds off del arr ++ (zc_C c0 q v sv loc slw wst ++ (zp_W q r cB row ++ zc_S sv cS g))) sz) := by
  refine vx_ofW (cc := cC_receive) (maxL := 3) (ret := (some .int)) (by decide) rfl ?_
  intro p e s m args below meth c s₁ B hml htb hv
  obtain ⟨rfl, ⟨hsz, hT, hP, hK, hD0⟩, hN, hZ⟩ := hv
  subst hsz
  have hx := B.exec
  have hb := B.bytes
  have hr := B.returns
  have hlocks := B.notSynchronized
  have hown : s.vm.findClass RC = some m.cls := findClass_of_methodNamed B.named
  have hD := hD0.self (sz := s.heap.size)
  generalize hAe : va_A (zs_W o a b d cJ den rch pol exg xp (nI n) str rdl rds off del arr ++ (zc_C c0 q v sv loc slw wst ++ (zp_W q r cB row ++ zc_S sv cS g))) s.heap.size = A at hD hZ ⊢
  have hA : ∀ q : Nat, s.heap.size ≤ q → A q := fun q h => by rw [← hAe]; exact Or.inr h
  have hS : va_S A s.heap s.heap [] := va_S.rf
  have hl := lv_entry ([.ref c0, .int (nI k)]) (n := 3) (Nat.le_of_ble_eq_true rfl)
  rw [lg_entry_eq]
  generalize (lg_sl ([.ref c0, .int (nI k)]) ++ List.replicate (3 - (lg_sl ([.ref c0, .int (nI k)])).length) Slot.unset).toArray = ls at hl ⊢
  have hl : lv_has ls 3 [(0, .ref c0), (1, .int (nI k))] := hl
  refine lv_aload_n hx hb dC_receive_0 rfl (lv_at hl 0 rfl) ?_
  refine lv_iload_n hx hb dC_receive_1 rfl (lv_at hl 1 rfl) ?_
  refine zz_call (va_runV (Ts := []) (As := [.int (nI k)]) (own := RC) ⟨hx, hb, hml, hown, fun _ h => nomatch h⟩ (ct_C_serverAt l hk hg) (zt_cv hT tc_C_serverAt tv_C_serverAt tw_343 ⟨Nat.le_of_ble_eq_true rfl, Nat.le_of_ble_eq_true rfl⟩) (zz_preV (q0 := 4) hT hP hK rfl rfl) rfl rfl hl.1 rfl (lv_room (Nat.le_of_ble_eq_true rfl)) dC_receive_2 ⟨Nat.zero_le _, Nat.zero_le _⟩) ?_
  refine lv_astore_n (lv' := [(2, .ref o), (0, .ref c0), (1, .int (nI k))]) hx hb dC_receive_5 rfl hl (by decide) rfl (fun ls hl => ?_)
  refine lv_aload_n hx hb dC_receive_6 rfl (lv_at hl 1 rfl) ?_
  refine zz_getC hx hb hT hown hK hP 4 rfl 0 (by decide) tw_121 rfl dC_receive_7 ?_
  refine zz_call (va_runV (Ts := []) (As := []) (own := RC) ⟨hx, hb, hml, hown, fun _ h => nomatch h⟩ (ct_P_isAnswer l) (zt_cv hT tc_P_isAnswer tv_P_isAnswer tw_381 ⟨Nat.le_of_ble_eq_true rfl, Nat.le_of_ble_eq_true rfl⟩) (zz_preV (q0 := 0) hT (zq_Pl (zq_Pr (zq_Pr hP))) hK rfl rfl) rfl rfl hl.1 rfl (lv_room (Nat.le_of_ble_eq_true rfl)) dC_receive_10 ⟨Nat.zero_le _, Nat.zero_le _⟩) ?_
  refine zz_zne (tgt := 24) hx hb dC_receive_13 (by decide) (fun h1 => ?_) (fun h1 => ?_)
  · refine lv_aload_n hx hb dC_receive_24 rfl (lv_at hl 0 rfl) ?_
    refine zz_getS hx hb hT hown hK hP 0 rfl 0 (by decide) tw_43 rfl dC_receive_25 ?_
    refine zz_zne (tgt := 57) hx hb dC_receive_28 (by decide) (fun h2 => ?_) (fun h2 => ?_)
    · exact zx_throw hx hb hlt zx_ISE hT hN hZ hown hlocks htb (hl.1.trans hml.symm) ⟨Nat.le_of_ble_eq_true rfl, Nat.le_of_ble_eq_true rfl, Nat.le_of_ble_eq_true rfl, Nat.le_of_ble_eq_true rfl⟩ dC_receive_57 dC_receive_60 dC_receive_61 dC_receive_64 hAe hP hD hS
    · refine lv_aload_n hx hb dC_receive_31 rfl (lv_at hl 0 rfl) ?_
      refine zz_getS hx hb hT hown hK hP 0 rfl 3 (by decide) tw_51 rfl dC_receive_32 ?_
      refine zz_zeq (tgt := 57) hx hb dC_receive_35 (by decide) (fun h3 => ?_) (fun h3 => ?_)
      · exact zx_throw hx hb hlt zx_ISE hT hN hZ hown hlocks htb (hl.1.trans hml.symm) ⟨Nat.le_of_ble_eq_true rfl, Nat.le_of_ble_eq_true rfl, Nat.le_of_ble_eq_true rfl, Nat.le_of_ble_eq_true rfl⟩ dC_receive_57 dC_receive_60 dC_receive_61 dC_receive_64 hAe hP hD hS
      · refine lv_aload_n hx hb dC_receive_38 rfl (lv_at hl 0 rfl) ?_
        refine zz_getS hx hb hT hown hK hP 0 rfl 4 (by decide) tw_53 rfl dC_receive_39 ?_
        refine lv_aload_n hx hb dC_receive_42 rfl (lv_at hl 1 rfl) ?_
        refine zz_getC hx hb hT hown hK hP 4 rfl 0 (by decide) tw_121 rfl dC_receive_43 ?_
        refine lv_bipush (v := 24) hx hb dC_receive_46 (by decide) ?_
        refine lv_bipush (v := 8) hx hb dC_receive_48 (by decide) ?_
        refine zz_call (va_runV (Ts := []) (As := [.int 24, .int 8]) (own := RC) ⟨hx, hb, hml, hown, fun _ h => nomatch h⟩ (ct_P_read l (u := 24) (n := 8) (by first | decide | omega)) (zt_cv hT tc_P_read tv_P_read tw_389 ⟨Nat.le_of_ble_eq_true rfl, Nat.le_of_ble_eq_true rfl⟩) (zz_preV (q0 := 0) hT (zq_Pl (zq_Pr (zq_Pr hP))) hK rfl rfl) rfl rfl hl.1 rfl (lv_room (Nat.le_of_ble_eq_true rfl)) dC_receive_50 ⟨Nat.zero_le _, Nat.zero_le _⟩) ?_
        refine zz_leq (tgt := 65) hx hb dC_receive_53 dC_receive_54 (by decide) (fun h4 => ?_) (fun h4 => ?_)
        · exact absurd ⟨h2, h3, h4⟩ hd
        · exact zx_throw hx hb hlt zx_ISE hT hN hZ hown hlocks htb (hl.1.trans hml.symm) ⟨Nat.le_of_ble_eq_true rfl, Nat.le_of_ble_eq_true rfl, Nat.le_of_ble_eq_true rfl, Nat.le_of_ble_eq_true rfl⟩ dC_receive_57 dC_receive_60 dC_receive_61 dC_receive_64 hAe hP hD hS
  · exact absurd h1 ha
