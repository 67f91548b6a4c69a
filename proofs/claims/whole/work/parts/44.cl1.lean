/-! The client: methods that return (one server) -/
set_option maxHeartbeats 4000000 in
set_option maxRecDepth 100000 in
theorem ct_C_serverAt (l : Launch) {dC : Nat → ClassId} {dI : Nat → Nat → Nat} {cJ cI cB cZ cS : ClassId} {o a b d : Nat} {den rch pol exg str : Int32} {xp rdl rds : Int64} {off del arr : Nat → Int64} {n : Nat} {c0 q r v sv : Nat} {g : Nat → Option Nat} {loc slw : Int64} {wst : Int32} {row : Nat → Int32} {k : Nat} (hk : k < 5) (hg : g k = some o)  : Met l yC_serverAt [Cond.code yC_serverAt cC_serverAt 2 (some (.object "StrataClient$Server"))] { frames := 0, cells := 0, slots := 0, locals := 0 } (va_Pc [.ref c0, .int (nI k)] (zz_B (dC, dI) vcl (zz_T cJ cI cB cZ cS) (zs_W o a b d cJ den rch pol exg xp (nI n) str rdl rds off del arr ++ (zc_C c0 q v sv loc slw wst ++ (zp_W q r cB row ++ zc_S sv cS g))))) (zz_Q (.ref o)) 0 0 (fun _ => False) := by
  refine Met.ofW (cc := cC_serverAt) (maxL := 2) (ret := (some (.object "StrataClient$Server"))) (by decide) rfl ?_
  intro p e s m args below meth c s₁ B hml hv
  obtain ⟨rfl, hT, hP, hK⟩ := hv
  have hx := B.exec
  have hb := B.bytes
  have hr := B.returns
  have hlocks := B.notSynchronized
  have hown : s.vm.findClass RC = some m.cls := findClass_of_methodNamed B.named
  have hl := lv_entry ([.ref c0, .int (nI k)]) (n := 2) (Nat.le_of_ble_eq_true rfl)
  rw [lg_entry_eq]
  generalize (lg_sl ([.ref c0, .int (nI k)]) ++ List.replicate (2 - (lg_sl ([.ref c0, .int (nI k)])).length) Slot.unset).toArray = ls at hl ⊢
  have hl : lv_has ls 2 [(0, .ref c0), (1, .int (nI k))] := hl
  refine lv_iload_n hx hb dC_serverAt_0 rfl (lv_at hl 1 rfl) ?_
  refine zz_zlt (tgt := 9) hx hb dC_serverAt_1 (by decide) (fun h => absurd ((zz_ltN (a := k) (b := 0) rfl rfl (by omega) (by omega)).mp h) (Nat.not_lt_zero _)) (fun _ => ?_)
  refine lv_iload_n hx hb dC_serverAt_4 rfl (lv_at hl 1 rfl) ?_
  refine lv_iconst (v := 5) hx hb dC_serverAt_5 (by decide) ?_
  refine zz_ilt (tgt := 17) hx hb dC_serverAt_6 (by decide) (fun h1 => ?_) (fun h1 => ?_)
  · have h1n := (zz_ltN (a := k) (b := 5) rfl rfl (by omega) (by omega)).mp h1
    refine lv_aload_n hx hb dC_serverAt_17 rfl (lv_at hl 0 rfl) ?_
    refine zz_getC hx hb hT hown hK hP 4 rfl 1 (by decide) tw_122 rfl dC_serverAt_18 ?_
    refine lv_iload_n hx hb dC_serverAt_21 rfl (lv_at hl 1 rfl) ?_
    refine zz_aald hx hb hK hP 7 4 rfl rfl k rfl (by first | omega | decide | assumption) (by decide) hg dC_serverAt_22 ?_
    exact zz_aret hx hb hr hlocks dC_serverAt_23
  · have h1n := mt (zz_ltN (a := k) (b := 5) rfl rfl (by omega) (by omega)).mpr h1
    omega
set_option maxHeartbeats 4000000 in
set_option maxRecDepth 100000 in
theorem ct_C_sampledAt (l : Launch) {dC : Nat → ClassId} {dI : Nat → Nat → Nat} {cJ cI cB cZ cS : ClassId} {o a b d : Nat} {den rch pol exg str : Int32} {xp rdl rds : Int64} {off del arr : Nat → Int64} {n : Nat} {c0 q r v sv : Nat} {g : Nat → Option Nat} {loc slw : Int64} {wst : Int32} {row : Nat → Int32} {k : Nat} (hk : k < 5) (hg : g k = some o) (h0 : ¬ n = 0) (hn : n ≤ 8) : Met l yC_sampledAt [Cond.code yC_sampledAt cC_sampledAt 3 (some (.object "StrataClient$Server"))] { frames := 1, cells := 0, slots := 0, locals := 21 } (va_Pc [.ref c0, .int (nI k)] (zz_B (dC, dI) vcl (zz_T cJ cI cB cZ cS) (zs_W o a b d cJ den rch pol exg xp (nI n) str rdl rds off del arr ++ (zc_C c0 q v sv loc slw wst ++ (zp_W q r cB row ++ zc_S sv cS g))))) (zz_Q (.ref o)) 0 0 (fun _ => False) := by
  refine Met.ofW (cc := cC_sampledAt) (maxL := 3) (ret := (some (.object "StrataClient$Server"))) (by decide) rfl ?_
  intro p e s m args below meth c s₁ B hml hv
  obtain ⟨rfl, hT, hP, hK⟩ := hv
  have hx := B.exec
  have hb := B.bytes
  have hr := B.returns
  have hlocks := B.notSynchronized
  have hown : s.vm.findClass RC = some m.cls := findClass_of_methodNamed B.named
  have hl := lv_entry ([.ref c0, .int (nI k)]) (n := 3) (Nat.le_of_ble_eq_true rfl)
  rw [lg_entry_eq]
  generalize (lg_sl ([.ref c0, .int (nI k)]) ++ List.replicate (3 - (lg_sl ([.ref c0, .int (nI k)])).length) Slot.unset).toArray = ls at hl ⊢
  have hl : lv_has ls 3 [(0, .ref c0), (1, .int (nI k))] := hl
  refine lv_aload_n hx hb dC_sampledAt_0 rfl (lv_at hl 0 rfl) ?_
  refine lv_iload_n hx hb dC_sampledAt_1 rfl (lv_at hl 1 rfl) ?_
  refine zz_call (va_runV (Ts := []) (As := [.int (nI k)]) (own := RC) ⟨hx, hb, hml, hown, fun _ h => nomatch h⟩ (ct_C_serverAt l hk hg) (zt_cv hT tc_C_serverAt tv_C_serverAt tw_343 ⟨Nat.le_of_ble_eq_true rfl, Nat.le_of_ble_eq_true rfl⟩) (zz_preV (q0 := 4) hT hP hK rfl rfl) rfl rfl hl.1 rfl (lv_room (Nat.le_of_ble_eq_true rfl)) dC_sampledAt_2 ⟨Nat.zero_le _, Nat.zero_le _⟩) ?_
  refine lv_astore_n (lv' := [(2, .ref o), (0, .ref c0), (1, .int (nI k))]) hx hb dC_sampledAt_5 rfl hl (by decide) rfl (fun ls hl => ?_)
  refine lv_aload_n hx hb dC_sampledAt_6 rfl (lv_at hl 0 rfl) ?_
  refine zz_getS hx hb hT hown hK hP 0 rfl 5 (by decide) tw_56 rfl dC_sampledAt_7 ?_
  refine zz_zne (tgt := 21) hx hb dC_sampledAt_10 (by decide) (fun h1 => ?_) (fun h1 => ?_)
  · have h1n := mt (zz_eqN (a := n) (b := 0) rfl rfl (by omega) (by omega)).mpr h1
    refine lv_aload_n hx hb dC_sampledAt_21 rfl (lv_at hl 0 rfl) ?_
    exact zz_aret hx hb hr hlocks dC_sampledAt_22
  · have h1n := (zz_eqN (a := n) (b := 0) rfl rfl (by omega) (by omega)).mp h1
    exact absurd h1n h0
set_option maxHeartbeats 4000000 in
set_option maxRecDepth 100000 in
theorem ct_C_reach (l : Launch) {dC : Nat → ClassId} {dI : Nat → Nat → Nat} {cJ cI cB cZ cS : ClassId} {o a b d : Nat} {den rch pol exg str : Int32} {xp rdl rds : Int64} {off del arr : Nat → Int64} {n : Nat} {c0 q r v sv : Nat} {g : Nat → Option Nat} {loc slw : Int64} {wst : Int32} {row : Nat → Int32} {k : Nat} (hk : k < 5) (hg : g k = some o)  : Met l yC_reach [Cond.code yC_reach cC_reach 3 (some .int)] { frames := 1, cells := 0, slots := 0, locals := 21 } (va_Pc [.ref c0, .int (nI k)] (zz_B (dC, dI) vcl (zz_T cJ cI cB cZ cS) (zs_W o a b d cJ den rch pol exg xp (nI n) str rdl rds off del arr ++ (zc_C c0 q v sv loc slw wst ++ (zp_W q r cB row ++ zc_S sv cS g))))) (zz_Q (.int (zc_rea den rch))) 0 0 (fun _ => False) := by
  refine Met.ofW (cc := cC_reach) (maxL := 3) (ret := (some .int)) (by decide) rfl ?_
  intro p e s m args below meth c s₁ B hml hv
  obtain ⟨rfl, hT, hP, hK⟩ := hv
  have hx := B.exec
  have hb := B.bytes
  have hr := B.returns
  have hlocks := B.notSynchronized
  have hown : s.vm.findClass RC = some m.cls := findClass_of_methodNamed B.named
  have hl := lv_entry ([.ref c0, .int (nI k)]) (n := 3) (Nat.le_of_ble_eq_true rfl)
  rw [lg_entry_eq]
  generalize (lg_sl ([.ref c0, .int (nI k)]) ++ List.replicate (3 - (lg_sl ([.ref c0, .int (nI k)])).length) Slot.unset).toArray = ls at hl ⊢
  have hl : lv_has ls 3 [(0, .ref c0), (1, .int (nI k))] := hl
  refine lv_aload_n hx hb dC_reach_0 rfl (lv_at hl 0 rfl) ?_
  refine lv_iload_n hx hb dC_reach_1 rfl (lv_at hl 1 rfl) ?_
  refine zz_call (va_runV (Ts := []) (As := [.int (nI k)]) (own := RC) ⟨hx, hb, hml, hown, fun _ h => nomatch h⟩ (ct_C_serverAt l hk hg) (zt_cv hT tc_C_serverAt tv_C_serverAt tw_343 ⟨Nat.le_of_ble_eq_true rfl, Nat.le_of_ble_eq_true rfl⟩) (zz_preV (q0 := 4) hT hP hK rfl rfl) rfl rfl hl.1 rfl (lv_room (Nat.le_of_ble_eq_true rfl)) dC_reach_2 ⟨Nat.zero_le _, Nat.zero_le _⟩) ?_
  refine lv_astore_n (lv' := [(2, .ref o), (0, .ref c0), (1, .int (nI k))]) hx hb dC_reach_5 rfl hl (by decide) rfl (fun ls hl => ?_)
  refine lv_aload_n hx hb dC_reach_6 rfl (lv_at hl 0 rfl) ?_
  refine zz_getS hx hb hT hown hK hP 0 rfl 0 (by decide) tw_43 rfl dC_reach_7 ?_
  refine zz_zeq (tgt := 24) hx hb dC_reach_10 (by decide) (fun h1 => ?_) (fun h1 => ?_)
  · refine lv_aload_n hx hb dC_reach_24 rfl (lv_at hl 0 rfl) ?_
    refine zz_getS hx hb hT hown hK hP 0 rfl 1 (by decide) tw_47 rfl dC_reach_25 ?_
    exact zz_iret hx hb hr hlocks dC_reach_28 ((if_pos h1).symm)
  · refine lv_aload_n hx hb dC_reach_13 rfl (lv_at hl 0 rfl) ?_
    refine zz_getS hx hb hT hown hK hP 0 rfl 1 (by decide) tw_47 rfl dC_reach_14 ?_
    refine lv_sipush (v := 256) hx hb dC_reach_17 (by decide) ?_
    refine lv_iadd hx hb dC_reach_20 ?_
    refine lv_goto (tgt := 28) hx hb dC_reach_21 (by decide) ?_
    exact zz_iret hx hb hr hlocks dC_reach_28 ((if_neg h1).symm)
set_option maxHeartbeats 4000000 in
set_option maxRecDepth 100000 in
theorem ct_C_poll (l : Launch) {dC : Nat → ClassId} {dI : Nat → Nat → Nat} {cJ cI cB cZ cS : ClassId} {o a b d : Nat} {den rch pol exg str : Int32} {xp rdl rds : Int64} {off del arr : Nat → Int64} {n : Nat} {c0 q r v sv : Nat} {g : Nat → Option Nat} {loc slw : Int64} {wst : Int32} {row : Nat → Int32} {k : Nat} (hk : k < 5) (hg : g k = some o)  : Met l yC_poll [Cond.code yC_poll cC_poll 2 (some .int)] { frames := 1, cells := 0, slots := 0, locals := 21 } (va_Pc [.ref c0, .int (nI k)] (zz_B (dC, dI) vcl (zz_T cJ cI cB cZ cS) (zs_W o a b d cJ den rch pol exg xp (nI n) str rdl rds off del arr ++ (zc_C c0 q v sv loc slw wst ++ (zp_W q r cB row ++ zc_S sv cS g))))) (zz_Q (.int pol)) 0 0 (fun _ => False) := by
  refine Met.ofW (cc := cC_poll) (maxL := 2) (ret := (some .int)) (by decide) rfl ?_
  intro p e s m args below meth c s₁ B hml hv
  obtain ⟨rfl, hT, hP, hK⟩ := hv
  have hx := B.exec
  have hb := B.bytes
  have hr := B.returns
  have hlocks := B.notSynchronized
  have hown : s.vm.findClass RC = some m.cls := findClass_of_methodNamed B.named
  have hl := lv_entry ([.ref c0, .int (nI k)]) (n := 2) (Nat.le_of_ble_eq_true rfl)
  rw [lg_entry_eq]
  generalize (lg_sl ([.ref c0, .int (nI k)]) ++ List.replicate (2 - (lg_sl ([.ref c0, .int (nI k)])).length) Slot.unset).toArray = ls at hl ⊢
  have hl : lv_has ls 2 [(0, .ref c0), (1, .int (nI k))] := hl
  refine lv_aload_n hx hb dC_poll_0 rfl (lv_at hl 0 rfl) ?_
  refine lv_iload_n hx hb dC_poll_1 rfl (lv_at hl 1 rfl) ?_
  refine zz_call (va_runV (Ts := []) (As := [.int (nI k)]) (own := RC) ⟨hx, hb, hml, hown, fun _ h => nomatch h⟩ (ct_C_serverAt l hk hg) (zt_cv hT tc_C_serverAt tv_C_serverAt tw_343 ⟨Nat.le_of_ble_eq_true rfl, Nat.le_of_ble_eq_true rfl⟩) (zz_preV (q0 := 4) hT hP hK rfl rfl) rfl rfl hl.1 rfl (lv_room (Nat.le_of_ble_eq_true rfl)) dC_poll_2 ⟨Nat.zero_le _, Nat.zero_le _⟩) ?_
  refine zz_getS hx hb hT hown hK hP 0 rfl 2 (by decide) tw_49 rfl dC_poll_5 ?_
  exact zz_iret hx hb hr hlocks dC_poll_8 (rfl)
set_option maxHeartbeats 4000000 in
set_option maxRecDepth 100000 in
theorem ct_C_samples (l : Launch) {dC : Nat → ClassId} {dI : Nat → Nat → Nat} {cJ cI cB cZ cS : ClassId} {o a b d : Nat} {den rch pol exg str : Int32} {xp rdl rds : Int64} {off del arr : Nat → Int64} {n : Nat} {c0 q r v sv : Nat} {g : Nat → Option Nat} {loc slw : Int64} {wst : Int32} {row : Nat → Int32} {k : Nat} (hk : k < 5) (hg : g k = some o)  : Met l yC_samples [Cond.code yC_samples cC_samples 2 (some .int)] { frames := 1, cells := 0, slots := 0, locals := 21 } (va_Pc [.ref c0, .int (nI k)] (zz_B (dC, dI) vcl (zz_T cJ cI cB cZ cS) (zs_W o a b d cJ den rch pol exg xp (nI n) str rdl rds off del arr ++ (zc_C c0 q v sv loc slw wst ++ (zp_W q r cB row ++ zc_S sv cS g))))) (zz_Q (.int (nI n))) 0 0 (fun _ => False) := by
  refine Met.ofW (cc := cC_samples) (maxL := 2) (ret := (some .int)) (by decide) rfl ?_
  intro p e s m args below meth c s₁ B hml hv
  obtain ⟨rfl, hT, hP, hK⟩ := hv
  have hx := B.exec
  have hb := B.bytes
  have hr := B.returns
  have hlocks := B.notSynchronized
  have hown : s.vm.findClass RC = some m.cls := findClass_of_methodNamed B.named
  have hl := lv_entry ([.ref c0, .int (nI k)]) (n := 2) (Nat.le_of_ble_eq_true rfl)
  rw [lg_entry_eq]
  generalize (lg_sl ([.ref c0, .int (nI k)]) ++ List.replicate (2 - (lg_sl ([.ref c0, .int (nI k)])).length) Slot.unset).toArray = ls at hl ⊢
  have hl : lv_has ls 2 [(0, .ref c0), (1, .int (nI k))] := hl
  refine lv_aload_n hx hb dC_samples_0 rfl (lv_at hl 0 rfl) ?_
  refine lv_iload_n hx hb dC_samples_1 rfl (lv_at hl 1 rfl) ?_
  refine zz_call (va_runV (Ts := []) (As := [.int (nI k)]) (own := RC) ⟨hx, hb, hml, hown, fun _ h => nomatch h⟩ (ct_C_serverAt l hk hg) (zt_cv hT tc_C_serverAt tv_C_serverAt tw_343 ⟨Nat.le_of_ble_eq_true rfl, Nat.le_of_ble_eq_true rfl⟩) (zz_preV (q0 := 4) hT hP hK rfl rfl) rfl rfl hl.1 rfl (lv_room (Nat.le_of_ble_eq_true rfl)) dC_samples_2 ⟨Nat.zero_le _, Nat.zero_le _⟩) ?_
  refine zz_getS hx hb hT hown hK hP 0 rfl 5 (by decide) tw_56 rfl dC_samples_5 ?_
  exact zz_iret hx hb hr hlocks dC_samples_8 (rfl)
set_option maxHeartbeats 4000000 in
set_option maxRecDepth 100000 in
theorem ct_C_offset (l : Launch) {dC : Nat → ClassId} {dI : Nat → Nat → Nat} {cJ cI cB cZ cS : ClassId} {o a b d : Nat} {den rch pol exg str : Int32} {xp rdl rds : Int64} {off del arr : Nat → Int64} {n : Nat} {c0 q r v sv : Nat} {g : Nat → Option Nat} {loc slw : Int64} {wst : Int32} {row : Nat → Int32} {k : Nat} (hk : k < 5) (hg : g k = some o) (h0 : ¬ n = 0) (hn : n ≤ 8) : Met l yC_offset [Cond.code yC_offset cC_offset 2 (some .long)] { frames := 4, cells := 0, slots := 0, locals := 96 } (va_Pc [.ref c0, .int (nI k)] (zz_B (dC, dI) vcl (zz_T cJ cI cB cZ cS) (zs_W o a b d cJ den rch pol exg xp (nI n) str rdl rds off del arr ++ (zc_C c0 q v sv loc slw wst ++ (zp_W q r cB row ++ zc_S sv cS g))))) (zz_Q (.long (off (zs_at del arr loc n)))) 0 0 (fun _ => False) := by
  refine Met.ofW (cc := cC_offset) (maxL := 2) (ret := (some .long)) (by decide) rfl ?_
  intro p e s m args below meth c s₁ B hml hv
  obtain ⟨rfl, hT, hP, hK⟩ := hv
  have hx := B.exec
  have hb := B.bytes
  have hr := B.returns
  have hlocks := B.notSynchronized
  have hown : s.vm.findClass RC = some m.cls := findClass_of_methodNamed B.named
  have hl := lv_entry ([.ref c0, .int (nI k)]) (n := 2) (Nat.le_of_ble_eq_true rfl)
  rw [lg_entry_eq]
  generalize (lg_sl ([.ref c0, .int (nI k)]) ++ List.replicate (2 - (lg_sl ([.ref c0, .int (nI k)])).length) Slot.unset).toArray = ls at hl ⊢
  have hl : lv_has ls 2 [(0, .ref c0), (1, .int (nI k))] := hl
  refine lv_aload_n hx hb dC_offset_0 rfl (lv_at hl 0 rfl) ?_
  refine lv_iload_n hx hb dC_offset_1 rfl (lv_at hl 1 rfl) ?_
  refine zz_call (va_runV (Ts := []) (As := [.int (nI k)]) (own := RC) ⟨hx, hb, hml, hown, fun _ h => nomatch h⟩ (ct_C_sampledAt l hk hg h0 hn) (zt_cv hT tc_C_sampledAt tv_C_sampledAt tw_469 ⟨Nat.le_of_ble_eq_true rfl, Nat.le_of_ble_eq_true rfl⟩) (zz_preV (q0 := 4) hT hP hK rfl rfl) rfl rfl hl.1 rfl (lv_room (Nat.le_of_ble_eq_true rfl)) dC_offset_2 ⟨Nat.zero_le _, Nat.zero_le _⟩) ?_
  refine lv_aload_n hx hb dC_offset_5 rfl (lv_at hl 0 rfl) ?_
  refine zz_getC hx hb hT hown hK hP 4 rfl 3 (by decide) tw_124 rfl dC_offset_6 ?_
  refine zz_call (va_runV (Ts := []) (As := [.long loc]) (own := RC) ⟨hx, hb, hml, hown, fun _ h => nomatch h⟩ (ct_S_bestOffset l (by omega) hn) (zt_cv hT tc_S_bestOffset tv_S_bestOffset tw_488 ⟨Nat.le_of_ble_eq_true rfl, Nat.le_of_ble_eq_true rfl⟩) (zz_preV (q0 := 0) hT (zq_Pl hP) hK rfl rfl) rfl rfl hl.1 rfl (lv_room (Nat.le_of_ble_eq_true rfl)) dC_offset_9 ⟨Nat.zero_le _, Nat.zero_le _⟩) ?_
  exact zz_lret hx hb hr hlocks dC_offset_12 (rfl)
set_option maxHeartbeats 4000000 in
set_option maxRecDepth 100000 in
theorem ct_C_delay (l : Launch) {dC : Nat → ClassId} {dI : Nat → Nat → Nat} {cJ cI cB cZ cS : ClassId} {o a b d : Nat} {den rch pol exg str : Int32} {xp rdl rds : Int64} {off del arr : Nat → Int64} {n : Nat} {c0 q r v sv : Nat} {g : Nat → Option Nat} {loc slw : Int64} {wst : Int32} {row : Nat → Int32} {k : Nat} (hk : k < 5) (hg : g k = some o) (h0 : ¬ n = 0) (hn : n ≤ 8) : Met l yC_delay [Cond.code yC_delay cC_delay 2 (some .long)] { frames := 4, cells := 0, slots := 0, locals := 96 } (va_Pc [.ref c0, .int (nI k)] (zz_B (dC, dI) vcl (zz_T cJ cI cB cZ cS) (zs_W o a b d cJ den rch pol exg xp (nI n) str rdl rds off del arr ++ (zc_C c0 q v sv loc slw wst ++ (zp_W q r cB row ++ zc_S sv cS g))))) (zz_Q (.long (del (zs_at del arr loc n)))) 0 0 (fun _ => False) := by
  refine Met.ofW (cc := cC_delay) (maxL := 2) (ret := (some .long)) (by decide) rfl ?_
  intro p e s m args below meth c s₁ B hml hv
  obtain ⟨rfl, hT, hP, hK⟩ := hv
  have hx := B.exec
  have hb := B.bytes
  have hr := B.returns
  have hlocks := B.notSynchronized
  have hown : s.vm.findClass RC = some m.cls := findClass_of_methodNamed B.named
  have hl := lv_entry ([.ref c0, .int (nI k)]) (n := 2) (Nat.le_of_ble_eq_true rfl)
  rw [lg_entry_eq]
  generalize (lg_sl ([.ref c0, .int (nI k)]) ++ List.replicate (2 - (lg_sl ([.ref c0, .int (nI k)])).length) Slot.unset).toArray = ls at hl ⊢
  have hl : lv_has ls 2 [(0, .ref c0), (1, .int (nI k))] := hl
  refine lv_aload_n hx hb dC_delay_0 rfl (lv_at hl 0 rfl) ?_
  refine lv_iload_n hx hb dC_delay_1 rfl (lv_at hl 1 rfl) ?_
  refine zz_call (va_runV (Ts := []) (As := [.int (nI k)]) (own := RC) ⟨hx, hb, hml, hown, fun _ h => nomatch h⟩ (ct_C_sampledAt l hk hg h0 hn) (zt_cv hT tc_C_sampledAt tv_C_sampledAt tw_469 ⟨Nat.le_of_ble_eq_true rfl, Nat.le_of_ble_eq_true rfl⟩) (zz_preV (q0 := 4) hT hP hK rfl rfl) rfl rfl hl.1 rfl (lv_room (Nat.le_of_ble_eq_true rfl)) dC_delay_2 ⟨Nat.zero_le _, Nat.zero_le _⟩) ?_
  refine lv_aload_n hx hb dC_delay_5 rfl (lv_at hl 0 rfl) ?_
  refine zz_getC hx hb hT hown hK hP 4 rfl 3 (by decide) tw_124 rfl dC_delay_6 ?_
  refine zz_call (va_runV (Ts := []) (As := [.long loc]) (own := RC) ⟨hx, hb, hml, hown, fun _ h => nomatch h⟩ (ct_S_bestDelay l (by omega) hn) (zt_cv hT tc_S_bestDelay tv_S_bestDelay tw_496 ⟨Nat.le_of_ble_eq_true rfl, Nat.le_of_ble_eq_true rfl⟩) (zz_preV (q0 := 0) hT (zq_Pl hP) hK rfl rfl) rfl rfl hl.1 rfl (lv_room (Nat.le_of_ble_eq_true rfl)) dC_delay_9 ⟨Nat.zero_le _, Nat.zero_le _⟩) ?_
  exact zz_lret hx hb hr hlocks dC_delay_12 (rfl)
set_option maxHeartbeats 4000000 in
set_option maxRecDepth 100000 in
theorem ct_C_jitter (l : Launch) {dC : Nat → ClassId} {dI : Nat → Nat → Nat} {cJ cI cB cZ cS : ClassId} {o a b d : Nat} {den rch pol exg str : Int32} {xp rdl rds : Int64} {off del arr : Nat → Int64} {n : Nat} {c0 q r v sv : Nat} {g : Nat → Option Nat} {loc slw : Int64} {wst : Int32} {row : Nat → Int32} {k : Nat} (hk : k < 5) (hg : g k = some o) (h0 : ¬ n = 0) (hn : n ≤ 8) : Met l yC_jitter [Cond.code yC_jitter cC_jitter 2 (some .long)] { frames := 4, cells := 0, slots := 0, locals := 96 } (va_Pc [.ref c0, .int (nI k)] (zz_B (dC, dI) vcl (zz_T cJ cI cB cZ cS) (zs_W o a b d cJ den rch pol exg xp (nI n) str rdl rds off del arr ++ (zc_C c0 q v sv loc slw wst ++ (zp_W q r cB row ++ zc_S sv cS g))))) (zz_Q (.long (zs_jit off del arr loc n))) 0 0 (fun _ => False) := by
  refine Met.ofW (cc := cC_jitter) (maxL := 2) (ret := (some .long)) (by decide) rfl ?_
  intro p e s m args below meth c s₁ B hml hv
  obtain ⟨rfl, hT, hP, hK⟩ := hv
  have hx := B.exec
  have hb := B.bytes
  have hr := B.returns
  have hlocks := B.notSynchronized
  have hown : s.vm.findClass RC = some m.cls := findClass_of_methodNamed B.named
  have hl := lv_entry ([.ref c0, .int (nI k)]) (n := 2) (Nat.le_of_ble_eq_true rfl)
  rw [lg_entry_eq]
  generalize (lg_sl ([.ref c0, .int (nI k)]) ++ List.replicate (2 - (lg_sl ([.ref c0, .int (nI k)])).length) Slot.unset).toArray = ls at hl ⊢
  have hl : lv_has ls 2 [(0, .ref c0), (1, .int (nI k))] := hl
  refine lv_aload_n hx hb dC_jitter_0 rfl (lv_at hl 0 rfl) ?_
  refine lv_iload_n hx hb dC_jitter_1 rfl (lv_at hl 1 rfl) ?_
  refine zz_call (va_runV (Ts := []) (As := [.int (nI k)]) (own := RC) ⟨hx, hb, hml, hown, fun _ h => nomatch h⟩ (ct_C_sampledAt l hk hg h0 hn) (zt_cv hT tc_C_sampledAt tv_C_sampledAt tw_469 ⟨Nat.le_of_ble_eq_true rfl, Nat.le_of_ble_eq_true rfl⟩) (zz_preV (q0 := 4) hT hP hK rfl rfl) rfl rfl hl.1 rfl (lv_room (Nat.le_of_ble_eq_true rfl)) dC_jitter_2 ⟨Nat.zero_le _, Nat.zero_le _⟩) ?_
  refine lv_aload_n hx hb dC_jitter_5 rfl (lv_at hl 0 rfl) ?_
  refine zz_getC hx hb hT hown hK hP 4 rfl 3 (by decide) tw_124 rfl dC_jitter_6 ?_
  refine zz_call (va_runV (Ts := []) (As := [.long loc]) (own := RC) ⟨hx, hb, hml, hown, fun _ h => nomatch h⟩ (ct_S_jitterAt l (by omega) hn) (zt_cv hT tc_S_jitterAt tv_S_jitterAt tw_507 ⟨Nat.le_of_ble_eq_true rfl, Nat.le_of_ble_eq_true rfl⟩) (zz_preV (q0 := 0) hT (zq_Pl hP) hK rfl rfl) rfl rfl hl.1 rfl (lv_room (Nat.le_of_ble_eq_true rfl)) dC_jitter_9 ⟨Nat.zero_le _, Nat.zero_le _⟩) ?_
  exact zz_lret hx hb hr hlocks dC_jitter_12 (rfl)
set_option maxHeartbeats 4000000 in
set_option maxRecDepth 100000 in
theorem ct_C_distance (l : Launch) {dC : Nat → ClassId} {dI : Nat → Nat → Nat} {cJ cI cB cZ cS : ClassId} {o a b d : Nat} {den rch pol exg str : Int32} {xp rdl rds : Int64} {off del arr : Nat → Int64} {n : Nat} {c0 q r v sv : Nat} {g : Nat → Option Nat} {loc slw : Int64} {wst : Int32} {row : Nat → Int32} {k : Nat} (hk : k < 5) (hg : g k = some o) (h0 : ¬ n = 0) (hn : n ≤ 8) : Met l yC_distance [Cond.code yC_distance cC_distance 2 (some .long)] { frames := 4, cells := 0, slots := 0, locals := 97 } (va_Pc [.ref c0, .int (nI k)] (zz_B (dC, dI) vcl (zz_T cJ cI cB cZ cS) (zs_W o a b d cJ den rch pol exg xp (nI n) str rdl rds off del arr ++ (zc_C c0 q v sv loc slw wst ++ (zp_W q r cB row ++ zc_S sv cS g))))) (zz_Q (.long (zs_root rdl rds off del arr loc n))) 0 0 (fun _ => False) := by
  refine Met.ofW (cc := cC_distance) (maxL := 2) (ret := (some .long)) (by decide) rfl ?_
  intro p e s m args below meth c s₁ B hml hv
  obtain ⟨rfl, hT, hP, hK⟩ := hv
  have hx := B.exec
  have hb := B.bytes
  have hr := B.returns
  have hlocks := B.notSynchronized
  have hown : s.vm.findClass RC = some m.cls := findClass_of_methodNamed B.named
  have hl := lv_entry ([.ref c0, .int (nI k)]) (n := 2) (Nat.le_of_ble_eq_true rfl)
  rw [lg_entry_eq]
  generalize (lg_sl ([.ref c0, .int (nI k)]) ++ List.replicate (2 - (lg_sl ([.ref c0, .int (nI k)])).length) Slot.unset).toArray = ls at hl ⊢
  have hl : lv_has ls 2 [(0, .ref c0), (1, .int (nI k))] := hl
  refine lv_aload_n hx hb dC_distance_0 rfl (lv_at hl 0 rfl) ?_
  refine lv_iload_n hx hb dC_distance_1 rfl (lv_at hl 1 rfl) ?_
  refine zz_call (va_runV (Ts := []) (As := [.int (nI k)]) (own := RC) ⟨hx, hb, hml, hown, fun _ h => nomatch h⟩ (ct_C_sampledAt l hk hg h0 hn) (zt_cv hT tc_C_sampledAt tv_C_sampledAt tw_469 ⟨Nat.le_of_ble_eq_true rfl, Nat.le_of_ble_eq_true rfl⟩) (zz_preV (q0 := 4) hT hP hK rfl rfl) rfl rfl hl.1 rfl (lv_room (Nat.le_of_ble_eq_true rfl)) dC_distance_2 ⟨Nat.zero_le _, Nat.zero_le _⟩) ?_
  refine lv_aload_n hx hb dC_distance_5 rfl (lv_at hl 0 rfl) ?_
  refine zz_getC hx hb hT hown hK hP 4 rfl 3 (by decide) tw_124 rfl dC_distance_6 ?_
  refine zz_call (va_runV (Ts := []) (As := [.long loc]) (own := RC) ⟨hx, hb, hml, hown, fun _ h => nomatch h⟩ (ct_S_rootDistance l (by omega) hn) (zt_cv hT tc_S_rootDistance tv_S_rootDistance tw_518 ⟨Nat.le_of_ble_eq_true rfl, Nat.le_of_ble_eq_true rfl⟩) (zz_preV (q0 := 0) hT (zq_Pl hP) hK rfl rfl) rfl rfl hl.1 rfl (lv_room (Nat.le_of_ble_eq_true rfl)) dC_distance_9 ⟨Nat.zero_le _, Nat.zero_le _⟩) ?_
  exact zz_lret hx hb hr hlocks dC_distance_12 (rfl)
set_option maxHeartbeats 4000000 in
set_option maxRecDepth 100000 in
theorem ct_C_local (l : Launch) {dC : Nat → ClassId} {dI : Nat → Nat → Nat} {cJ cI cB cZ cS : ClassId} {c0 q v sv : Nat} {loc slw : Int64} {wst : Int32} : Met l yC_local [Cond.code yC_local cC_local 1 (some .long)] { frames := 0, cells := 0, slots := 0, locals := 0 } (va_Pc [.ref c0] (zz_B (dC, dI) vcl (zz_T cJ cI cB cZ cS) (zc_C c0 q v sv loc slw wst))) (zz_Q (.long loc)) 0 0 (fun _ => False) := by
  refine Met.ofW (cc := cC_local) (maxL := 1) (ret := (some .long)) (by decide) rfl ?_
  intro p e s m args below meth c s₁ B hml hv
  obtain ⟨rfl, hT, hP, hK⟩ := hv
  have hx := B.exec
  have hb := B.bytes
  have hr := B.returns
  have hlocks := B.notSynchronized
  have hown : s.vm.findClass RC = some m.cls := findClass_of_methodNamed B.named
  have hl := lv_entry ([.ref c0]) (n := 1) (Nat.le_of_ble_eq_true rfl)
  rw [lg_entry_eq]
  generalize (lg_sl ([.ref c0]) ++ List.replicate (1 - (lg_sl ([.ref c0])).length) Slot.unset).toArray = ls at hl ⊢
  have hl : lv_has ls 1 [(0, .ref c0)] := hl
  refine lv_aload_n hx hb dC_local_0 rfl (lv_at hl 0 rfl) ?_
  refine zz_getC hx hb hT hown hK hP 0 rfl 3 (by decide) tw_124 rfl dC_local_1 ?_
  exact zz_lret hx hb hr hlocks dC_local_4 (rfl)
set_option maxHeartbeats 4000000 in
set_option maxRecDepth 100000 in
theorem ct_C_slew (l : Launch) {dC : Nat → ClassId} {dI : Nat → Nat → Nat} {cJ cI cB cZ cS : ClassId} {c0 q v sv : Nat} {loc slw : Int64} {wst : Int32} : Met l yC_slew [Cond.code yC_slew cC_slew 1 (some .long)] { frames := 0, cells := 0, slots := 0, locals := 0 } (va_Pc [.ref c0] (zz_B (dC, dI) vcl (zz_T cJ cI cB cZ cS) (zc_C c0 q v sv loc slw wst))) (zz_Q (.long slw)) 0 0 (fun _ => False) := by
  refine Met.ofW (cc := cC_slew) (maxL := 1) (ret := (some .long)) (by decide) rfl ?_
  intro p e s m args below meth c s₁ B hml hv
  obtain ⟨rfl, hT, hP, hK⟩ := hv
  have hx := B.exec
  have hb := B.bytes
  have hr := B.returns
  have hlocks := B.notSynchronized
  have hown : s.vm.findClass RC = some m.cls := findClass_of_methodNamed B.named
  have hl := lv_entry ([.ref c0]) (n := 1) (Nat.le_of_ble_eq_true rfl)
  rw [lg_entry_eq]
  generalize (lg_sl ([.ref c0]) ++ List.replicate (1 - (lg_sl ([.ref c0])).length) Slot.unset).toArray = ls at hl ⊢
  have hl : lv_has ls 1 [(0, .ref c0)] := hl
  refine lv_aload_n hx hb dC_slew_0 rfl (lv_at hl 0 rfl) ?_
  refine zz_getC hx hb hT hown hK hP 0 rfl 4 (by decide) tw_125 rfl dC_slew_1 ?_
  exact zz_lret hx hb hr hlocks dC_slew_4 (rfl)
set_option maxHeartbeats 4000000 in
set_option maxRecDepth 100000 in
theorem ct_C_run (l : Launch) {dC : Nat → ClassId} {dI : Nat → Nat → Nat} {cJ cI cB cZ cS : ClassId} {sz : Nat} {c0 q v sv : Nat} {loc slw : Int64} {wst : Int32} {x : Int64} (h0 : ¬ x < 0) (h1m : ¬ 1099511627776 < x) : Met l yC_run [Cond.code yC_run cC_run 7 none] { frames := 1, cells := 0, slots := 0, locals := 23 } (va_Pc [.ref c0, .long x] (zq_B (dC, dI) vcl (zz_T cJ cI cB cZ cS) (zc_C c0 q v sv loc slw wst) sz)) (zq_Q (dC, dI) vcl none (zc_C c0 q v sv loc slw wst) (zc_C c0 q v sv (loc + (x + (zn_max (-(x / 2048)) (zn_min (x / 2048) slw)))) (slw - (zn_max (-(x / 2048)) (zn_min (x / 2048) slw))) wst) sz) 0 0 (va_A (zc_C c0 q v sv loc slw wst) sz) := by
  refine Met.ofW (cc := cC_run) (maxL := 7) (ret := none) (by decide) rfl ?_
  intro p e s m args below meth c s₁ B hml hv
  obtain ⟨rfl, hsz, hT, hP, hK, hD0⟩ := hv
  subst hsz
  have hx := B.exec
  have hb := B.bytes
  have hr := B.returns
  have hlocks := B.notSynchronized
  have hown : s.vm.findClass RC = some m.cls := findClass_of_methodNamed B.named
  have hD := hD0.self (sz := s.heap.size)
  generalize hAe : va_A (zc_C c0 q v sv loc slw wst) s.heap.size = A at hD ⊢
  have hA : ∀ q : Nat, s.heap.size ≤ q → A q := fun q h => by rw [← hAe]; exact Or.inr h
  have hS : va_S A s.heap s.heap [] := va_S.rf
  have hl := lv_entry ([.ref c0, .long x]) (n := 7) (Nat.le_of_ble_eq_true rfl)
  rw [lg_entry_eq]
  generalize (lg_sl ([.ref c0, .long x]) ++ List.replicate (7 - (lg_sl ([.ref c0, .long x])).length) Slot.unset).toArray = ls at hl ⊢
  have hl : lv_has ls 7 [(0, .ref c0), (1, .long x)] := hl
  refine lv_lload_n hx hb dC_run_0 rfl (lv_at hl 1 rfl) ?_
  refine lv_lconst (v := 0) hx hb dC_run_1 (by decide) ?_
  refine zz_llt (tgt := 14) hx hb dC_run_2 dC_run_3 (by decide) (fun h1 => ?_) (fun h1 => ?_)
  · exact absurd h1 h0
  · refine lv_lload_n hx hb dC_run_6 rfl (lv_at hl 1 rfl) ?_
    refine lv_ldc2 (own := RC) (v := 1099511627776) hx hb hown (hT.w tw_239) dC_run_7 ?_
    refine zz_lle (tgt := 22) hx hb dC_run_10 dC_run_11 (by decide) (fun h2 => ?_) (fun h2 => ?_)
    · refine lv_lload_n hx hb dC_run_22 rfl (lv_at hl 1 rfl) ?_
      refine lv_ldc2 (own := RC) (v := 2048) hx hb hown (hT.w tw_305) dC_run_23 ?_
      refine lv_ldiv hx hb dC_run_26 (by decide) ?_
      refine lv_lstore_n (lv' := [(3, .long (x / 2048)), (0, .ref c0), (1, .long x)]) hx hb dC_run_27 rfl hl (by decide) rfl (fun ls hl => ?_)
      refine lv_lload_n hx hb dC_run_28 rfl (lv_at hl 0 rfl) ?_
      refine lv_lneg hx hb dC_run_29 ?_
      refine lv_lload_n hx hb dC_run_30 rfl (lv_at hl 0 rfl) ?_
      refine lv_aload_n hx hb dC_run_31 rfl (lv_at hl 1 rfl) ?_
      refine zz_getC hx hb hT hown hK hP 0 rfl 4 (by decide) tw_125 rfl dC_run_32 ?_
      refine zz_call (va_runS (Ts := []) (As := [.long (x / 2048), .long slw]) (own := RC) ⟨hx, hb, hml, hown, fun _ h => nomatch h⟩ (ct_J_min_f86c l) (zt_cs hT tc_J_min_f86c ts_J_min_f86c tw_306 ⟨Nat.le_of_ble_eq_true rfl, Nat.le_of_ble_eq_true rfl⟩) (zz_pre0 hT) rfl rfl hl.1 rfl (lv_room (Nat.le_of_ble_eq_true rfl)) dC_run_35 ⟨Nat.zero_le _, Nat.zero_le _⟩) ?_
      refine zz_call (va_runS (Ts := []) (As := [.long (-(x / 2048)), .long (zn_min (x / 2048) slw)]) (own := RC) ⟨hx, hb, hml, hown, fun _ h => nomatch h⟩ (ct_J_max_f86c l) (zt_cs hT tc_J_max_f86c ts_J_max_f86c tw_307 ⟨Nat.le_of_ble_eq_true rfl, Nat.le_of_ble_eq_true rfl⟩) (zz_pre0 hT) rfl rfl hl.1 rfl (lv_room (Nat.le_of_ble_eq_true rfl)) dC_run_38 ⟨Nat.zero_le _, Nat.zero_le _⟩) ?_
      refine lv_lstore (lv' := [(5, .long (zn_max (-(x / 2048)) (zn_min (x / 2048) slw))), (3, .long (x / 2048)), (0, .ref c0), (1, .long x)]) hx hb dC_run_41 hl (by decide) rfl (fun ls hl => ?_)
      refine lv_aload_n hx hb dC_run_43 rfl (lv_at hl 2 rfl) ?_
      refine lv_dup hx hb dC_run_44 rfl ?_
      refine zz_getC hx hb hT hown hK hP 0 rfl 3 (by decide) tw_124 rfl dC_run_45 ?_
      refine lv_lload_n hx hb dC_run_48 rfl (lv_at hl 3 rfl) ?_
      refine lv_lload hx hb dC_run_49 (lv_at hl 0 rfl) ?_
      refine lv_ladd hx hb dC_run_51 ?_
      refine lv_ladd hx hb dC_run_52 ?_
      refine zz_putC (ty := .long) hx hb hT hown hK hP hD hS 0 rfl 3 (by decide) tw_124 rfl (by decide +kernel) rfl rfl (Nat.le_of_ble_eq_true rfl) dC_run_53 (fun H locs hP hD hS => ?_)
      have hP : va_P (dC, dI) vcl (zc_C c0 q v sv (loc + (x + (zn_max (-(x / 2048)) (zn_min (x / 2048) slw)))) slw wst) H := hP
      have hD : va_D A (zc_C c0 q v sv (loc + (x + (zn_max (-(x / 2048)) (zn_min (x / 2048) slw)))) slw wst) := hD
      refine lv_aload_n hx hb dC_run_56 rfl (lv_at hl 2 rfl) ?_
      refine lv_dup hx hb dC_run_57 rfl ?_
      refine zz_getC hx hb hT hown hK hP 0 rfl 4 (by decide) tw_125 rfl dC_run_58 ?_
      refine lv_lload hx hb dC_run_61 (lv_at hl 0 rfl) ?_
      refine lv_lsub hx hb dC_run_63 ?_
      refine zz_putC (ty := .long) hx hb hT hown hK hP hD hS 0 rfl 4 (by decide) tw_125 rfl (by decide +kernel) rfl rfl (Nat.le_of_ble_eq_true rfl) dC_run_64 (fun H locs hP hD hS => ?_)
      have hP : va_P (dC, dI) vcl (zc_C c0 q v sv (loc + (x + (zn_max (-(x / 2048)) (zn_min (x / 2048) slw)))) (slw - (zn_max (-(x / 2048)) (zn_min (x / 2048) slw))) wst) H := hP
      have hD : va_D A (zc_C c0 q v sv (loc + (x + (zn_max (-(x / 2048)) (zn_min (x / 2048) slw)))) (slw - (zn_max (-(x / 2048)) (zn_min (x / 2048) slw))) wst) := hD
      exact zq_vret hx hb hr hlocks dC_run_67 hAe hP hD hS
    · exact absurd h2 h1m
set_option maxHeartbeats 4000000 in
set_option maxRecDepth 100000 in
theorem ct_C_put (l : Launch) {dC : Nat → ClassId} {dI : Nat → Nat → Nat} {cJ cI cB cZ cS : ClassId} {sz : Nat} {c0 q v sv : Nat} {loc slw : Int64} {wst : Int32} {r u w : Nat} {row : Nat → Int32} {x : Int64} (h1w : 1 ≤ w) (hw8 : w ≤ 8) (huw : u + w ≤ 48) : Met l yC_put [Cond.code yC_put cC_put 5 none] { frames := 1, cells := 0, slots := 0, locals := 25 } (va_Pc [.ref c0, .int (nI u), .long x, .int (nI w)] (zq_B (dC, dI) vcl (zz_T cJ cI cB cZ cS) (zp_W q r cB row ++ zc_C c0 q v sv loc slw wst) sz)) (zq_Q (dC, dI) vcl none (zp_W q r cB row ++ zc_C c0 q v sv loc slw wst) (zp_W q r cB (zp_wr row u x w w) ++ zc_C c0 q v sv loc slw wst) sz) 0 0 (va_A (zp_W q r cB row ++ zc_C c0 q v sv loc slw wst) sz) := by
  refine Met.ofW (cc := cC_put) (maxL := 5) (ret := none) (by decide) rfl ?_
  intro p e s m args below meth c s₁ B hml hv
  obtain ⟨rfl, hsz, hT, hP, hK, hD0⟩ := hv
  subst hsz
  have hx := B.exec
  have hb := B.bytes
  have hr := B.returns
  have hlocks := B.notSynchronized
  have hown : s.vm.findClass RC = some m.cls := findClass_of_methodNamed B.named
  have hD := hD0.self (sz := s.heap.size)
  generalize hAe : va_A (zp_W q r cB row ++ zc_C c0 q v sv loc slw wst) s.heap.size = A at hD ⊢
  have hA : ∀ q : Nat, s.heap.size ≤ q → A q := fun q h => by rw [← hAe]; exact Or.inr h
  have hS : va_S A s.heap s.heap [] := va_S.rf
  have hl := lv_entry ([.ref c0, .int (nI u), .long x, .int (nI w)]) (n := 5) (Nat.le_of_ble_eq_true rfl)
  rw [lg_entry_eq]
  generalize (lg_sl ([.ref c0, .int (nI u), .long x, .int (nI w)]) ++ List.replicate (5 - (lg_sl ([.ref c0, .int (nI u), .long x, .int (nI w)])).length) Slot.unset).toArray = ls at hl ⊢
  have hl : lv_has ls 5 [(0, .ref c0), (1, .int (nI u)), (2, .long x), (4, .int (nI w))] := hl
  refine lv_iload hx hb dC_put_0 (lv_at hl 3 rfl) ?_
  refine lv_iconst (v := 1) hx hb dC_put_2 (by decide) ?_
  refine zz_ilt (tgt := 13) hx hb dC_put_3 (by decide) (fun h1 => ?_) (fun h1 => ?_)
  · have h1n := (zz_ltN (a := w) (b := 1) rfl rfl (by omega) (by omega)).mp h1
    omega
  · have h1n := mt (zz_ltN (a := w) (b := 1) rfl rfl (by omega) (by omega)).mpr h1
    refine lv_iload hx hb dC_put_6 (lv_at hl 3 rfl) ?_
    refine lv_bipush (v := 8) hx hb dC_put_8 (by decide) ?_
    refine zz_ile (tgt := 21) hx hb dC_put_10 (by decide) (fun h2 => ?_) (fun h2 => ?_)
    · have h2n := mt (zz_ltN (a := 8) (b := w) rfl rfl (by omega) (by omega)).mpr h2
      refine lv_iload_n hx hb dC_put_21 rfl (lv_at hl 1 rfl) ?_
      refine zz_zlt (tgt := 34) hx hb dC_put_22 (by decide) (fun h => absurd ((zz_ltN (a := u) (b := 0) rfl rfl (by omega) (by omega)).mp h) (Nat.not_lt_zero _)) (fun _ => ?_)
      refine lv_iload_n hx hb dC_put_25 rfl (lv_at hl 1 rfl) ?_
      refine lv_bipush (v := 48) hx hb dC_put_26 (by decide) ?_
      refine lv_iload hx hb dC_put_28 (lv_at hl 3 rfl) ?_
      refine lv_isub hx hb dC_put_30 ?_
      refine zz_ti (y := nI (48 - w)) (pk_sub (a := 48) (by omega)) ?_
      refine zz_ile (tgt := 42) hx hb dC_put_31 (by decide) (fun h3 => ?_) (fun h3 => ?_)
      · have h3n := mt (zz_ltN (a := (48 - w)) (b := u) rfl rfl (by omega) (by omega)).mpr h3
        refine lv_aload_n hx hb dC_put_42 rfl (lv_at hl 0 rfl) ?_
        refine zz_getC hx hb hT hown hK hP 2 rfl 0 (by decide) tw_121 rfl dC_put_43 ?_
        refine lv_iload_n hx hb dC_put_46 rfl (lv_at hl 1 rfl) ?_
        refine lv_lload_n hx hb dC_put_47 rfl (lv_at hl 2 rfl) ?_
        refine lv_iload hx hb dC_put_48 (lv_at hl 3 rfl) ?_
        refine zq_call (va_runV (Ts := []) (As := [.int (nI u), .long x, .int (nI w)]) (own := RC) ⟨hx, hb, hml, hown, fun _ h => nomatch h⟩ (ct_P_write l (u := u) (n := w) (by first | decide | omega)) (zt_cv hT tc_P_write tv_P_write tw_331 ⟨Nat.le_of_ble_eq_true rfl, Nat.le_of_ble_eq_true rfl⟩) (zq_preV (q0 := 0) hT (zq_Pl hP) hK (zq_Dl hD) rfl rfl) rfl rfl hl.1 rfl (lv_room (Nat.le_of_ble_eq_true rfl)) dC_put_50 ⟨Nat.zero_le _, Nat.zero_le _⟩) hP hD hS hA (fun H locs hP hD hS => ?_)
        have hP : va_P (dC, dI) vcl (zp_W q r cB (zp_wr row u x w w) ++ zc_C c0 q v sv loc slw wst) H := hP
        have hD : va_D A (zp_W q r cB (zp_wr row u x w w) ++ zc_C c0 q v sv loc slw wst) := hD
        refine W.eq (g2 := F0 m 53 ls []) rfl ?_
        exact zq_vret hx hb hr hlocks dC_put_53 hAe hP hD hS
      · have h3n := (zz_ltN (a := (48 - w)) (b := u) rfl rfl (by omega) (by omega)).mp h3
        omega
    · have h2n := (zz_ltN (a := 8) (b := w) rfl rfl (by omega) (by omega)).mp h2
      omega
set_option maxHeartbeats 4000000 in
set_option maxRecDepth 100000 in
theorem ct_C_send (l : Launch) {dC : Nat → ClassId} {dI : Nat → Nat → Nat} {cJ cI cB cZ cS : ClassId} {sz : Nat} {o a b d : Nat} {den rch pol exg str : Int32} {xp rdl rds : Int64} {off del arr : Nat → Int64} {n : Nat} {c0 q r v sv : Nat} {g : Nat → Option Nat} {loc slw : Int64} {wst : Int32} {row : Nat → Int32} {k : Nat} (hk : k < 5) (hg : g k = some o) (hd : den = 0) : Met l yC_send [Cond.code yC_send cC_send 3 (some .long)] { frames := 1, cells := 0, slots := 0, locals := 22 } (va_Pc [.ref c0, .int (nI k)] (zq_B (dC, dI) vcl (zz_T cJ cI cB cZ cS) (zs_W o a b d cJ den rch pol exg xp (nI n) str rdl rds off del arr ++ (zc_C c0 q v sv loc slw wst ++ (zp_W q r cB row ++ zc_S sv cS g))) sz)) (zq_Q (dC, dI) vcl (some (.long loc)) (zs_W o a b d cJ den rch pol exg xp (nI n) str rdl rds off del arr ++ (zc_C c0 q v sv loc slw wst ++ (zp_W q r cB row ++ zc_S sv cS g))) (zs_W o a b d cJ den (zs_r2 rch) pol 1 loc (nI n) str rdl rds off del arr ++ (zc_C c0 q v sv loc slw wst ++ (zp_W q r cB row ++ zc_S sv cS g))) sz) 0 0 (va_A (zs_W o a b d cJ den rch pol exg xp (nI n) str rdl rds off del arr ++ (zc_C c0 q v sv loc slw wst ++ (zp_W q r cB row ++ zc_S sv cS g))) sz) := by
  refine Met.ofW (cc := cC_send) (maxL := 3) (ret := (some .long)) (by decide) rfl ?_
  intro p e s m args below meth c s₁ B hml hv
  obtain ⟨rfl, hsz, hT, hP, hK, hD0⟩ := hv
  subst hsz
  have hx := B.exec
  have hb := B.bytes
  have hr := B.returns
  have hlocks := B.notSynchronized
  have hown : s.vm.findClass RC = some m.cls := findClass_of_methodNamed B.named
  have hD := hD0.self (sz := s.heap.size)
  generalize hAe : va_A (zs_W o a b d cJ den rch pol exg xp (nI n) str rdl rds off del arr ++ (zc_C c0 q v sv loc slw wst ++ (zp_W q r cB row ++ zc_S sv cS g))) s.heap.size = A at hD ⊢
  have hA : ∀ q : Nat, s.heap.size ≤ q → A q := fun q h => by rw [← hAe]; exact Or.inr h
  have hS : va_S A s.heap s.heap [] := va_S.rf
  have hl := lv_entry ([.ref c0, .int (nI k)]) (n := 3) (Nat.le_of_ble_eq_true rfl)
  rw [lg_entry_eq]
  generalize (lg_sl ([.ref c0, .int (nI k)]) ++ List.replicate (3 - (lg_sl ([.ref c0, .int (nI k)])).length) Slot.unset).toArray = ls at hl ⊢
  have hl : lv_has ls 3 [(0, .ref c0), (1, .int (nI k))] := hl
  refine lv_aload_n hx hb dC_send_0 rfl (lv_at hl 0 rfl) ?_
  refine lv_iload_n hx hb dC_send_1 rfl (lv_at hl 1 rfl) ?_
  refine zz_call (va_runV (Ts := []) (As := [.int (nI k)]) (own := RC) ⟨hx, hb, hml, hown, fun _ h => nomatch h⟩ (ct_C_serverAt l hk hg) (zt_cv hT tc_C_serverAt tv_C_serverAt tw_343 ⟨Nat.le_of_ble_eq_true rfl, Nat.le_of_ble_eq_true rfl⟩) (zz_preV (q0 := 4) hT hP hK rfl rfl) rfl rfl hl.1 rfl (lv_room (Nat.le_of_ble_eq_true rfl)) dC_send_2 ⟨Nat.zero_le _, Nat.zero_le _⟩) ?_
  refine lv_astore_n (lv' := [(2, .ref o), (0, .ref c0), (1, .int (nI k))]) hx hb dC_send_5 rfl hl (by decide) rfl (fun ls hl => ?_)
  refine lv_aload_n hx hb dC_send_6 rfl (lv_at hl 0 rfl) ?_
  refine zz_getS hx hb hT hown hK hP 0 rfl 0 (by decide) tw_43 rfl dC_send_7 ?_
  refine zz_zeq (tgt := 21) hx hb dC_send_10 (by decide) (fun h1 => ?_) (fun h1 => ?_)
  · refine lv_aload_n hx hb dC_send_21 rfl (lv_at hl 0 rfl) ?_
    refine lv_aload_n hx hb dC_send_22 rfl (lv_at hl 1 rfl) ?_
    refine zz_getC hx hb hT hown hK hP 4 rfl 3 (by decide) tw_124 rfl dC_send_23 ?_
    refine zq_call (va_runV (Ts := []) (As := [.long loc]) (own := RC) ⟨hx, hb, hml, hown, fun _ h => nomatch h⟩ (ct_S_expect l) (zt_cv hT tc_S_expect tv_S_expect tw_370 ⟨Nat.le_of_ble_eq_true rfl, Nat.le_of_ble_eq_true rfl⟩) (zq_preV (q0 := 0) hT (zq_Pl hP) hK (zq_Dl hD) rfl rfl) rfl rfl hl.1 rfl (lv_room (Nat.le_of_ble_eq_true rfl)) dC_send_26 ⟨Nat.zero_le _, Nat.zero_le _⟩) hP hD hS hA (fun H locs hP hD hS => ?_)
    have hP : va_P (dC, dI) vcl (zs_W o a b d cJ den (zs_r2 rch) pol 1 loc (nI n) str rdl rds off del arr ++ (zc_C c0 q v sv loc slw wst ++ (zp_W q r cB row ++ zc_S sv cS g))) H := hP
    have hD : va_D A (zs_W o a b d cJ den (zs_r2 rch) pol 1 loc (nI n) str rdl rds off del arr ++ (zc_C c0 q v sv loc slw wst ++ (zp_W q r cB row ++ zc_S sv cS g))) := hD
    refine W.eq (g2 := F0 m 29 ls []) rfl ?_
    refine lv_aload_n hx hb dC_send_29 rfl (lv_at hl 1 rfl) ?_
    refine zz_getC hx hb hT hown hK hP 4 rfl 3 (by decide) tw_124 rfl dC_send_30 ?_
    exact zq_lret hx hb hr hlocks dC_send_33 (rfl) hAe hP hD hS
  · exact absurd hd h1
set_option maxHeartbeats 4000000 in
set_option maxRecDepth 100000 in
theorem ct_C_echo (l : Launch) {dC : Nat → ClassId} {dI : Nat → Nat → Nat} {cJ cI cB cZ cS : ClassId} {sz : Nat} {o a b d : Nat} {den rch pol exg str : Int32} {xp rdl rds : Int64} {off del arr : Nat → Int64} {n : Nat} {c0 q r v sv : Nat} {g : Nat → Option Nat} {loc slw : Int64} {wst : Int32} {row : Nat → Int32} {k : Nat} (hk : k < 5) (hg : g k = some o) {y z : Int64} (ha : ¬ exg = 0) : Met l yC_echo [Cond.code yC_echo cC_echo 7 none] { frames := 1, cells := 0, slots := 0, locals := 25 } (va_Pc [.ref c0, .int (nI k), .long y, .long z] (zq_B (dC, dI) vcl (zz_T cJ cI cB cZ cS) (zs_W o a b d cJ den rch pol exg xp (nI n) str rdl rds off del arr ++ (zc_C c0 q v sv loc slw wst ++ (zp_W q r cB row ++ zc_S sv cS g))) sz)) (zq_Q (dC, dI) vcl none (zs_W o a b d cJ den rch pol exg xp (nI n) str rdl rds off del arr ++ (zc_C c0 q v sv loc slw wst ++ (zp_W q r cB row ++ zc_S sv cS g))) (zs_W o a b d cJ den rch pol exg xp (nI n) str rdl rds off del arr ++ (zc_C c0 q v sv loc slw wst ++ (zp_W q r cB (zc_ech row xp (xp + y) (loc + z)) ++ zc_S sv cS g))) sz) 0 0 (va_A (zs_W o a b d cJ den rch pol exg xp (nI n) str rdl rds off del arr ++ (zc_C c0 q v sv loc slw wst ++ (zp_W q r cB row ++ zc_S sv cS g))) sz) := by
  refine Met.ofW (cc := cC_echo) (maxL := 7) (ret := none) (by decide) rfl ?_
  intro p e s m args below meth c s₁ B hml hv
  obtain ⟨rfl, hsz, hT, hP, hK, hD0⟩ := hv
  subst hsz
  have hx := B.exec
  have hb := B.bytes
  have hr := B.returns
  have hlocks := B.notSynchronized
  have hown : s.vm.findClass RC = some m.cls := findClass_of_methodNamed B.named
  have hD := hD0.self (sz := s.heap.size)
  generalize hAe : va_A (zs_W o a b d cJ den rch pol exg xp (nI n) str rdl rds off del arr ++ (zc_C c0 q v sv loc slw wst ++ (zp_W q r cB row ++ zc_S sv cS g))) s.heap.size = A at hD ⊢
  have hA : ∀ q : Nat, s.heap.size ≤ q → A q := fun q h => by rw [← hAe]; exact Or.inr h
  have hS : va_S A s.heap s.heap [] := va_S.rf
  have hl := lv_entry ([.ref c0, .int (nI k), .long y, .long z]) (n := 7) (Nat.le_of_ble_eq_true rfl)
  rw [lg_entry_eq]
  generalize (lg_sl ([.ref c0, .int (nI k), .long y, .long z]) ++ List.replicate (7 - (lg_sl ([.ref c0, .int (nI k), .long y, .long z])).length) Slot.unset).toArray = ls at hl ⊢
  have hl : lv_has ls 7 [(0, .ref c0), (1, .int (nI k)), (2, .long y), (4, .long z)] := hl
  refine lv_aload_n hx hb dC_echo_0 rfl (lv_at hl 0 rfl) ?_
  refine lv_iload_n hx hb dC_echo_1 rfl (lv_at hl 1 rfl) ?_
  refine zz_call (va_runV (Ts := []) (As := [.int (nI k)]) (own := RC) ⟨hx, hb, hml, hown, fun _ h => nomatch h⟩ (ct_C_serverAt l hk hg) (zt_cv hT tc_C_serverAt tv_C_serverAt tw_343 ⟨Nat.le_of_ble_eq_true rfl, Nat.le_of_ble_eq_true rfl⟩) (zz_preV (q0 := 4) hT hP hK rfl rfl) rfl rfl hl.1 rfl (lv_room (Nat.le_of_ble_eq_true rfl)) dC_echo_2 ⟨Nat.zero_le _, Nat.zero_le _⟩) ?_
  refine lv_astore (lv' := [(6, .ref o), (0, .ref c0), (1, .int (nI k)), (2, .long y), (4, .long z)]) hx hb dC_echo_5 hl (by decide) rfl (fun ls hl => ?_)
  refine lv_aload hx hb dC_echo_7 (lv_at hl 0 rfl) ?_
  refine zz_getS hx hb hT hown hK hP 0 rfl 3 (by decide) tw_51 rfl dC_echo_9 ?_
  refine zz_zne (tgt := 23) hx hb dC_echo_12 (by decide) (fun h1 => ?_) (fun h1 => ?_)
  · refine lv_aload_n hx hb dC_echo_23 rfl (lv_at hl 1 rfl) ?_
    refine zz_getC hx hb hT hown hK hP 4 rfl 0 (by decide) tw_121 rfl dC_echo_24 ?_
    refine lv_iconst (v := 0) hx hb dC_echo_27 (by decide) ?_
    refine lv_ldc2 (own := RC) (v := 36) hx hb hown (hT.w tw_362) dC_echo_28 ?_
    refine lv_iconst (v := 1) hx hb dC_echo_31 (by decide) ?_
    refine zq_callP zc_pp (List.Perm.symm zc_pp) (va_runV (Ts := []) (As := [.int 0, .long 36, .int 1]) (own := RC) ⟨hx, hb, hml, hown, fun _ h => nomatch h⟩ (ct_P_write l (u := 0) (n := 1) (by first | decide | omega)) (zt_cv hT tc_P_write tv_P_write tw_331 ⟨Nat.le_of_ble_eq_true rfl, Nat.le_of_ble_eq_true rfl⟩) (zq_preV (q0 := 0) hT (zq_Pl (zq_Pp zc_pp hP)) hK (zq_Dl (zq_Dp zc_pp hD)) rfl rfl) rfl rfl hl.1 rfl (lv_room (Nat.le_of_ble_eq_true rfl)) dC_echo_32 ⟨Nat.zero_le _, Nat.zero_le _⟩) hP hD hS hA (fun H locs hP hD hS => ?_)
    have hP : va_P (dC, dI) vcl (zs_W o a b d cJ den rch pol exg xp (nI n) str rdl rds off del arr ++ (zc_C c0 q v sv loc slw wst ++ (zp_W q r cB (zp_wr row 0 36 1 1) ++ zc_S sv cS g))) H := hP
    have hD : va_D A (zs_W o a b d cJ den rch pol exg xp (nI n) str rdl rds off del arr ++ (zc_C c0 q v sv loc slw wst ++ (zp_W q r cB (zp_wr row 0 36 1 1) ++ zc_S sv cS g))) := hD
    refine W.eq (g2 := F0 m 35 ls []) rfl ?_
    refine lv_aload_n hx hb dC_echo_35 rfl (lv_at hl 1 rfl) ?_
    refine zz_getC hx hb hT hown hK hP 4 rfl 0 (by decide) tw_121 rfl dC_echo_36 ?_
    refine lv_bipush (v := 24) hx hb dC_echo_39 (by decide) ?_
    refine lv_aload hx hb dC_echo_41 (lv_at hl 0 rfl) ?_
    refine zz_getS hx hb hT hown hK hP 0 rfl 4 (by decide) tw_53 rfl dC_echo_43 ?_
    refine lv_bipush (v := 8) hx hb dC_echo_46 (by decide) ?_
    refine zq_callP zc_pp (List.Perm.symm zc_pp) (va_runV (Ts := []) (As := [.int 24, .long xp, .int 8]) (own := RC) ⟨hx, hb, hml, hown, fun _ h => nomatch h⟩ (ct_P_write l (u := 24) (n := 8) (by first | decide | omega)) (zt_cv hT tc_P_write tv_P_write tw_331 ⟨Nat.le_of_ble_eq_true rfl, Nat.le_of_ble_eq_true rfl⟩) (zq_preV (q0 := 0) hT (zq_Pl (zq_Pp zc_pp hP)) hK (zq_Dl (zq_Dp zc_pp hD)) rfl rfl) rfl rfl hl.1 rfl (lv_room (Nat.le_of_ble_eq_true rfl)) dC_echo_48 ⟨Nat.zero_le _, Nat.zero_le _⟩) hP hD hS hA (fun H locs hP hD hS => ?_)
    have hP : va_P (dC, dI) vcl (zs_W o a b d cJ den rch pol exg xp (nI n) str rdl rds off del arr ++ (zc_C c0 q v sv loc slw wst ++ (zp_W q r cB (zp_wr (zp_wr row 0 36 1 1) 24 xp 8 8) ++ zc_S sv cS g))) H := hP
    have hD : va_D A (zs_W o a b d cJ den rch pol exg xp (nI n) str rdl rds off del arr ++ (zc_C c0 q v sv loc slw wst ++ (zp_W q r cB (zp_wr (zp_wr row 0 36 1 1) 24 xp 8 8) ++ zc_S sv cS g))) := hD
    refine W.eq (g2 := F0 m 51 ls []) rfl ?_
    refine lv_aload_n hx hb dC_echo_51 rfl (lv_at hl 1 rfl) ?_
    refine zz_getC hx hb hT hown hK hP 4 rfl 0 (by decide) tw_121 rfl dC_echo_52 ?_
    refine lv_bipush (v := 32) hx hb dC_echo_55 (by decide) ?_
    refine lv_aload hx hb dC_echo_57 (lv_at hl 0 rfl) ?_
    refine zz_getS hx hb hT hown hK hP 0 rfl 4 (by decide) tw_53 rfl dC_echo_59 ?_
    refine lv_lload_n hx hb dC_echo_62 rfl (lv_at hl 3 rfl) ?_
    refine lv_ladd hx hb dC_echo_63 ?_
    refine lv_bipush (v := 8) hx hb dC_echo_64 (by decide) ?_
    refine zq_callP zc_pp (List.Perm.symm zc_pp) (va_runV (Ts := []) (As := [.int 32, .long (xp + y), .int 8]) (own := RC) ⟨hx, hb, hml, hown, fun _ h => nomatch h⟩ (ct_P_write l (u := 32) (n := 8) (by first | decide | omega)) (zt_cv hT tc_P_write tv_P_write tw_331 ⟨Nat.le_of_ble_eq_true rfl, Nat.le_of_ble_eq_true rfl⟩) (zq_preV (q0 := 0) hT (zq_Pl (zq_Pp zc_pp hP)) hK (zq_Dl (zq_Dp zc_pp hD)) rfl rfl) rfl rfl hl.1 rfl (lv_room (Nat.le_of_ble_eq_true rfl)) dC_echo_66 ⟨Nat.zero_le _, Nat.zero_le _⟩) hP hD hS hA (fun H locs hP hD hS => ?_)
    have hP : va_P (dC, dI) vcl (zs_W o a b d cJ den rch pol exg xp (nI n) str rdl rds off del arr ++ (zc_C c0 q v sv loc slw wst ++ (zp_W q r cB (zp_wr (zp_wr (zp_wr row 0 36 1 1) 24 xp 8 8) 32 (xp + y) 8 8) ++ zc_S sv cS g))) H := hP
    have hD : va_D A (zs_W o a b d cJ den rch pol exg xp (nI n) str rdl rds off del arr ++ (zc_C c0 q v sv loc slw wst ++ (zp_W q r cB (zp_wr (zp_wr (zp_wr row 0 36 1 1) 24 xp 8 8) 32 (xp + y) 8 8) ++ zc_S sv cS g))) := hD
    refine W.eq (g2 := F0 m 69 ls []) rfl ?_
    refine lv_aload_n hx hb dC_echo_69 rfl (lv_at hl 1 rfl) ?_
    refine zz_getC hx hb hT hown hK hP 4 rfl 0 (by decide) tw_121 rfl dC_echo_70 ?_
    refine lv_bipush (v := 40) hx hb dC_echo_73 (by decide) ?_
    refine lv_aload_n hx hb dC_echo_75 rfl (lv_at hl 1 rfl) ?_
    refine zz_getC hx hb hT hown hK hP 4 rfl 3 (by decide) tw_124 rfl dC_echo_76 ?_
    refine lv_lload hx hb dC_echo_79 (lv_at hl 4 rfl) ?_
    refine lv_ladd hx hb dC_echo_81 ?_
    refine lv_bipush (v := 8) hx hb dC_echo_82 (by decide) ?_
    refine zq_callP zc_pp (List.Perm.symm zc_pp) (va_runV (Ts := []) (As := [.int 40, .long (loc + z), .int 8]) (own := RC) ⟨hx, hb, hml, hown, fun _ h => nomatch h⟩ (ct_P_write l (u := 40) (n := 8) (by first | decide | omega)) (zt_cv hT tc_P_write tv_P_write tw_331 ⟨Nat.le_of_ble_eq_true rfl, Nat.le_of_ble_eq_true rfl⟩) (zq_preV (q0 := 0) hT (zq_Pl (zq_Pp zc_pp hP)) hK (zq_Dl (zq_Dp zc_pp hD)) rfl rfl) rfl rfl hl.1 rfl (lv_room (Nat.le_of_ble_eq_true rfl)) dC_echo_84 ⟨Nat.zero_le _, Nat.zero_le _⟩) hP hD hS hA (fun H locs hP hD hS => ?_)
    have hP : va_P (dC, dI) vcl (zs_W o a b d cJ den rch pol exg xp (nI n) str rdl rds off del arr ++ (zc_C c0 q v sv loc slw wst ++ (zp_W q r cB (zp_wr (zp_wr (zp_wr (zp_wr row 0 36 1 1) 24 xp 8 8) 32 (xp + y) 8 8) 40 (loc + z) 8 8) ++ zc_S sv cS g))) H := hP
    have hD : va_D A (zs_W o a b d cJ den rch pol exg xp (nI n) str rdl rds off del arr ++ (zc_C c0 q v sv loc slw wst ++ (zp_W q r cB (zp_wr (zp_wr (zp_wr (zp_wr row 0 36 1 1) 24 xp 8 8) 32 (xp + y) 8 8) 40 (loc + z) 8 8) ++ zc_S sv cS g))) := hD
    refine W.eq (g2 := F0 m 87 ls []) rfl ?_
    exact zq_vret hx hb hr hlocks dC_echo_87 hAe (by rw [show zc_ech row xp (xp + y) (loc + z) = zp_wr (zp_wr (zp_wr (zp_wr row 0 36 1 1) 24 xp 8 8) 32 (xp + y) 8 8) 40 (loc + z) 8 8 from rfl]; exact hP) (by rw [show zc_ech row xp (xp + y) (loc + z) = zp_wr (zp_wr (zp_wr (zp_wr row 0 36 1 1) 24 xp 8 8) 32 (xp + y) 8 8) 40 (loc + z) 8 8 from rfl]; exact hD) hS
  · exact absurd h1 ha
