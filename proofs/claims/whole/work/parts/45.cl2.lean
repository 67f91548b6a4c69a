/-! The client: receive where it returns -/
set_option maxHeartbeats 4000000 in
set_option maxRecDepth 100000 in
theorem ct_C_takeTimes_wld (l : Launch) {dC : Nat → ClassId} {dI : Nat → Nat → Nat} {cJ cI cB cZ cS : ClassId} {sz : Nat} {o a b d : Nat} {den rch pol exg str : Int32} {xp rdl rds : Int64} {off del arr : Nat → Int64} {n : Nat} {c0 q r v sv : Nat} {g : Nat → Option Nat} {loc slw : Int64} {wst : Int32} {row : Nat → Int32} {k : Nat} (hk : k < 5) (hg : g k = some o) (hwi : zc_half ((zp_rd row 32 8) - xp) ((zp_rd row 40 8) - loc) < (-1152921504606846976) ∨ 1152921504606846976 < zc_half ((zp_rd row 32 8) - xp) ((zp_rd row 40 8) - loc) ∨ 1152921504606846976 < zn_max 4096 ((loc - xp) - ((zp_rd row 40 8) - (zp_rd row 32 8)))) : Met l yC_takeTimes [Cond.code yC_takeTimes cC_takeTimes 14 (some .int)] { frames := 2, cells := 0, slots := 0, locals := 48 } (va_Pc [.ref c0, .ref o] (zq_B (dC, dI) vcl (zz_T cJ cI cB cZ cS) (zs_W o a b d cJ den rch pol exg xp (nI n) str rdl rds off del arr ++ (zc_C c0 q v sv loc slw wst ++ (zp_W q r cB row ++ zc_S sv cS g))) sz)) (zq_Q (dC, dI) vcl (some (.int 3)) (zs_W o a b d cJ den rch pol exg xp (nI n) str rdl rds off del arr ++ (zc_C c0 q v sv loc slw wst ++ (zp_W q r cB row ++ zc_S sv cS g))) (zs_W o a b d cJ den rch pol exg xp (nI n) str rdl rds off del arr ++ (zc_C c0 q v sv loc slw wst ++ (zp_W q r cB row ++ zc_S sv cS g))) sz) 0 0 (va_A (zs_W o a b d cJ den rch pol exg xp (nI n) str rdl rds off del arr ++ (zc_C c0 q v sv loc slw wst ++ (zp_W q r cB row ++ zc_S sv cS g))) sz) := by
  refine Met.ofW (cc := cC_takeTimes) (maxL := 14) (ret := (some .int)) (by decide) rfl ?_
  intro p e s m args below meth c s₁ B hml hv
  obtain ⟨rfl, hsz, hT, hP, hK, hD0⟩ := hv
  subst hsz
  have hx := B.exec
  have hb := B.bytes
  have hr := B.returns
  have hlocks := B.notSynchronized
  have hown : s.vm.findClass RC = some m.cls := findClass_of_methodNamed B.named
  have hD := hD0.self (sz := s.heap.size)
  generalize hAe : va_A (zs_W o a b d cJ den rch pol exg xp (nI n) str rdl rds off del arr ++ (zc_C c0 q v sv loc slw wst ++ (zp_W q r cB row ++ zc_S sv cS g))) s.heap.size = A at hD ⊢
  have hA : ∀ q : Nat, s.heap.size ≤ q → A q := fun q h => by rw [← hAe]; exact Or.inr h
  have hS : va_S A s.heap s.heap [] := va_S.rf
  have hl := lv_entry ([.ref c0, .ref o]) (n := 14) (Nat.le_of_ble_eq_true rfl)
  rw [lg_entry_eq]
  generalize (lg_sl ([.ref c0, .ref o]) ++ List.replicate (14 - (lg_sl ([.ref c0, .ref o])).length) Slot.unset).toArray = ls at hl ⊢
  have hl : lv_has ls 14 [(0, .ref c0), (1, .ref o)] := hl
  refine lv_aload_n hx hb dC_takeTimes_0 rfl (lv_at hl 1 rfl) ?_
  refine zz_getS hx hb hT hown hK hP 0 rfl 4 (by decide) tw_53 rfl dC_takeTimes_1 ?_
  refine lv_lstore_n (lv' := [(2, .long xp), (0, .ref c0), (1, .ref o)]) hx hb dC_takeTimes_4 rfl hl (by decide) rfl (fun ls hl => ?_)
  refine lv_aload_n hx hb dC_takeTimes_5 rfl (lv_at hl 1 rfl) ?_
  refine zz_getC hx hb hT hown hK hP 4 rfl 0 (by decide) tw_121 rfl dC_takeTimes_6 ?_
  refine lv_bipush (v := 32) hx hb dC_takeTimes_9 (by decide) ?_
  refine lv_bipush (v := 8) hx hb dC_takeTimes_11 (by decide) ?_
  refine zz_call (va_runV (Ts := []) (As := [.int 32, .int 8]) (own := RC) ⟨hx, hb, hml, hown, fun _ h => nomatch h⟩ (ct_P_read l (u := 32) (n := 8) (by first | decide | omega)) (zt_cv hT tc_P_read tv_P_read tw_389 ⟨Nat.le_of_ble_eq_true rfl, Nat.le_of_ble_eq_true rfl⟩) (zz_preV (q0 := 0) hT (zq_Pl (zq_Pr (zq_Pr hP))) hK rfl rfl) rfl rfl hl.1 rfl (lv_room (Nat.le_of_ble_eq_true rfl)) dC_takeTimes_13 ⟨Nat.zero_le _, Nat.zero_le _⟩) ?_
  refine lv_lstore (lv' := [(4, .long (zp_rd row 32 8)), (2, .long xp), (0, .ref c0), (1, .ref o)]) hx hb dC_takeTimes_16 hl (by decide) rfl (fun ls hl => ?_)
  refine lv_aload_n hx hb dC_takeTimes_18 rfl (lv_at hl 2 rfl) ?_
  refine zz_getC hx hb hT hown hK hP 4 rfl 0 (by decide) tw_121 rfl dC_takeTimes_19 ?_
  refine lv_bipush (v := 40) hx hb dC_takeTimes_22 (by decide) ?_
  refine lv_bipush (v := 8) hx hb dC_takeTimes_24 (by decide) ?_
  refine zz_call (va_runV (Ts := []) (As := [.int 40, .int 8]) (own := RC) ⟨hx, hb, hml, hown, fun _ h => nomatch h⟩ (ct_P_read l (u := 40) (n := 8) (by first | decide | omega)) (zt_cv hT tc_P_read tv_P_read tw_389 ⟨Nat.le_of_ble_eq_true rfl, Nat.le_of_ble_eq_true rfl⟩) (zz_preV (q0 := 0) hT (zq_Pl (zq_Pr (zq_Pr hP))) hK rfl rfl) rfl rfl hl.1 rfl (lv_room (Nat.le_of_ble_eq_true rfl)) dC_takeTimes_26 ⟨Nat.zero_le _, Nat.zero_le _⟩) ?_
  refine lv_lstore (lv' := [(6, .long (zp_rd row 40 8)), (4, .long (zp_rd row 32 8)), (2, .long xp), (0, .ref c0), (1, .ref o)]) hx hb dC_takeTimes_29 hl (by decide) rfl (fun ls hl => ?_)
  refine lv_aload_n hx hb dC_takeTimes_31 rfl (lv_at hl 3 rfl) ?_
  refine zz_getC hx hb hT hown hK hP 4 rfl 3 (by decide) tw_124 rfl dC_takeTimes_32 ?_
  refine lv_lstore (lv' := [(8, .long loc), (6, .long (zp_rd row 40 8)), (4, .long (zp_rd row 32 8)), (2, .long xp), (0, .ref c0), (1, .ref o)]) hx hb dC_takeTimes_35 hl (by decide) rfl (fun ls hl => ?_)
  refine lv_lload hx hb dC_takeTimes_37 (lv_at hl 2 rfl) ?_
  refine lv_lload_n hx hb dC_takeTimes_39 rfl (lv_at hl 3 rfl) ?_
  refine lv_lsub hx hb dC_takeTimes_40 ?_
  refine lv_lload hx hb dC_takeTimes_41 (lv_at hl 1 rfl) ?_
  refine lv_lload hx hb dC_takeTimes_43 (lv_at hl 0 rfl) ?_
  refine lv_lsub hx hb dC_takeTimes_45 ?_
  refine zz_call (va_runS (Ts := []) (As := [.long ((zp_rd row 32 8) - xp), .long ((zp_rd row 40 8) - loc)]) (own := RC) ⟨hx, hb, hml, hown, fun _ h => nomatch h⟩ (ct_C_halfOfSum l) (zt_cs hT tc_C_halfOfSum ts_C_halfOfSum tw_417 ⟨Nat.le_of_ble_eq_true rfl, Nat.le_of_ble_eq_true rfl⟩) (zz_pre0 hT) rfl rfl hl.1 rfl (lv_room (Nat.le_of_ble_eq_true rfl)) dC_takeTimes_46 ⟨Nat.zero_le _, Nat.zero_le _⟩) ?_
  refine lv_lstore (lv' := [(10, .long (zc_half ((zp_rd row 32 8) - xp) ((zp_rd row 40 8) - loc))), (8, .long loc), (6, .long (zp_rd row 40 8)), (4, .long (zp_rd row 32 8)), (2, .long xp), (0, .ref c0), (1, .ref o)]) hx hb dC_takeTimes_49 hl (by decide) rfl (fun ls hl => ?_)
  refine lv_ldc2 (own := RC) (v := 4096) hx hb hown (hT.w tw_420) dC_takeTimes_51 ?_
  refine lv_lload hx hb dC_takeTimes_54 (lv_at hl 1 rfl) ?_
  refine lv_lload_n hx hb dC_takeTimes_56 rfl (lv_at hl 4 rfl) ?_
  refine lv_lsub hx hb dC_takeTimes_57 ?_
  refine lv_lload hx hb dC_takeTimes_58 (lv_at hl 2 rfl) ?_
  refine lv_lload hx hb dC_takeTimes_60 (lv_at hl 3 rfl) ?_
  refine lv_lsub hx hb dC_takeTimes_62 ?_
  refine lv_lsub hx hb dC_takeTimes_63 ?_
  refine zz_call (va_runS (Ts := []) (As := [.long 4096, .long ((loc - xp) - ((zp_rd row 40 8) - (zp_rd row 32 8)))]) (own := RC) ⟨hx, hb, hml, hown, fun _ h => nomatch h⟩ (ct_J_max_f86c l) (zt_cs hT tc_J_max_f86c ts_J_max_f86c tw_307 ⟨Nat.le_of_ble_eq_true rfl, Nat.le_of_ble_eq_true rfl⟩) (zz_pre0 hT) rfl rfl hl.1 rfl (lv_room (Nat.le_of_ble_eq_true rfl)) dC_takeTimes_64 ⟨Nat.zero_le _, Nat.zero_le _⟩) ?_
  refine lv_lstore (lv' := [(12, .long (zn_max 4096 ((loc - xp) - ((zp_rd row 40 8) - (zp_rd row 32 8))))), (10, .long (zc_half ((zp_rd row 32 8) - xp) ((zp_rd row 40 8) - loc))), (8, .long loc), (6, .long (zp_rd row 40 8)), (4, .long (zp_rd row 32 8)), (2, .long xp), (0, .ref c0), (1, .ref o)]) hx hb dC_takeTimes_67 hl (by decide) rfl (fun ls hl => ?_)
  refine lv_lload hx hb dC_takeTimes_69 (lv_at hl 1 rfl) ?_
  refine lv_ldc2 (own := RC) (v := (-1152921504606846976)) hx hb hown (hT.w tw_421) dC_takeTimes_71 ?_
  refine zz_llt (tgt := 96) hx hb dC_takeTimes_74 dC_takeTimes_75 (by decide) (fun h1 => ?_) (fun h1 => ?_)
  · refine lv_iconst (v := 3) hx hb dC_takeTimes_96 (by decide) ?_
    exact zq_iret hx hb hr hlocks dC_takeTimes_97 (rfl) hAe hP hD hS
  · refine lv_lload hx hb dC_takeTimes_78 (lv_at hl 1 rfl) ?_
    refine lv_ldc2 (own := RC) (v := 1152921504606846976) hx hb hown (hT.w tw_422) dC_takeTimes_80 ?_
    refine zz_lgt (tgt := 96) hx hb dC_takeTimes_83 dC_takeTimes_84 (by decide) (fun h2 => ?_) (fun h2 => ?_)
    · refine lv_iconst (v := 3) hx hb dC_takeTimes_96 (by decide) ?_
      exact zq_iret hx hb hr hlocks dC_takeTimes_97 (rfl) hAe hP hD hS
    · refine lv_lload hx hb dC_takeTimes_87 (lv_at hl 0 rfl) ?_
      refine lv_ldc2 (own := RC) (v := 1152921504606846976) hx hb hown (hT.w tw_422) dC_takeTimes_89 ?_
      refine zz_lle (tgt := 98) hx hb dC_takeTimes_92 dC_takeTimes_93 (by decide) (fun h3 => ?_) (fun h3 => ?_)
      · exact absurd hwi (fun q => q.elim h1 (fun q => q.elim h2 h3))
      · refine lv_iconst (v := 3) hx hb dC_takeTimes_96 (by decide) ?_
        exact zq_iret hx hb hr hlocks dC_takeTimes_97 (rfl) hAe hP hD hS
set_option maxHeartbeats 4000000 in
set_option maxRecDepth 100000 in
theorem ct_C_takeTimes (l : Launch) {dC : Nat → ClassId} {dI : Nat → Nat → Nat} {cJ cI cB cZ cS : ClassId} {sz : Nat} {o a b d : Nat} {den rch pol exg str : Int32} {xp rdl rds : Int64} {off del arr : Nat → Int64} {n : Nat} {c0 q r v sv : Nat} {g : Nat → Option Nat} {loc slw : Int64} {wst : Int32} {row : Nat → Int32} {k : Nat} (hk : k < 5) (hg : g k = some o) (hn : n ≤ 8) (hwi : ¬ (zc_half ((zp_rd row 32 8) - xp) ((zp_rd row 40 8) - loc) < (-1152921504606846976) ∨ 1152921504606846976 < zc_half ((zp_rd row 32 8) - xp) ((zp_rd row 40 8) - loc) ∨ 1152921504606846976 < zn_max 4096 ((loc - xp) - ((zp_rd row 40 8) - (zp_rd row 32 8))))) : Met l yC_takeTimes [Cond.code yC_takeTimes cC_takeTimes 14 (some .int)] { frames := 2, cells := 0, slots := 0, locals := 48 } (va_Pc [.ref c0, .ref o] (zq_B (dC, dI) vcl (zz_T cJ cI cB cZ cS) (zs_W o a b d cJ den rch pol exg xp (nI n) str rdl rds off del arr ++ (zc_C c0 q v sv loc slw wst ++ (zp_W q r cB row ++ zc_S sv cS g))) sz)) (zq_Q (dC, dI) vcl (some (.int 0)) (zs_W o a b d cJ den rch pol exg xp (nI n) str rdl rds off del arr ++ (zc_C c0 q v sv loc slw wst ++ (zp_W q r cB row ++ zc_S sv cS g))) (zs_W o a b d cJ den (rch ||| 1) pol exg xp (nI (zs_c8 n)) ((row 1) &&& 255) ((zp_rd row 4 4) * 65536) ((zp_rd row 8 4) * 65536) (zs_push off n (zc_half ((zp_rd row 32 8) - xp) ((zp_rd row 40 8) - loc))) (zs_push del n (zn_max 4096 ((loc - xp) - ((zp_rd row 40 8) - (zp_rd row 32 8))))) (zs_push arr n loc) ++ (zc_C c0 q v sv loc slw wst ++ (zp_W q r cB row ++ zc_S sv cS g))) sz) 0 0 (va_A (zs_W o a b d cJ den rch pol exg xp (nI n) str rdl rds off del arr ++ (zc_C c0 q v sv loc slw wst ++ (zp_W q r cB row ++ zc_S sv cS g))) sz) := by
  refine Met.ofW (cc := cC_takeTimes) (maxL := 14) (ret := (some .int)) (by decide) rfl ?_
  intro p e s m args below meth c s₁ B hml hv
  obtain ⟨rfl, hsz, hT, hP, hK, hD0⟩ := hv
  subst hsz
  have hx := B.exec
  have hb := B.bytes
  have hr := B.returns
  have hlocks := B.notSynchronized
  have hown : s.vm.findClass RC = some m.cls := findClass_of_methodNamed B.named
  have hD := hD0.self (sz := s.heap.size)
  generalize hAe : va_A (zs_W o a b d cJ den rch pol exg xp (nI n) str rdl rds off del arr ++ (zc_C c0 q v sv loc slw wst ++ (zp_W q r cB row ++ zc_S sv cS g))) s.heap.size = A at hD ⊢
  have hA : ∀ q : Nat, s.heap.size ≤ q → A q := fun q h => by rw [← hAe]; exact Or.inr h
  have hS : va_S A s.heap s.heap [] := va_S.rf
  have hl := lv_entry ([.ref c0, .ref o]) (n := 14) (Nat.le_of_ble_eq_true rfl)
  rw [lg_entry_eq]
  generalize (lg_sl ([.ref c0, .ref o]) ++ List.replicate (14 - (lg_sl ([.ref c0, .ref o])).length) Slot.unset).toArray = ls at hl ⊢
  have hl : lv_has ls 14 [(0, .ref c0), (1, .ref o)] := hl
  refine lv_aload_n hx hb dC_takeTimes_0 rfl (lv_at hl 1 rfl) ?_
  refine zz_getS hx hb hT hown hK hP 0 rfl 4 (by decide) tw_53 rfl dC_takeTimes_1 ?_
  refine lv_lstore_n (lv' := [(2, .long xp), (0, .ref c0), (1, .ref o)]) hx hb dC_takeTimes_4 rfl hl (by decide) rfl (fun ls hl => ?_)
  refine lv_aload_n hx hb dC_takeTimes_5 rfl (lv_at hl 1 rfl) ?_
  refine zz_getC hx hb hT hown hK hP 4 rfl 0 (by decide) tw_121 rfl dC_takeTimes_6 ?_
  refine lv_bipush (v := 32) hx hb dC_takeTimes_9 (by decide) ?_
  refine lv_bipush (v := 8) hx hb dC_takeTimes_11 (by decide) ?_
  refine zz_call (va_runV (Ts := []) (As := [.int 32, .int 8]) (own := RC) ⟨hx, hb, hml, hown, fun _ h => nomatch h⟩ (ct_P_read l (u := 32) (n := 8) (by first | decide | omega)) (zt_cv hT tc_P_read tv_P_read tw_389 ⟨Nat.le_of_ble_eq_true rfl, Nat.le_of_ble_eq_true rfl⟩) (zz_preV (q0 := 0) hT (zq_Pl (zq_Pr (zq_Pr hP))) hK rfl rfl) rfl rfl hl.1 rfl (lv_room (Nat.le_of_ble_eq_true rfl)) dC_takeTimes_13 ⟨Nat.zero_le _, Nat.zero_le _⟩) ?_
  refine lv_lstore (lv' := [(4, .long (zp_rd row 32 8)), (2, .long xp), (0, .ref c0), (1, .ref o)]) hx hb dC_takeTimes_16 hl (by decide) rfl (fun ls hl => ?_)
  refine lv_aload_n hx hb dC_takeTimes_18 rfl (lv_at hl 2 rfl) ?_
  refine zz_getC hx hb hT hown hK hP 4 rfl 0 (by decide) tw_121 rfl dC_takeTimes_19 ?_
  refine lv_bipush (v := 40) hx hb dC_takeTimes_22 (by decide) ?_
  refine lv_bipush (v := 8) hx hb dC_takeTimes_24 (by decide) ?_
  refine zz_call (va_runV (Ts := []) (As := [.int 40, .int 8]) (own := RC) ⟨hx, hb, hml, hown, fun _ h => nomatch h⟩ (ct_P_read l (u := 40) (n := 8) (by first | decide | omega)) (zt_cv hT tc_P_read tv_P_read tw_389 ⟨Nat.le_of_ble_eq_true rfl, Nat.le_of_ble_eq_true rfl⟩) (zz_preV (q0 := 0) hT (zq_Pl (zq_Pr (zq_Pr hP))) hK rfl rfl) rfl rfl hl.1 rfl (lv_room (Nat.le_of_ble_eq_true rfl)) dC_takeTimes_26 ⟨Nat.zero_le _, Nat.zero_le _⟩) ?_
  refine lv_lstore (lv' := [(6, .long (zp_rd row 40 8)), (4, .long (zp_rd row 32 8)), (2, .long xp), (0, .ref c0), (1, .ref o)]) hx hb dC_takeTimes_29 hl (by decide) rfl (fun ls hl => ?_)
  refine lv_aload_n hx hb dC_takeTimes_31 rfl (lv_at hl 3 rfl) ?_
  refine zz_getC hx hb hT hown hK hP 4 rfl 3 (by decide) tw_124 rfl dC_takeTimes_32 ?_
  refine lv_lstore (lv' := [(8, .long loc), (6, .long (zp_rd row 40 8)), (4, .long (zp_rd row 32 8)), (2, .long xp), (0, .ref c0), (1, .ref o)]) hx hb dC_takeTimes_35 hl (by decide) rfl (fun ls hl => ?_)
  refine lv_lload hx hb dC_takeTimes_37 (lv_at hl 2 rfl) ?_
  refine lv_lload_n hx hb dC_takeTimes_39 rfl (lv_at hl 3 rfl) ?_
  refine lv_lsub hx hb dC_takeTimes_40 ?_
  refine lv_lload hx hb dC_takeTimes_41 (lv_at hl 1 rfl) ?_
  refine lv_lload hx hb dC_takeTimes_43 (lv_at hl 0 rfl) ?_
  refine lv_lsub hx hb dC_takeTimes_45 ?_
  refine zz_call (va_runS (Ts := []) (As := [.long ((zp_rd row 32 8) - xp), .long ((zp_rd row 40 8) - loc)]) (own := RC) ⟨hx, hb, hml, hown, fun _ h => nomatch h⟩ (ct_C_halfOfSum l) (zt_cs hT tc_C_halfOfSum ts_C_halfOfSum tw_417 ⟨Nat.le_of_ble_eq_true rfl, Nat.le_of_ble_eq_true rfl⟩) (zz_pre0 hT) rfl rfl hl.1 rfl (lv_room (Nat.le_of_ble_eq_true rfl)) dC_takeTimes_46 ⟨Nat.zero_le _, Nat.zero_le _⟩) ?_
  refine lv_lstore (lv' := [(10, .long (zc_half ((zp_rd row 32 8) - xp) ((zp_rd row 40 8) - loc))), (8, .long loc), (6, .long (zp_rd row 40 8)), (4, .long (zp_rd row 32 8)), (2, .long xp), (0, .ref c0), (1, .ref o)]) hx hb dC_takeTimes_49 hl (by decide) rfl (fun ls hl => ?_)
  refine lv_ldc2 (own := RC) (v := 4096) hx hb hown (hT.w tw_420) dC_takeTimes_51 ?_
  refine lv_lload hx hb dC_takeTimes_54 (lv_at hl 1 rfl) ?_
  refine lv_lload_n hx hb dC_takeTimes_56 rfl (lv_at hl 4 rfl) ?_
  refine lv_lsub hx hb dC_takeTimes_57 ?_
  refine lv_lload hx hb dC_takeTimes_58 (lv_at hl 2 rfl) ?_
  refine lv_lload hx hb dC_takeTimes_60 (lv_at hl 3 rfl) ?_
  refine lv_lsub hx hb dC_takeTimes_62 ?_
  refine lv_lsub hx hb dC_takeTimes_63 ?_
  refine zz_call (va_runS (Ts := []) (As := [.long 4096, .long ((loc - xp) - ((zp_rd row 40 8) - (zp_rd row 32 8)))]) (own := RC) ⟨hx, hb, hml, hown, fun _ h => nomatch h⟩ (ct_J_max_f86c l) (zt_cs hT tc_J_max_f86c ts_J_max_f86c tw_307 ⟨Nat.le_of_ble_eq_true rfl, Nat.le_of_ble_eq_true rfl⟩) (zz_pre0 hT) rfl rfl hl.1 rfl (lv_room (Nat.le_of_ble_eq_true rfl)) dC_takeTimes_64 ⟨Nat.zero_le _, Nat.zero_le _⟩) ?_
  refine lv_lstore (lv' := [(12, .long (zn_max 4096 ((loc - xp) - ((zp_rd row 40 8) - (zp_rd row 32 8))))), (10, .long (zc_half ((zp_rd row 32 8) - xp) ((zp_rd row 40 8) - loc))), (8, .long loc), (6, .long (zp_rd row 40 8)), (4, .long (zp_rd row 32 8)), (2, .long xp), (0, .ref c0), (1, .ref o)]) hx hb dC_takeTimes_67 hl (by decide) rfl (fun ls hl => ?_)
  refine lv_lload hx hb dC_takeTimes_69 (lv_at hl 1 rfl) ?_
  refine lv_ldc2 (own := RC) (v := (-1152921504606846976)) hx hb hown (hT.w tw_421) dC_takeTimes_71 ?_
  refine zz_llt (tgt := 96) hx hb dC_takeTimes_74 dC_takeTimes_75 (by decide) (fun h1 => ?_) (fun h1 => ?_)
  · exact absurd (Or.inl h1) hwi
  · refine lv_lload hx hb dC_takeTimes_78 (lv_at hl 1 rfl) ?_
    refine lv_ldc2 (own := RC) (v := 1152921504606846976) hx hb hown (hT.w tw_422) dC_takeTimes_80 ?_
    refine zz_lgt (tgt := 96) hx hb dC_takeTimes_83 dC_takeTimes_84 (by decide) (fun h2 => ?_) (fun h2 => ?_)
    · exact absurd (Or.inr (Or.inl h2)) hwi
    · refine lv_lload hx hb dC_takeTimes_87 (lv_at hl 0 rfl) ?_
      refine lv_ldc2 (own := RC) (v := 1152921504606846976) hx hb hown (hT.w tw_422) dC_takeTimes_89 ?_
      refine zz_lle (tgt := 98) hx hb dC_takeTimes_92 dC_takeTimes_93 (by decide) (fun h3 => ?_) (fun h3 => ?_)
      · refine lv_aload_n hx hb dC_takeTimes_98 rfl (lv_at hl 7 rfl) ?_
        refine lv_aload_n hx hb dC_takeTimes_99 rfl (lv_at hl 6 rfl) ?_
        refine zz_getC hx hb hT hown hK hP 4 rfl 0 (by decide) tw_121 rfl dC_takeTimes_100 ?_
        refine zz_call (va_runV (Ts := []) (As := []) (own := RC) ⟨hx, hb, hml, hown, fun _ h => nomatch h⟩ (ct_P_stratum l) (zt_cv hT tc_P_stratum tv_P_stratum tw_390 ⟨Nat.le_of_ble_eq_true rfl, Nat.le_of_ble_eq_true rfl⟩) (zz_preV (q0 := 0) hT (zq_Pl (zq_Pr (zq_Pr hP))) hK rfl rfl) rfl rfl hl.1 rfl (lv_room (Nat.le_of_ble_eq_true rfl)) dC_takeTimes_103 ⟨Nat.zero_le _, Nat.zero_le _⟩) ?_
        refine lv_aload_n hx hb dC_takeTimes_106 rfl (lv_at hl 6 rfl) ?_
        refine zz_getC hx hb hT hown hK hP 4 rfl 0 (by decide) tw_121 rfl dC_takeTimes_107 ?_
        refine zz_call (va_runV (Ts := []) (As := []) (own := RC) ⟨hx, hb, hml, hown, fun _ h => nomatch h⟩ (ct_P_rootDelay l) (zt_cv hT tc_P_rootDelay tv_P_rootDelay tw_423 ⟨Nat.le_of_ble_eq_true rfl, Nat.le_of_ble_eq_true rfl⟩) (zz_preV (q0 := 0) hT (zq_Pl (zq_Pr (zq_Pr hP))) hK rfl rfl) rfl rfl hl.1 rfl (lv_room (Nat.le_of_ble_eq_true rfl)) dC_takeTimes_110 ⟨Nat.zero_le _, Nat.zero_le _⟩) ?_
        refine lv_aload_n hx hb dC_takeTimes_113 rfl (lv_at hl 6 rfl) ?_
        refine zz_getC hx hb hT hown hK hP 4 rfl 0 (by decide) tw_121 rfl dC_takeTimes_114 ?_
        refine zz_call (va_runV (Ts := []) (As := []) (own := RC) ⟨hx, hb, hml, hown, fun _ h => nomatch h⟩ (ct_P_rootDispersion l) (zt_cv hT tc_P_rootDispersion tv_P_rootDispersion tw_428 ⟨Nat.le_of_ble_eq_true rfl, Nat.le_of_ble_eq_true rfl⟩) (zz_preV (q0 := 0) hT (zq_Pl (zq_Pr (zq_Pr hP))) hK rfl rfl) rfl rfl hl.1 rfl (lv_room (Nat.le_of_ble_eq_true rfl)) dC_takeTimes_117 ⟨Nat.zero_le _, Nat.zero_le _⟩) ?_
        refine zq_call (va_runV (Ts := []) (As := [.int ((row 1) &&& 255), .long ((zp_rd row 4 4) * 65536), .long ((zp_rd row 8 4) * 65536)]) (own := RC) ⟨hx, hb, hml, hown, fun _ h => nomatch h⟩ (ct_S_keepRoot l) (zt_cv hT tc_S_keepRoot tv_S_keepRoot tw_432 ⟨Nat.le_of_ble_eq_true rfl, Nat.le_of_ble_eq_true rfl⟩) (zq_preV (q0 := 0) hT (zq_Pl hP) hK (zq_Dl hD) rfl rfl) rfl rfl hl.1 rfl (lv_room (Nat.le_of_ble_eq_true rfl)) dC_takeTimes_120 ⟨Nat.zero_le _, Nat.zero_le _⟩) hP hD hS hA (fun H locs hP hD hS => ?_)
        have hP : va_P (dC, dI) vcl (zs_W o a b d cJ den rch pol exg xp (nI n) ((row 1) &&& 255) ((zp_rd row 4 4) * 65536) ((zp_rd row 8 4) * 65536) off del arr ++ (zc_C c0 q v sv loc slw wst ++ (zp_W q r cB row ++ zc_S sv cS g))) H := hP
        have hD : va_D A (zs_W o a b d cJ den rch pol exg xp (nI n) ((row 1) &&& 255) ((zp_rd row 4 4) * 65536) ((zp_rd row 8 4) * 65536) off del arr ++ (zc_C c0 q v sv loc slw wst ++ (zp_W q r cB row ++ zc_S sv cS g))) := hD
        refine W.eq (g2 := F0 m 123 ls []) rfl ?_
        refine lv_aload_n hx hb dC_takeTimes_123 rfl (lv_at hl 7 rfl) ?_
        refine lv_lload hx hb dC_takeTimes_124 (lv_at hl 1 rfl) ?_
        refine lv_lload hx hb dC_takeTimes_126 (lv_at hl 0 rfl) ?_
        refine lv_lload hx hb dC_takeTimes_128 (lv_at hl 2 rfl) ?_
        refine zq_call (va_runV (Ts := []) (As := [.long (zc_half ((zp_rd row 32 8) - xp) ((zp_rd row 40 8) - loc)), .long (zn_max 4096 ((loc - xp) - ((zp_rd row 40 8) - (zp_rd row 32 8)))), .long loc]) (own := RC) ⟨hx, hb, hml, hown, fun _ h => nomatch h⟩ (ct_S_keepSample l hn) (zt_cv hT tc_S_keepSample tv_S_keepSample tw_436 ⟨Nat.le_of_ble_eq_true rfl, Nat.le_of_ble_eq_true rfl⟩) (zq_preV (q0 := 0) hT (zq_Pl hP) hK (zq_Dl hD) rfl rfl) rfl rfl hl.1 rfl (lv_room (Nat.le_of_ble_eq_true rfl)) dC_takeTimes_130 ⟨Nat.zero_le _, Nat.zero_le _⟩) hP hD hS hA (fun H locs hP hD hS => ?_)
        have hP : va_P (dC, dI) vcl (zs_W o a b d cJ den (rch ||| 1) pol exg xp (nI (zs_c8 n)) ((row 1) &&& 255) ((zp_rd row 4 4) * 65536) ((zp_rd row 8 4) * 65536) (zs_push off n (zc_half ((zp_rd row 32 8) - xp) ((zp_rd row 40 8) - loc))) (zs_push del n (zn_max 4096 ((loc - xp) - ((zp_rd row 40 8) - (zp_rd row 32 8))))) (zs_push arr n loc) ++ (zc_C c0 q v sv loc slw wst ++ (zp_W q r cB row ++ zc_S sv cS g))) H := hP
        have hD : va_D A (zs_W o a b d cJ den (rch ||| 1) pol exg xp (nI (zs_c8 n)) ((row 1) &&& 255) ((zp_rd row 4 4) * 65536) ((zp_rd row 8 4) * 65536) (zs_push off n (zc_half ((zp_rd row 32 8) - xp) ((zp_rd row 40 8) - loc))) (zs_push del n (zn_max 4096 ((loc - xp) - ((zp_rd row 40 8) - (zp_rd row 32 8))))) (zs_push arr n loc) ++ (zc_C c0 q v sv loc slw wst ++ (zp_W q r cB row ++ zc_S sv cS g))) := hD
        refine W.eq (g2 := F0 m 133 ls []) rfl ?_
        refine lv_iconst (v := 0) hx hb dC_takeTimes_133 (by decide) ?_
        exact zq_iret hx hb hr hlocks dC_takeTimes_134 (rfl) hAe hP hD hS
      · exact absurd (Or.inr (Or.inr h3)) hwi
set_option maxHeartbeats 4000000 in
set_option maxRecDepth 100000 in
theorem ct_C_receive_kis (l : Launch) {dC : Nat → ClassId} {dI : Nat → Nat → Nat} {cJ cI cB cZ cS : ClassId} {sz : Nat} {o a b d : Nat} {den rch pol exg str : Int32} {xp rdl rds : Int64} {off del arr : Nat → Int64} {n : Nat} {c0 q r v sv : Nat} {g : Nat → Option Nat} {loc slw : Int64} {wst : Int32} {row : Nat → Int32} {k : Nat} (hk : k < 5) (hg : g k = some o) (ha : ¬ zp_ans row = 0) (hd0 : den = 0) (hd1 : ¬ exg = 0) (hd2 : xp = zp_rd row 24 8) (hs0 : (row 1) &&& 255 = 0) : Met l yC_receive [Cond.code yC_receive cC_receive 3 (some .int)] { frames := 3, cells := 0, slots := 0, locals := 81 } (va_Pc [.ref c0, .int (nI k)] (zq_B (dC, dI) vcl (zz_T cJ cI cB cZ cS) (zs_W o a b d cJ den rch pol exg xp (nI n) str rdl rds off del arr ++ (zc_C c0 q v sv loc slw wst ++ (zp_W q r cB row ++ zc_S sv cS g))) sz)) (zq_Q (dC, dI) vcl (some (.int 2)) (zs_W o a b d cJ den rch pol exg xp (nI n) str rdl rds off del arr ++ (zc_C c0 q v sv loc slw wst ++ (zp_W q r cB row ++ zc_S sv cS g))) (zs_W o a b d cJ (zs_od den (zp_rd row 12 4)) rch (zs_op pol (zp_rd row 12 4)) 0 xp (nI n) str rdl rds off del arr ++ (zc_C c0 q v sv loc slw wst ++ (zp_W q r cB row ++ zc_S sv cS g))) sz) 0 0 (va_A (zs_W o a b d cJ den rch pol exg xp (nI n) str rdl rds off del arr ++ (zc_C c0 q v sv loc slw wst ++ (zp_W q r cB row ++ zc_S sv cS g))) sz) := by
  refine Met.ofW (cc := cC_receive) (maxL := 3) (ret := (some .int)) (by decide) rfl ?_
  intro p e s m args below meth c s₁ B hml hv
  obtain ⟨rfl, hsz, hT, hP, hK, hD0⟩ := hv
  subst hsz
  have hx := B.exec
  have hb := B.bytes
  have hr := B.returns
  have hlocks := B.notSynchronized
  have hown : s.vm.findClass RC = some m.cls := findClass_of_methodNamed B.named
  have hD := hD0.self (sz := s.heap.size)
  generalize hAe : va_A (zs_W o a b d cJ den rch pol exg xp (nI n) str rdl rds off del arr ++ (zc_C c0 q v sv loc slw wst ++ (zp_W q r cB row ++ zc_S sv cS g))) s.heap.size = A at hD ⊢
  have hA : ∀ q : Nat, s.heap.size ≤ q → A q := fun q h => by rw [← hAe]; exact Or.inr h
  have hS : va_S A s.heap s.heap [] := va_S.rf
  have hl := lv_entry ([.ref c0, .int (nI k)]) (n := 3) (Nat.le_of_ble_eq_true rfl)
  rw [lg_entry_eq]
  generalize (lg_sl ([.ref c0, .int (nI k)]) ++ List.replicate (3 - (lg_sl ([.ref c0, .int (nI k)])).length) Slot.unset).toArray = ls at hl ⊢
  have hl : lv_has ls 3 [(0, .ref c0), (1, .int (nI k))] := hl
  refine lv_aload_n hx hb dC_receive_0 rfl (lv_at hl 0 rfl) ?_
  refine lv_iload_n hx hb dC_receive_1 rfl (lv_at hl 1 rfl) ?_
  refine zz_call (va_runV (Ts := []) (As := [.int (nI k)]) (own := RC) ⟨hx, hb, hml, hown, fun _ h => nomatch h⟩ (ct_C_serverAt l hk hg) (zt_cv hT tc_C_serverAt tv_C_serverAt tw_343 ⟨Nat.le_of_ble_eq_true rfl, Nat.le_of_ble_eq_true rfl⟩) (zz_preV (q0 := 4) hT hP hK rfl rfl) rfl rfl hl.1 rfl (lv_room (Nat.le_of_ble_eq_true rfl)) dC_receive_2 ⟨Nat.zero_le _, Nat.zero_le _⟩) ?_
  refine lv_astore_n (lv' := [(2, .ref o), (0, .ref c0), (1, .int (nI k))]) hx hb dC_receive_5 rfl hl (by decide) rfl (fun ls hl => ?_)
  refine lv_aload_n hx hb dC_receive_6 rfl (lv_at hl 1 rfl) ?_
  refine zz_getC hx hb hT hown hK hP 4 rfl 0 (by decide) tw_121 rfl dC_receive_7 ?_
  refine zz_call (va_runV (Ts := []) (As := []) (own := RC) ⟨hx, hb, hml, hown, fun _ h => nomatch h⟩ (ct_P_isAnswer l) (zt_cv hT tc_P_isAnswer tv_P_isAnswer tw_381 ⟨Nat.le_of_ble_eq_true rfl, Nat.le_of_ble_eq_true rfl⟩) (zz_preV (q0 := 0) hT (zq_Pl (zq_Pr (zq_Pr hP))) hK rfl rfl) rfl rfl hl.1 rfl (lv_room (Nat.le_of_ble_eq_true rfl)) dC_receive_10 ⟨Nat.zero_le _, Nat.zero_le _⟩) ?_
  refine zz_zne (tgt := 24) hx hb dC_receive_13 (by decide) (fun h1 => ?_) (fun h1 => ?_)
  · refine lv_aload_n hx hb dC_receive_24 rfl (lv_at hl 0 rfl) ?_
    refine zz_getS hx hb hT hown hK hP 0 rfl 0 (by decide) tw_43 rfl dC_receive_25 ?_
    refine zz_zne (tgt := 57) hx hb dC_receive_28 (by decide) (fun h2 => ?_) (fun h2 => ?_)
    · exact absurd hd0 h2
    · refine lv_aload_n hx hb dC_receive_31 rfl (lv_at hl 0 rfl) ?_
      refine zz_getS hx hb hT hown hK hP 0 rfl 3 (by decide) tw_51 rfl dC_receive_32 ?_
      refine zz_zeq (tgt := 57) hx hb dC_receive_35 (by decide) (fun h3 => ?_) (fun h3 => ?_)
      · exact absurd h3 hd1
      · refine lv_aload_n hx hb dC_receive_38 rfl (lv_at hl 0 rfl) ?_
        refine zz_getS hx hb hT hown hK hP 0 rfl 4 (by decide) tw_53 rfl dC_receive_39 ?_
        refine lv_aload_n hx hb dC_receive_42 rfl (lv_at hl 1 rfl) ?_
        refine zz_getC hx hb hT hown hK hP 4 rfl 0 (by decide) tw_121 rfl dC_receive_43 ?_
        refine lv_bipush (v := 24) hx hb dC_receive_46 (by decide) ?_
        refine lv_bipush (v := 8) hx hb dC_receive_48 (by decide) ?_
        refine zz_call (va_runV (Ts := []) (As := [.int 24, .int 8]) (own := RC) ⟨hx, hb, hml, hown, fun _ h => nomatch h⟩ (ct_P_read l (u := 24) (n := 8) (by first | decide | omega)) (zt_cv hT tc_P_read tv_P_read tw_389 ⟨Nat.le_of_ble_eq_true rfl, Nat.le_of_ble_eq_true rfl⟩) (zz_preV (q0 := 0) hT (zq_Pl (zq_Pr (zq_Pr hP))) hK rfl rfl) rfl rfl hl.1 rfl (lv_room (Nat.le_of_ble_eq_true rfl)) dC_receive_50 ⟨Nat.zero_le _, Nat.zero_le _⟩) ?_
        refine zz_leq (tgt := 65) hx hb dC_receive_53 dC_receive_54 (by decide) (fun h4 => ?_) (fun h4 => ?_)
        · refine lv_aload_n hx hb dC_receive_65 rfl (lv_at hl 0 rfl) ?_
          refine lv_iconst (v := 0) hx hb dC_receive_66 (by decide) ?_
          refine zz_putS (ty := .boolean) hx hb hT hown hK hP hD hS 0 rfl 3 (by decide) tw_51 rfl (by decide +kernel) rfl rfl (Nat.le_of_ble_eq_true rfl) dC_receive_67 (fun H locs hP hD hS => ?_)
          have hP : va_P (dC, dI) vcl (zs_W o a b d cJ den rch pol 0 xp (nI n) str rdl rds off del arr ++ (zc_C c0 q v sv loc slw wst ++ (zp_W q r cB row ++ zc_S sv cS g))) H := hP
          have hD : va_D A (zs_W o a b d cJ den rch pol 0 xp (nI n) str rdl rds off del arr ++ (zc_C c0 q v sv loc slw wst ++ (zp_W q r cB row ++ zc_S sv cS g))) := hD
          refine lv_aload_n hx hb dC_receive_70 rfl (lv_at hl 1 rfl) ?_
          refine zz_getC hx hb hT hown hK hP 4 rfl 0 (by decide) tw_121 rfl dC_receive_71 ?_
          refine zz_call (va_runV (Ts := []) (As := []) (own := RC) ⟨hx, hb, hml, hown, fun _ h => nomatch h⟩ (ct_P_stratum l) (zt_cv hT tc_P_stratum tv_P_stratum tw_390 ⟨Nat.le_of_ble_eq_true rfl, Nat.le_of_ble_eq_true rfl⟩) (zz_preV (q0 := 0) hT (zq_Pl (zq_Pr (zq_Pr hP))) hK rfl rfl) rfl rfl hl.1 rfl (lv_room (Nat.le_of_ble_eq_true rfl)) dC_receive_74 ⟨Nat.zero_le _, Nat.zero_le _⟩) ?_
          refine zz_zne (tgt := 96) hx hb dC_receive_77 (by decide) (fun h5 => ?_) (fun h5 => ?_)
          · exact absurd hs0 h5
          · refine lv_aload_n hx hb dC_receive_80 rfl (lv_at hl 0 rfl) ?_
            refine lv_aload_n hx hb dC_receive_81 rfl (lv_at hl 1 rfl) ?_
            refine zz_getC hx hb hT hown hK hP 4 rfl 0 (by decide) tw_121 rfl dC_receive_82 ?_
            refine lv_bipush (v := 12) hx hb dC_receive_85 (by decide) ?_
            refine lv_iconst (v := 4) hx hb dC_receive_87 (by decide) ?_
            refine zz_call (va_runV (Ts := []) (As := [.int 12, .int 4]) (own := RC) ⟨hx, hb, hml, hown, fun _ h => nomatch h⟩ (ct_P_read l (u := 12) (n := 4) (by first | decide | omega)) (zt_cv hT tc_P_read tv_P_read tw_389 ⟨Nat.le_of_ble_eq_true rfl, Nat.le_of_ble_eq_true rfl⟩) (zz_preV (q0 := 0) hT (zq_Pl (zq_Pr (zq_Pr hP))) hK rfl rfl) rfl rfl hl.1 rfl (lv_room (Nat.le_of_ble_eq_true rfl)) dC_receive_88 ⟨Nat.zero_le _, Nat.zero_le _⟩) ?_
            refine zq_call (va_runV (Ts := []) (As := [.long (zp_rd row 12 4)]) (own := RC) ⟨hx, hb, hml, hown, fun _ h => nomatch h⟩ (ct_S_obey l) (zt_cv hT tc_S_obey tv_S_obey tw_394 ⟨Nat.le_of_ble_eq_true rfl, Nat.le_of_ble_eq_true rfl⟩) (zq_preV (q0 := 0) hT (zq_Pl hP) hK (zq_Dl hD) rfl rfl) rfl rfl hl.1 rfl (lv_room (Nat.le_of_ble_eq_true rfl)) dC_receive_91 ⟨Nat.zero_le _, Nat.zero_le _⟩) hP hD hS hA (fun H locs hP hD hS => ?_)
            have hP : va_P (dC, dI) vcl (zs_W o a b d cJ (zs_od den (zp_rd row 12 4)) rch (zs_op pol (zp_rd row 12 4)) 0 xp (nI n) str rdl rds off del arr ++ (zc_C c0 q v sv loc slw wst ++ (zp_W q r cB row ++ zc_S sv cS g))) H := hP
            have hD : va_D A (zs_W o a b d cJ (zs_od den (zp_rd row 12 4)) rch (zs_op pol (zp_rd row 12 4)) 0 xp (nI n) str rdl rds off del arr ++ (zc_C c0 q v sv loc slw wst ++ (zp_W q r cB row ++ zc_S sv cS g))) := hD
            refine W.eq (g2 := F0 m 94 ls []) rfl ?_
            refine lv_iconst (v := 2) hx hb dC_receive_94 (by decide) ?_
            exact zq_iret hx hb hr hlocks dC_receive_95 (rfl) hAe hP hD hS
        · exact absurd hd2 h4
  · exact absurd h1 ha
set_option maxHeartbeats 4000000 in
set_option maxRecDepth 100000 in
theorem ct_C_receive_uns (l : Launch) {dC : Nat → ClassId} {dI : Nat → Nat → Nat} {cJ cI cB cZ cS : ClassId} {sz : Nat} {o a b d : Nat} {den rch pol exg str : Int32} {xp rdl rds : Int64} {off del arr : Nat → Int64} {n : Nat} {c0 q r v sv : Nat} {g : Nat → Option Nat} {loc slw : Int64} {wst : Int32} {row : Nat → Int32} {k : Nat} (hk : k < 5) (hg : g k = some o) (ha : ¬ zp_ans row = 0) (hd0 : den = 0) (hd1 : ¬ exg = 0) (hd2 : xp = zp_rd row 24 8) (hs0 : ¬ (row 1) &&& 255 = 0) (hy : zp_syn row = 0) : Met l yC_receive [Cond.code yC_receive cC_receive 3 (some .int)] { frames := 3, cells := 0, slots := 0, locals := 81 } (va_Pc [.ref c0, .int (nI k)] (zq_B (dC, dI) vcl (zz_T cJ cI cB cZ cS) (zs_W o a b d cJ den rch pol exg xp (nI n) str rdl rds off del arr ++ (zc_C c0 q v sv loc slw wst ++ (zp_W q r cB row ++ zc_S sv cS g))) sz)) (zq_Q (dC, dI) vcl (some (.int 1)) (zs_W o a b d cJ den rch pol exg xp (nI n) str rdl rds off del arr ++ (zc_C c0 q v sv loc slw wst ++ (zp_W q r cB row ++ zc_S sv cS g))) (zs_W o a b d cJ den rch pol 0 xp (nI n) str rdl rds off del arr ++ (zc_C c0 q v sv loc slw wst ++ (zp_W q r cB row ++ zc_S sv cS g))) sz) 0 0 (va_A (zs_W o a b d cJ den rch pol exg xp (nI n) str rdl rds off del arr ++ (zc_C c0 q v sv loc slw wst ++ (zp_W q r cB row ++ zc_S sv cS g))) sz) := by
  refine Met.ofW (cc := cC_receive) (maxL := 3) (ret := (some .int)) (by decide) rfl ?_
  intro p e s m args below meth c s₁ B hml hv
  obtain ⟨rfl, hsz, hT, hP, hK, hD0⟩ := hv
  subst hsz
  have hx := B.exec
  have hb := B.bytes
  have hr := B.returns
  have hlocks := B.notSynchronized
  have hown : s.vm.findClass RC = some m.cls := findClass_of_methodNamed B.named
  have hD := hD0.self (sz := s.heap.size)
  generalize hAe : va_A (zs_W o a b d cJ den rch pol exg xp (nI n) str rdl rds off del arr ++ (zc_C c0 q v sv loc slw wst ++ (zp_W q r cB row ++ zc_S sv cS g))) s.heap.size = A at hD ⊢
  have hA : ∀ q : Nat, s.heap.size ≤ q → A q := fun q h => by rw [← hAe]; exact Or.inr h
  have hS : va_S A s.heap s.heap [] := va_S.rf
  have hl := lv_entry ([.ref c0, .int (nI k)]) (n := 3) (Nat.le_of_ble_eq_true rfl)
  rw [lg_entry_eq]
  generalize (lg_sl ([.ref c0, .int (nI k)]) ++ List.replicate (3 - (lg_sl ([.ref c0, .int (nI k)])).length) Slot.unset).toArray = ls at hl ⊢
  have hl : lv_has ls 3 [(0, .ref c0), (1, .int (nI k))] := hl
  refine lv_aload_n hx hb dC_receive_0 rfl (lv_at hl 0 rfl) ?_
  refine lv_iload_n hx hb dC_receive_1 rfl (lv_at hl 1 rfl) ?_
  refine zz_call (va_runV (Ts := []) (As := [.int (nI k)]) (own := RC) ⟨hx, hb, hml, hown, fun _ h => nomatch h⟩ (ct_C_serverAt l hk hg) (zt_cv hT tc_C_serverAt tv_C_serverAt tw_343 ⟨Nat.le_of_ble_eq_true rfl, Nat.le_of_ble_eq_true rfl⟩) (zz_preV (q0 := 4) hT hP hK rfl rfl) rfl rfl hl.1 rfl (lv_room (Nat.le_of_ble_eq_true rfl)) dC_receive_2 ⟨Nat.zero_le _, Nat.zero_le _⟩) ?_
  refine lv_astore_n (lv' := [(2, .ref o), (0, .ref c0), (1, .int (nI k))]) hx hb dC_receive_5 rfl hl (by decide) rfl (fun ls hl => ?_)
  refine lv_aload_n hx hb dC_receive_6 rfl (lv_at hl 1 rfl) ?_
  refine zz_getC hx hb hT hown hK hP 4 rfl 0 (by decide) tw_121 rfl dC_receive_7 ?_
  refine zz_call (va_runV (Ts := []) (As := []) (own := RC) ⟨hx, hb, hml, hown, fun _ h => nomatch h⟩ (ct_P_isAnswer l) (zt_cv hT tc_P_isAnswer tv_P_isAnswer tw_381 ⟨Nat.le_of_ble_eq_true rfl, Nat.le_of_ble_eq_true rfl⟩) (zz_preV (q0 := 0) hT (zq_Pl (zq_Pr (zq_Pr hP))) hK rfl rfl) rfl rfl hl.1 rfl (lv_room (Nat.le_of_ble_eq_true rfl)) dC_receive_10 ⟨Nat.zero_le _, Nat.zero_le _⟩) ?_
  refine zz_zne (tgt := 24) hx hb dC_receive_13 (by decide) (fun h1 => ?_) (fun h1 => ?_)
  · refine lv_aload_n hx hb dC_receive_24 rfl (lv_at hl 0 rfl) ?_
    refine zz_getS hx hb hT hown hK hP 0 rfl 0 (by decide) tw_43 rfl dC_receive_25 ?_
    refine zz_zne (tgt := 57) hx hb dC_receive_28 (by decide) (fun h2 => ?_) (fun h2 => ?_)
    · exact absurd hd0 h2
    · refine lv_aload_n hx hb dC_receive_31 rfl (lv_at hl 0 rfl) ?_
      refine zz_getS hx hb hT hown hK hP 0 rfl 3 (by decide) tw_51 rfl dC_receive_32 ?_
      refine zz_zeq (tgt := 57) hx hb dC_receive_35 (by decide) (fun h3 => ?_) (fun h3 => ?_)
      · exact absurd h3 hd1
      · refine lv_aload_n hx hb dC_receive_38 rfl (lv_at hl 0 rfl) ?_
        refine zz_getS hx hb hT hown hK hP 0 rfl 4 (by decide) tw_53 rfl dC_receive_39 ?_
        refine lv_aload_n hx hb dC_receive_42 rfl (lv_at hl 1 rfl) ?_
        refine zz_getC hx hb hT hown hK hP 4 rfl 0 (by decide) tw_121 rfl dC_receive_43 ?_
        refine lv_bipush (v := 24) hx hb dC_receive_46 (by decide) ?_
        refine lv_bipush (v := 8) hx hb dC_receive_48 (by decide) ?_
        refine zz_call (va_runV (Ts := []) (As := [.int 24, .int 8]) (own := RC) ⟨hx, hb, hml, hown, fun _ h => nomatch h⟩ (ct_P_read l (u := 24) (n := 8) (by first | decide | omega)) (zt_cv hT tc_P_read tv_P_read tw_389 ⟨Nat.le_of_ble_eq_true rfl, Nat.le_of_ble_eq_true rfl⟩) (zz_preV (q0 := 0) hT (zq_Pl (zq_Pr (zq_Pr hP))) hK rfl rfl) rfl rfl hl.1 rfl (lv_room (Nat.le_of_ble_eq_true rfl)) dC_receive_50 ⟨Nat.zero_le _, Nat.zero_le _⟩) ?_
        refine zz_leq (tgt := 65) hx hb dC_receive_53 dC_receive_54 (by decide) (fun h4 => ?_) (fun h4 => ?_)
        · refine lv_aload_n hx hb dC_receive_65 rfl (lv_at hl 0 rfl) ?_
          refine lv_iconst (v := 0) hx hb dC_receive_66 (by decide) ?_
          refine zz_putS (ty := .boolean) hx hb hT hown hK hP hD hS 0 rfl 3 (by decide) tw_51 rfl (by decide +kernel) rfl rfl (Nat.le_of_ble_eq_true rfl) dC_receive_67 (fun H locs hP hD hS => ?_)
          have hP : va_P (dC, dI) vcl (zs_W o a b d cJ den rch pol 0 xp (nI n) str rdl rds off del arr ++ (zc_C c0 q v sv loc slw wst ++ (zp_W q r cB row ++ zc_S sv cS g))) H := hP
          have hD : va_D A (zs_W o a b d cJ den rch pol 0 xp (nI n) str rdl rds off del arr ++ (zc_C c0 q v sv loc slw wst ++ (zp_W q r cB row ++ zc_S sv cS g))) := hD
          refine lv_aload_n hx hb dC_receive_70 rfl (lv_at hl 1 rfl) ?_
          refine zz_getC hx hb hT hown hK hP 4 rfl 0 (by decide) tw_121 rfl dC_receive_71 ?_
          refine zz_call (va_runV (Ts := []) (As := []) (own := RC) ⟨hx, hb, hml, hown, fun _ h => nomatch h⟩ (ct_P_stratum l) (zt_cv hT tc_P_stratum tv_P_stratum tw_390 ⟨Nat.le_of_ble_eq_true rfl, Nat.le_of_ble_eq_true rfl⟩) (zz_preV (q0 := 0) hT (zq_Pl (zq_Pr (zq_Pr hP))) hK rfl rfl) rfl rfl hl.1 rfl (lv_room (Nat.le_of_ble_eq_true rfl)) dC_receive_74 ⟨Nat.zero_le _, Nat.zero_le _⟩) ?_
          refine zz_zne (tgt := 96) hx hb dC_receive_77 (by decide) (fun h5 => ?_) (fun h5 => ?_)
          · refine lv_aload_n hx hb dC_receive_96 rfl (lv_at hl 1 rfl) ?_
            refine zz_getC hx hb hT hown hK hP 4 rfl 0 (by decide) tw_121 rfl dC_receive_97 ?_
            refine zz_call (va_runV (Ts := []) (As := []) (own := RC) ⟨hx, hb, hml, hown, fun _ h => nomatch h⟩ (ct_P_isSynchronized l) (zt_cv hT tc_P_isSynchronized tv_P_isSynchronized tw_408 ⟨Nat.le_of_ble_eq_true rfl, Nat.le_of_ble_eq_true rfl⟩) (zz_preV (q0 := 0) hT (zq_Pl (zq_Pr (zq_Pr hP))) hK rfl rfl) rfl rfl hl.1 rfl (lv_room (Nat.le_of_ble_eq_true rfl)) dC_receive_100 ⟨Nat.zero_le _, Nat.zero_le _⟩) ?_
            refine zz_zne (tgt := 108) hx hb dC_receive_103 (by decide) (fun h6 => ?_) (fun h6 => ?_)
            · exact absurd hy h6
            · refine lv_iconst (v := 1) hx hb dC_receive_106 (by decide) ?_
              exact zq_iret hx hb hr hlocks dC_receive_107 (rfl) hAe hP hD hS
          · exact absurd h5 hs0
        · exact absurd hd2 h4
  · exact absurd h1 ha
set_option maxHeartbeats 4000000 in
set_option maxRecDepth 100000 in
theorem ct_C_receive_wld (l : Launch) {dC : Nat → ClassId} {dI : Nat → Nat → Nat} {cJ cI cB cZ cS : ClassId} {sz : Nat} {o a b d : Nat} {den rch pol exg str : Int32} {xp rdl rds : Int64} {off del arr : Nat → Int64} {n : Nat} {c0 q r v sv : Nat} {g : Nat → Option Nat} {loc slw : Int64} {wst : Int32} {row : Nat → Int32} {k : Nat} (hk : k < 5) (hg : g k = some o) (ha : ¬ zp_ans row = 0) (hd0 : den = 0) (hd1 : ¬ exg = 0) (hd2 : xp = zp_rd row 24 8) (hs0 : ¬ (row 1) &&& 255 = 0) (hy : ¬ zp_syn row = 0) (hwi : zc_half ((zp_rd row 32 8) - xp) ((zp_rd row 40 8) - loc) < (-1152921504606846976) ∨ 1152921504606846976 < zc_half ((zp_rd row 32 8) - xp) ((zp_rd row 40 8) - loc) ∨ 1152921504606846976 < zn_max 4096 ((loc - xp) - ((zp_rd row 40 8) - (zp_rd row 32 8)))) : Met l yC_receive [Cond.code yC_receive cC_receive 3 (some .int)] { frames := 3, cells := 0, slots := 0, locals := 81 } (va_Pc [.ref c0, .int (nI k)] (zq_B (dC, dI) vcl (zz_T cJ cI cB cZ cS) (zs_W o a b d cJ den rch pol exg xp (nI n) str rdl rds off del arr ++ (zc_C c0 q v sv loc slw wst ++ (zp_W q r cB row ++ zc_S sv cS g))) sz)) (zq_Q (dC, dI) vcl (some (.int 3)) (zs_W o a b d cJ den rch pol exg xp (nI n) str rdl rds off del arr ++ (zc_C c0 q v sv loc slw wst ++ (zp_W q r cB row ++ zc_S sv cS g))) (zs_W o a b d cJ den rch pol 0 xp (nI n) str rdl rds off del arr ++ (zc_C c0 q v sv loc slw wst ++ (zp_W q r cB row ++ zc_S sv cS g))) sz) 0 0 (va_A (zs_W o a b d cJ den rch pol exg xp (nI n) str rdl rds off del arr ++ (zc_C c0 q v sv loc slw wst ++ (zp_W q r cB row ++ zc_S sv cS g))) sz) := by
  refine Met.ofW (cc := cC_receive) (maxL := 3) (ret := (some .int)) (by decide) rfl ?_
  intro p e s m args below meth c s₁ B hml hv
  obtain ⟨rfl, hsz, hT, hP, hK, hD0⟩ := hv
  subst hsz
  have hx := B.exec
  have hb := B.bytes
  have hr := B.returns
  have hlocks := B.notSynchronized
  have hown : s.vm.findClass RC = some m.cls := findClass_of_methodNamed B.named
  have hD := hD0.self (sz := s.heap.size)
  generalize hAe : va_A (zs_W o a b d cJ den rch pol exg xp (nI n) str rdl rds off del arr ++ (zc_C c0 q v sv loc slw wst ++ (zp_W q r cB row ++ zc_S sv cS g))) s.heap.size = A at hD ⊢
  have hA : ∀ q : Nat, s.heap.size ≤ q → A q := fun q h => by rw [← hAe]; exact Or.inr h
  have hS : va_S A s.heap s.heap [] := va_S.rf
  have hl := lv_entry ([.ref c0, .int (nI k)]) (n := 3) (Nat.le_of_ble_eq_true rfl)
  rw [lg_entry_eq]
  generalize (lg_sl ([.ref c0, .int (nI k)]) ++ List.replicate (3 - (lg_sl ([.ref c0, .int (nI k)])).length) Slot.unset).toArray = ls at hl ⊢
  have hl : lv_has ls 3 [(0, .ref c0), (1, .int (nI k))] := hl
  refine lv_aload_n hx hb dC_receive_0 rfl (lv_at hl 0 rfl) ?_
  refine lv_iload_n hx hb dC_receive_1 rfl (lv_at hl 1 rfl) ?_
  refine zz_call (va_runV (Ts := []) (As := [.int (nI k)]) (own := RC) ⟨hx, hb, hml, hown, fun _ h => nomatch h⟩ (ct_C_serverAt l hk hg) (zt_cv hT tc_C_serverAt tv_C_serverAt tw_343 ⟨Nat.le_of_ble_eq_true rfl, Nat.le_of_ble_eq_true rfl⟩) (zz_preV (q0 := 4) hT hP hK rfl rfl) rfl rfl hl.1 rfl (lv_room (Nat.le_of_ble_eq_true rfl)) dC_receive_2 ⟨Nat.zero_le _, Nat.zero_le _⟩) ?_
  refine lv_astore_n (lv' := [(2, .ref o), (0, .ref c0), (1, .int (nI k))]) hx hb dC_receive_5 rfl hl (by decide) rfl (fun ls hl => ?_)
  refine lv_aload_n hx hb dC_receive_6 rfl (lv_at hl 1 rfl) ?_
  refine zz_getC hx hb hT hown hK hP 4 rfl 0 (by decide) tw_121 rfl dC_receive_7 ?_
  refine zz_call (va_runV (Ts := []) (As := []) (own := RC) ⟨hx, hb, hml, hown, fun _ h => nomatch h⟩ (ct_P_isAnswer l) (zt_cv hT tc_P_isAnswer tv_P_isAnswer tw_381 ⟨Nat.le_of_ble_eq_true rfl, Nat.le_of_ble_eq_true rfl⟩) (zz_preV (q0 := 0) hT (zq_Pl (zq_Pr (zq_Pr hP))) hK rfl rfl) rfl rfl hl.1 rfl (lv_room (Nat.le_of_ble_eq_true rfl)) dC_receive_10 ⟨Nat.zero_le _, Nat.zero_le _⟩) ?_
  refine zz_zne (tgt := 24) hx hb dC_receive_13 (by decide) (fun h1 => ?_) (fun h1 => ?_)
  · refine lv_aload_n hx hb dC_receive_24 rfl (lv_at hl 0 rfl) ?_
    refine zz_getS hx hb hT hown hK hP 0 rfl 0 (by decide) tw_43 rfl dC_receive_25 ?_
    refine zz_zne (tgt := 57) hx hb dC_receive_28 (by decide) (fun h2 => ?_) (fun h2 => ?_)
    · exact absurd hd0 h2
    · refine lv_aload_n hx hb dC_receive_31 rfl (lv_at hl 0 rfl) ?_
      refine zz_getS hx hb hT hown hK hP 0 rfl 3 (by decide) tw_51 rfl dC_receive_32 ?_
      refine zz_zeq (tgt := 57) hx hb dC_receive_35 (by decide) (fun h3 => ?_) (fun h3 => ?_)
      · exact absurd h3 hd1
      · refine lv_aload_n hx hb dC_receive_38 rfl (lv_at hl 0 rfl) ?_
        refine zz_getS hx hb hT hown hK hP 0 rfl 4 (by decide) tw_53 rfl dC_receive_39 ?_
        refine lv_aload_n hx hb dC_receive_42 rfl (lv_at hl 1 rfl) ?_
        refine zz_getC hx hb hT hown hK hP 4 rfl 0 (by decide) tw_121 rfl dC_receive_43 ?_
        refine lv_bipush (v := 24) hx hb dC_receive_46 (by decide) ?_
        refine lv_bipush (v := 8) hx hb dC_receive_48 (by decide) ?_
        refine zz_call (va_runV (Ts := []) (As := [.int 24, .int 8]) (own := RC) ⟨hx, hb, hml, hown, fun _ h => nomatch h⟩ (ct_P_read l (u := 24) (n := 8) (by first | decide | omega)) (zt_cv hT tc_P_read tv_P_read tw_389 ⟨Nat.le_of_ble_eq_true rfl, Nat.le_of_ble_eq_true rfl⟩) (zz_preV (q0 := 0) hT (zq_Pl (zq_Pr (zq_Pr hP))) hK rfl rfl) rfl rfl hl.1 rfl (lv_room (Nat.le_of_ble_eq_true rfl)) dC_receive_50 ⟨Nat.zero_le _, Nat.zero_le _⟩) ?_
        refine zz_leq (tgt := 65) hx hb dC_receive_53 dC_receive_54 (by decide) (fun h4 => ?_) (fun h4 => ?_)
        · refine lv_aload_n hx hb dC_receive_65 rfl (lv_at hl 0 rfl) ?_
          refine lv_iconst (v := 0) hx hb dC_receive_66 (by decide) ?_
          refine zz_putS (ty := .boolean) hx hb hT hown hK hP hD hS 0 rfl 3 (by decide) tw_51 rfl (by decide +kernel) rfl rfl (Nat.le_of_ble_eq_true rfl) dC_receive_67 (fun H locs hP hD hS => ?_)
          have hP : va_P (dC, dI) vcl (zs_W o a b d cJ den rch pol 0 xp (nI n) str rdl rds off del arr ++ (zc_C c0 q v sv loc slw wst ++ (zp_W q r cB row ++ zc_S sv cS g))) H := hP
          have hD : va_D A (zs_W o a b d cJ den rch pol 0 xp (nI n) str rdl rds off del arr ++ (zc_C c0 q v sv loc slw wst ++ (zp_W q r cB row ++ zc_S sv cS g))) := hD
          refine lv_aload_n hx hb dC_receive_70 rfl (lv_at hl 1 rfl) ?_
          refine zz_getC hx hb hT hown hK hP 4 rfl 0 (by decide) tw_121 rfl dC_receive_71 ?_
          refine zz_call (va_runV (Ts := []) (As := []) (own := RC) ⟨hx, hb, hml, hown, fun _ h => nomatch h⟩ (ct_P_stratum l) (zt_cv hT tc_P_stratum tv_P_stratum tw_390 ⟨Nat.le_of_ble_eq_true rfl, Nat.le_of_ble_eq_true rfl⟩) (zz_preV (q0 := 0) hT (zq_Pl (zq_Pr (zq_Pr hP))) hK rfl rfl) rfl rfl hl.1 rfl (lv_room (Nat.le_of_ble_eq_true rfl)) dC_receive_74 ⟨Nat.zero_le _, Nat.zero_le _⟩) ?_
          refine zz_zne (tgt := 96) hx hb dC_receive_77 (by decide) (fun h5 => ?_) (fun h5 => ?_)
          · refine lv_aload_n hx hb dC_receive_96 rfl (lv_at hl 1 rfl) ?_
            refine zz_getC hx hb hT hown hK hP 4 rfl 0 (by decide) tw_121 rfl dC_receive_97 ?_
            refine zz_call (va_runV (Ts := []) (As := []) (own := RC) ⟨hx, hb, hml, hown, fun _ h => nomatch h⟩ (ct_P_isSynchronized l) (zt_cv hT tc_P_isSynchronized tv_P_isSynchronized tw_408 ⟨Nat.le_of_ble_eq_true rfl, Nat.le_of_ble_eq_true rfl⟩) (zz_preV (q0 := 0) hT (zq_Pl (zq_Pr (zq_Pr hP))) hK rfl rfl) rfl rfl hl.1 rfl (lv_room (Nat.le_of_ble_eq_true rfl)) dC_receive_100 ⟨Nat.zero_le _, Nat.zero_le _⟩) ?_
            refine zz_zne (tgt := 108) hx hb dC_receive_103 (by decide) (fun h6 => ?_) (fun h6 => ?_)
            · refine lv_aload_n hx hb dC_receive_108 rfl (lv_at hl 1 rfl) ?_
              refine lv_aload_n hx hb dC_receive_109 rfl (lv_at hl 0 rfl) ?_
              refine zq_call0 (va_runV (Ts := []) (As := [.ref o]) (own := RC) ⟨hx, hb, hml, hown, fun _ h => nomatch h⟩ (ct_C_takeTimes_wld l hk hg hwi) (zt_cv hT tc_C_takeTimes tv_C_takeTimes tw_413 ⟨Nat.le_of_ble_eq_true rfl, Nat.le_of_ble_eq_true rfl⟩) (zq_preV (q0 := 4) hT hP hK hD rfl rfl) rfl rfl hl.1 rfl (lv_room (Nat.le_of_ble_eq_true rfl)) dC_receive_110 ⟨Nat.zero_le _, Nat.zero_le _⟩) hP hD hS hA (fun H locs hP hD hS => ?_)
              have hP : va_P (dC, dI) vcl (zs_W o a b d cJ den rch pol 0 xp (nI n) str rdl rds off del arr ++ (zc_C c0 q v sv loc slw wst ++ (zp_W q r cB row ++ zc_S sv cS g))) H := hP
              have hD : va_D A (zs_W o a b d cJ den rch pol 0 xp (nI n) str rdl rds off del arr ++ (zc_C c0 q v sv loc slw wst ++ (zp_W q r cB row ++ zc_S sv cS g))) := hD
              refine W.eq (g2 := F0 m 113 ls [.int 3]) rfl ?_
              exact zq_iret hx hb hr hlocks dC_receive_113 (rfl) hAe hP hD hS
            · exact absurd h6 hy
          · exact absurd h5 hs0
        · exact absurd hd2 h4
  · exact absurd h1 ha
set_option maxHeartbeats 4000000 in
set_option maxRecDepth 100000 in
theorem ct_C_receive (l : Launch) {dC : Nat → ClassId} {dI : Nat → Nat → Nat} {cJ cI cB cZ cS : ClassId} {sz : Nat} {o a b d : Nat} {den rch pol exg str : Int32} {xp rdl rds : Int64} {off del arr : Nat → Int64} {n : Nat} {c0 q r v sv : Nat} {g : Nat → Option Nat} {loc slw : Int64} {wst : Int32} {row : Nat → Int32} {k : Nat} (hk : k < 5) (hg : g k = some o) (hn : n ≤ 8) (ha : ¬ zp_ans row = 0) (hd0 : den = 0) (hd1 : ¬ exg = 0) (hd2 : xp = zp_rd row 24 8) (hs0 : ¬ (row 1) &&& 255 = 0) (hy : ¬ zp_syn row = 0) (hwi : ¬ (zc_half ((zp_rd row 32 8) - xp) ((zp_rd row 40 8) - loc) < (-1152921504606846976) ∨ 1152921504606846976 < zc_half ((zp_rd row 32 8) - xp) ((zp_rd row 40 8) - loc) ∨ 1152921504606846976 < zn_max 4096 ((loc - xp) - ((zp_rd row 40 8) - (zp_rd row 32 8))))) : Met l yC_receive [Cond.code yC_receive cC_receive 3 (some .int)] { frames := 3, cells := 0, slots := 0, locals := 81 } (va_Pc [.ref c0, .int (nI k)] (zq_B (dC, dI) vcl (zz_T cJ cI cB cZ cS) (zs_W o a b d cJ den rch pol exg xp (nI n) str rdl rds off del arr ++ (zc_C c0 q v sv loc slw wst ++ (zp_W q r cB row ++ zc_S sv cS g))) sz)) (zq_Q (dC, dI) vcl (some (.int 0)) (zs_W o a b d cJ den rch pol exg xp (nI n) str rdl rds off del arr ++ (zc_C c0 q v sv loc slw wst ++ (zp_W q r cB row ++ zc_S sv cS g))) (zs_W o a b d cJ den (rch ||| 1) pol 0 xp (nI (zs_c8 n)) ((row 1) &&& 255) ((zp_rd row 4 4) * 65536) ((zp_rd row 8 4) * 65536) (zs_push off n (zc_half ((zp_rd row 32 8) - xp) ((zp_rd row 40 8) - loc))) (zs_push del n (zn_max 4096 ((loc - xp) - ((zp_rd row 40 8) - (zp_rd row 32 8))))) (zs_push arr n loc) ++ (zc_C c0 q v sv loc slw wst ++ (zp_W q r cB row ++ zc_S sv cS g))) sz) 0 0 (va_A (zs_W o a b d cJ den rch pol exg xp (nI n) str rdl rds off del arr ++ (zc_C c0 q v sv loc slw wst ++ (zp_W q r cB row ++ zc_S sv cS g))) sz) := by
  refine Met.ofW (cc := cC_receive) (maxL := 3) (ret := (some .int)) (by decide) rfl ?_
  intro p e s m args below meth c s₁ B hml hv
  obtain ⟨rfl, hsz, hT, hP, hK, hD0⟩ := hv
  subst hsz
  have hx := B.exec
  have hb := B.bytes
  have hr := B.returns
  have hlocks := B.notSynchronized
  have hown : s.vm.findClass RC = some m.cls := findClass_of_methodNamed B.named
  have hD := hD0.self (sz := s.heap.size)
  generalize hAe : va_A (zs_W o a b d cJ den rch pol exg xp (nI n) str rdl rds off del arr ++ (zc_C c0 q v sv loc slw wst ++ (zp_W q r cB row ++ zc_S sv cS g))) s.heap.size = A at hD ⊢
  have hA : ∀ q : Nat, s.heap.size ≤ q → A q := fun q h => by rw [← hAe]; exact Or.inr h
  have hS : va_S A s.heap s.heap [] := va_S.rf
  have hl := lv_entry ([.ref c0, .int (nI k)]) (n := 3) (Nat.le_of_ble_eq_true rfl)
  rw [lg_entry_eq]
  generalize (lg_sl ([.ref c0, .int (nI k)]) ++ List.replicate (3 - (lg_sl ([.ref c0, .int (nI k)])).length) Slot.unset).toArray = ls at hl ⊢
  have hl : lv_has ls 3 [(0, .ref c0), (1, .int (nI k))] := hl
  refine lv_aload_n hx hb dC_receive_0 rfl (lv_at hl 0 rfl) ?_
  refine lv_iload_n hx hb dC_receive_1 rfl (lv_at hl 1 rfl) ?_
  refine zz_call (va_runV (Ts := []) (As := [.int (nI k)]) (own := RC) ⟨hx, hb, hml, hown, fun _ h => nomatch h⟩ (ct_C_serverAt l hk hg) (zt_cv hT tc_C_serverAt tv_C_serverAt tw_343 ⟨Nat.le_of_ble_eq_true rfl, Nat.le_of_ble_eq_true rfl⟩) (zz_preV (q0 := 4) hT hP hK rfl rfl) rfl rfl hl.1 rfl (lv_room (Nat.le_of_ble_eq_true rfl)) dC_receive_2 ⟨Nat.zero_le _, Nat.zero_le _⟩) ?_
  refine lv_astore_n (lv' := [(2, .ref o), (0, .ref c0), (1, .int (nI k))]) hx hb dC_receive_5 rfl hl (by decide) rfl (fun ls hl => ?_)
  refine lv_aload_n hx hb dC_receive_6 rfl (lv_at hl 1 rfl) ?_
  refine zz_getC hx hb hT hown hK hP 4 rfl 0 (by decide) tw_121 rfl dC_receive_7 ?_
  refine zz_call (va_runV (Ts := []) (As := []) (own := RC) ⟨hx, hb, hml, hown, fun _ h => nomatch h⟩ (ct_P_isAnswer l) (zt_cv hT tc_P_isAnswer tv_P_isAnswer tw_381 ⟨Nat.le_of_ble_eq_true rfl, Nat.le_of_ble_eq_true rfl⟩) (zz_preV (q0 := 0) hT (zq_Pl (zq_Pr (zq_Pr hP))) hK rfl rfl) rfl rfl hl.1 rfl (lv_room (Nat.le_of_ble_eq_true rfl)) dC_receive_10 ⟨Nat.zero_le _, Nat.zero_le _⟩) ?_
  refine zz_zne (tgt := 24) hx hb dC_receive_13 (by decide) (fun h1 => ?_) (fun h1 => ?_)
  · refine lv_aload_n hx hb dC_receive_24 rfl (lv_at hl 0 rfl) ?_
    refine zz_getS hx hb hT hown hK hP 0 rfl 0 (by decide) tw_43 rfl dC_receive_25 ?_
    refine zz_zne (tgt := 57) hx hb dC_receive_28 (by decide) (fun h2 => ?_) (fun h2 => ?_)
    · exact absurd hd0 h2
    · refine lv_aload_n hx hb dC_receive_31 rfl (lv_at hl 0 rfl) ?_
      refine zz_getS hx hb hT hown hK hP 0 rfl 3 (by decide) tw_51 rfl dC_receive_32 ?_
      refine zz_zeq (tgt := 57) hx hb dC_receive_35 (by decide) (fun h3 => ?_) (fun h3 => ?_)
      · exact absurd h3 hd1
      · refine lv_aload_n hx hb dC_receive_38 rfl (lv_at hl 0 rfl) ?_
        refine zz_getS hx hb hT hown hK hP 0 rfl 4 (by decide) tw_53 rfl dC_receive_39 ?_
        refine lv_aload_n hx hb dC_receive_42 rfl (lv_at hl 1 rfl) ?_
        refine zz_getC hx hb hT hown hK hP 4 rfl 0 (by decide) tw_121 rfl dC_receive_43 ?_
        refine lv_bipush (v := 24) hx hb dC_receive_46 (by decide) ?_
        refine lv_bipush (v := 8) hx hb dC_receive_48 (by decide) ?_
        refine zz_call (va_runV (Ts := []) (As := [.int 24, .int 8]) (own := RC) ⟨hx, hb, hml, hown, fun _ h => nomatch h⟩ (ct_P_read l (u := 24) (n := 8) (by first | decide | omega)) (zt_cv hT tc_P_read tv_P_read tw_389 ⟨Nat.le_of_ble_eq_true rfl, Nat.le_of_ble_eq_true rfl⟩) (zz_preV (q0 := 0) hT (zq_Pl (zq_Pr (zq_Pr hP))) hK rfl rfl) rfl rfl hl.1 rfl (lv_room (Nat.le_of_ble_eq_true rfl)) dC_receive_50 ⟨Nat.zero_le _, Nat.zero_le _⟩) ?_
        refine zz_leq (tgt := 65) hx hb dC_receive_53 dC_receive_54 (by decide) (fun h4 => ?_) (fun h4 => ?_)
        · refine lv_aload_n hx hb dC_receive_65 rfl (lv_at hl 0 rfl) ?_
          refine lv_iconst (v := 0) hx hb dC_receive_66 (by decide) ?_
          refine zz_putS (ty := .boolean) hx hb hT hown hK hP hD hS 0 rfl 3 (by decide) tw_51 rfl (by decide +kernel) rfl rfl (Nat.le_of_ble_eq_true rfl) dC_receive_67 (fun H locs hP hD hS => ?_)
          have hP : va_P (dC, dI) vcl (zs_W o a b d cJ den rch pol 0 xp (nI n) str rdl rds off del arr ++ (zc_C c0 q v sv loc slw wst ++ (zp_W q r cB row ++ zc_S sv cS g))) H := hP
          have hD : va_D A (zs_W o a b d cJ den rch pol 0 xp (nI n) str rdl rds off del arr ++ (zc_C c0 q v sv loc slw wst ++ (zp_W q r cB row ++ zc_S sv cS g))) := hD
          refine lv_aload_n hx hb dC_receive_70 rfl (lv_at hl 1 rfl) ?_
          refine zz_getC hx hb hT hown hK hP 4 rfl 0 (by decide) tw_121 rfl dC_receive_71 ?_
          refine zz_call (va_runV (Ts := []) (As := []) (own := RC) ⟨hx, hb, hml, hown, fun _ h => nomatch h⟩ (ct_P_stratum l) (zt_cv hT tc_P_stratum tv_P_stratum tw_390 ⟨Nat.le_of_ble_eq_true rfl, Nat.le_of_ble_eq_true rfl⟩) (zz_preV (q0 := 0) hT (zq_Pl (zq_Pr (zq_Pr hP))) hK rfl rfl) rfl rfl hl.1 rfl (lv_room (Nat.le_of_ble_eq_true rfl)) dC_receive_74 ⟨Nat.zero_le _, Nat.zero_le _⟩) ?_
          refine zz_zne (tgt := 96) hx hb dC_receive_77 (by decide) (fun h5 => ?_) (fun h5 => ?_)
          · refine lv_aload_n hx hb dC_receive_96 rfl (lv_at hl 1 rfl) ?_
            refine zz_getC hx hb hT hown hK hP 4 rfl 0 (by decide) tw_121 rfl dC_receive_97 ?_
            refine zz_call (va_runV (Ts := []) (As := []) (own := RC) ⟨hx, hb, hml, hown, fun _ h => nomatch h⟩ (ct_P_isSynchronized l) (zt_cv hT tc_P_isSynchronized tv_P_isSynchronized tw_408 ⟨Nat.le_of_ble_eq_true rfl, Nat.le_of_ble_eq_true rfl⟩) (zz_preV (q0 := 0) hT (zq_Pl (zq_Pr (zq_Pr hP))) hK rfl rfl) rfl rfl hl.1 rfl (lv_room (Nat.le_of_ble_eq_true rfl)) dC_receive_100 ⟨Nat.zero_le _, Nat.zero_le _⟩) ?_
            refine zz_zne (tgt := 108) hx hb dC_receive_103 (by decide) (fun h6 => ?_) (fun h6 => ?_)
            · refine lv_aload_n hx hb dC_receive_108 rfl (lv_at hl 1 rfl) ?_
              refine lv_aload_n hx hb dC_receive_109 rfl (lv_at hl 0 rfl) ?_
              refine zq_call0 (va_runV (Ts := []) (As := [.ref o]) (own := RC) ⟨hx, hb, hml, hown, fun _ h => nomatch h⟩ (ct_C_takeTimes l hk hg hn hwi) (zt_cv hT tc_C_takeTimes tv_C_takeTimes tw_413 ⟨Nat.le_of_ble_eq_true rfl, Nat.le_of_ble_eq_true rfl⟩) (zq_preV (q0 := 4) hT hP hK hD rfl rfl) rfl rfl hl.1 rfl (lv_room (Nat.le_of_ble_eq_true rfl)) dC_receive_110 ⟨Nat.zero_le _, Nat.zero_le _⟩) hP hD hS hA (fun H locs hP hD hS => ?_)
              have hP : va_P (dC, dI) vcl (zs_W o a b d cJ den (rch ||| 1) pol 0 xp (nI (zs_c8 n)) ((row 1) &&& 255) ((zp_rd row 4 4) * 65536) ((zp_rd row 8 4) * 65536) (zs_push off n (zc_half ((zp_rd row 32 8) - xp) ((zp_rd row 40 8) - loc))) (zs_push del n (zn_max 4096 ((loc - xp) - ((zp_rd row 40 8) - (zp_rd row 32 8))))) (zs_push arr n loc) ++ (zc_C c0 q v sv loc slw wst ++ (zp_W q r cB row ++ zc_S sv cS g))) H := hP
              have hD : va_D A (zs_W o a b d cJ den (rch ||| 1) pol 0 xp (nI (zs_c8 n)) ((row 1) &&& 255) ((zp_rd row 4 4) * 65536) ((zp_rd row 8 4) * 65536) (zs_push off n (zc_half ((zp_rd row 32 8) - xp) ((zp_rd row 40 8) - loc))) (zs_push del n (zn_max 4096 ((loc - xp) - ((zp_rd row 40 8) - (zp_rd row 32 8))))) (zs_push arr n loc) ++ (zc_C c0 q v sv loc slw wst ++ (zp_W q r cB row ++ zc_S sv cS g))) := hD
              refine W.eq (g2 := F0 m 113 ls [.int 0]) rfl ?_
              exact zq_iret hx hb hr hlocks dC_receive_113 (rfl) hAe hP hD hS
            · exact absurd h6 hy
          · exact absurd h5 hs0
        · exact absurd hd2 h4
  · exact absurd h1 ha
