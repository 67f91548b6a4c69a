/-! The client: candidates, low, high, survivors, peer, stepBy -/
set_option maxHeartbeats 4000000 in
set_option maxRecDepth 100000 in
theorem ct_C_candidates (l : Launch) {dC : Nat → ClassId} {dI : Nat → Nat → Nat} {cJ cI cB cZ cS : ClassId} {sz : Nat} {v a b : Nat} {cand surv : Int32} {low high : Int64} {vo vd : Nat → Int64} {sv : Nat} {so sa sb sd : Nat → Nat} {den rch pol exg str : Nat → Int32} {xp rdl rds : Nat → Int64} {nn : Nat → Nat} {off del arr : Nat → Nat → Int64} {c0 q : Nat} {loc slw : Int64} {wst : Int32} (hn : ∀ k, nn k ≤ 8) : Met l yC_candidates [Cond.code yC_candidates cC_candidates 1 (some .int)] { frames := 6, cells := 0, slots := 0, locals := 145 } (va_Pc [.ref c0] (zq_B (dC, dI) vcl (zz_T cJ cI cB cZ cS) ((zv_W v a b cJ cand low high surv vo vd ++ zw_A sv cS cJ so sa sb sd den rch pol exg xp nn str rdl rds off del arr) ++ zc_C c0 q v sv loc slw wst) sz)) (zq_Q (dC, dI) vcl (some (.int (zv_cd den rch nn rdl rds off del arr loc 5))) ((zv_W v a b cJ cand low high surv vo vd ++ zw_A sv cS cJ so sa sb sd den rch pol exg xp nn str rdl rds off del arr) ++ zc_C c0 q v sv loc slw wst) ((zv_W v a b cJ (zv_cd den rch nn rdl rds off del arr loc 5) (zv_lo (zv_cd den rch nn rdl rds off del arr loc 5) (zv_vo den rch nn off del arr loc vo 5) (zv_vd den rch nn rdl rds off del arr loc vd 5) 5) (zv_hi (zv_cd den rch nn rdl rds off del arr loc 5) (zv_vo den rch nn off del arr loc vo 5) (zv_vd den rch nn rdl rds off del arr loc vd 5) 5) (zv_fin (zv_cd den rch nn rdl rds off del arr loc 5) (zv_lo (zv_cd den rch nn rdl rds off del arr loc 5) (zv_vo den rch nn off del arr loc vo 5) (zv_vd den rch nn rdl rds off del arr loc vd 5) 5) (zv_hi (zv_cd den rch nn rdl rds off del arr loc 5) (zv_vo den rch nn off del arr loc vo 5) (zv_vd den rch nn rdl rds off del arr loc vd 5) 5) (zv_vo den rch nn off del arr loc vo 5)) (zv_vo den rch nn off del arr loc vo 5) (zv_vd den rch nn rdl rds off del arr loc vd 5) ++ zw_A sv cS cJ so sa sb sd den rch pol exg xp nn str rdl rds off del arr) ++ zc_C c0 q v sv loc slw wst) sz) 0 0 (va_A ((zv_W v a b cJ cand low high surv vo vd ++ zw_A sv cS cJ so sa sb sd den rch pol exg xp nn str rdl rds off del arr) ++ zc_C c0 q v sv loc slw wst) sz) := by
  refine Met.ofW (cc := cC_candidates) (maxL := 1) (ret := (some .int)) (by decide) rfl ?_
  intro p e s m args below meth c s₁ B hml hv
  obtain ⟨rfl, hsz, hT, hP, hK, hD0⟩ := hv
  subst hsz
  have hx := B.exec
  have hb := B.bytes
  have hr := B.returns
  have hlocks := B.notSynchronized
  have hown : s.vm.findClass RC = some m.cls := findClass_of_methodNamed B.named
  have hD := hD0.self (sz := s.heap.size)
  generalize hAe : va_A ((zv_W v a b cJ cand low high surv vo vd ++ zw_A sv cS cJ so sa sb sd den rch pol exg xp nn str rdl rds off del arr) ++ zc_C c0 q v sv loc slw wst) s.heap.size = A at hD ⊢
  have hA : ∀ q : Nat, s.heap.size ≤ q → A q := fun q h => by rw [← hAe]; exact Or.inr h
  have hS : va_S A s.heap s.heap [] := va_S.rf
  have hl := lv_entry ([.ref c0]) (n := 1) (Nat.le_of_ble_eq_true rfl)
  rw [lg_entry_eq]
  generalize (lg_sl ([.ref c0]) ++ List.replicate (1 - (lg_sl ([.ref c0])).length) Slot.unset).toArray = ls at hl ⊢
  have hl : lv_has ls 1 [(0, .ref c0)] := hl
  refine lv_aload_n hx hb dC_candidates_0 rfl (lv_at hl 0 rfl) ?_
  refine zz_getC hx hb hT hown hK hP 24 rfl 2 (by decide) tw_123 rfl dC_candidates_1 ?_
  refine lv_aload_n hx hb dC_candidates_4 rfl (lv_at hl 0 rfl) ?_
  refine zz_getC hx hb hT hown hK hP 24 rfl 1 (by decide) tw_122 rfl dC_candidates_5 ?_
  refine lv_aload_n hx hb dC_candidates_8 rfl (lv_at hl 0 rfl) ?_
  refine zz_getC hx hb hT hown hK hP 24 rfl 3 (by decide) tw_124 rfl dC_candidates_9 ?_
  refine zq_call (va_runV (Ts := []) (As := [.ref sv, .long loc]) (own := RC) ⟨hx, hb, hml, hown, fun _ h => nomatch h⟩ (ct_V_hold l hn) (zt_cv hT tc_V_hold tv_V_hold tw_152 ⟨Nat.le_of_ble_eq_true rfl, Nat.le_of_ble_eq_true rfl⟩) (zq_preV (q0 := 0) hT (zq_Pl hP) hK (zq_Dl hD) rfl rfl) rfl rfl hl.1 rfl (lv_room (Nat.le_of_ble_eq_true rfl)) dC_candidates_12 ⟨Nat.zero_le _, Nat.zero_le _⟩) hP hD hS hA (fun H locs hP hD hS => ?_)
  have hP : va_P (dC, dI) vcl ((zv_W v a b cJ (zv_cd den rch nn rdl rds off del arr loc 5) (zv_lo (zv_cd den rch nn rdl rds off del arr loc 5) (zv_vo den rch nn off del arr loc vo 5) (zv_vd den rch nn rdl rds off del arr loc vd 5) 5) (zv_hi (zv_cd den rch nn rdl rds off del arr loc 5) (zv_vo den rch nn off del arr loc vo 5) (zv_vd den rch nn rdl rds off del arr loc vd 5) 5) (zv_fin (zv_cd den rch nn rdl rds off del arr loc 5) (zv_lo (zv_cd den rch nn rdl rds off del arr loc 5) (zv_vo den rch nn off del arr loc vo 5) (zv_vd den rch nn rdl rds off del arr loc vd 5) 5) (zv_hi (zv_cd den rch nn rdl rds off del arr loc 5) (zv_vo den rch nn off del arr loc vo 5) (zv_vd den rch nn rdl rds off del arr loc vd 5) 5) (zv_vo den rch nn off del arr loc vo 5)) (zv_vo den rch nn off del arr loc vo 5) (zv_vd den rch nn rdl rds off del arr loc vd 5) ++ zw_A sv cS cJ so sa sb sd den rch pol exg xp nn str rdl rds off del arr) ++ zc_C c0 q v sv loc slw wst) H := hP
  have hD : va_D A ((zv_W v a b cJ (zv_cd den rch nn rdl rds off del arr loc 5) (zv_lo (zv_cd den rch nn rdl rds off del arr loc 5) (zv_vo den rch nn off del arr loc vo 5) (zv_vd den rch nn rdl rds off del arr loc vd 5) 5) (zv_hi (zv_cd den rch nn rdl rds off del arr loc 5) (zv_vo den rch nn off del arr loc vo 5) (zv_vd den rch nn rdl rds off del arr loc vd 5) 5) (zv_fin (zv_cd den rch nn rdl rds off del arr loc 5) (zv_lo (zv_cd den rch nn rdl rds off del arr loc 5) (zv_vo den rch nn off del arr loc vo 5) (zv_vd den rch nn rdl rds off del arr loc vd 5) 5) (zv_hi (zv_cd den rch nn rdl rds off del arr loc 5) (zv_vo den rch nn off del arr loc vo 5) (zv_vd den rch nn rdl rds off del arr loc vd 5) 5) (zv_vo den rch nn off del arr loc vo 5)) (zv_vo den rch nn off del arr loc vo 5) (zv_vd den rch nn rdl rds off del arr loc vd 5) ++ zw_A sv cS cJ so sa sb sd den rch pol exg xp nn str rdl rds off del arr) ++ zc_C c0 q v sv loc slw wst) := hD
  refine W.eq (g2 := F0 m 15 ls []) rfl ?_
  refine lv_aload_n hx hb dC_candidates_15 rfl (lv_at hl 0 rfl) ?_
  refine zz_getC hx hb hT hown hK hP 24 rfl 2 (by decide) tw_123 rfl dC_candidates_16 ?_
  refine zz_getV hx hb hT hown hK hP 0 rfl 0 (by decide) tw_99 rfl dC_candidates_19 ?_
  exact zq_iret hx hb hr hlocks dC_candidates_22 (rfl) hAe hP hD hS
set_option maxHeartbeats 4000000 in
set_option maxRecDepth 100000 in
theorem ct_C_survivors (l : Launch) {dC : Nat → ClassId} {dI : Nat → Nat → Nat} {cJ cI cB cZ cS : ClassId} {sz : Nat} {v a b : Nat} {cand surv : Int32} {low high : Int64} {vo vd : Nat → Int64} {sv : Nat} {so sa sb sd : Nat → Nat} {den rch pol exg str : Nat → Int32} {xp rdl rds : Nat → Int64} {nn : Nat → Nat} {off del arr : Nat → Nat → Int64} {c0 q : Nat} {loc slw : Int64} {wst : Int32} (hn : ∀ k, nn k ≤ 8) : Met l yC_survivors [Cond.code yC_survivors cC_survivors 1 (some .int)] { frames := 6, cells := 0, slots := 0, locals := 145 } (va_Pc [.ref c0] (zq_B (dC, dI) vcl (zz_T cJ cI cB cZ cS) ((zv_W v a b cJ cand low high surv vo vd ++ zw_A sv cS cJ so sa sb sd den rch pol exg xp nn str rdl rds off del arr) ++ zc_C c0 q v sv loc slw wst) sz)) (zq_Q (dC, dI) vcl (some (.int (zv_fin (zv_cd den rch nn rdl rds off del arr loc 5) (zv_lo (zv_cd den rch nn rdl rds off del arr loc 5) (zv_vo den rch nn off del arr loc vo 5) (zv_vd den rch nn rdl rds off del arr loc vd 5) 5) (zv_hi (zv_cd den rch nn rdl rds off del arr loc 5) (zv_vo den rch nn off del arr loc vo 5) (zv_vd den rch nn rdl rds off del arr loc vd 5) 5) (zv_vo den rch nn off del arr loc vo 5)))) ((zv_W v a b cJ cand low high surv vo vd ++ zw_A sv cS cJ so sa sb sd den rch pol exg xp nn str rdl rds off del arr) ++ zc_C c0 q v sv loc slw wst) ((zv_W v a b cJ (zv_cd den rch nn rdl rds off del arr loc 5) (zv_lo (zv_cd den rch nn rdl rds off del arr loc 5) (zv_vo den rch nn off del arr loc vo 5) (zv_vd den rch nn rdl rds off del arr loc vd 5) 5) (zv_hi (zv_cd den rch nn rdl rds off del arr loc 5) (zv_vo den rch nn off del arr loc vo 5) (zv_vd den rch nn rdl rds off del arr loc vd 5) 5) (zv_fin (zv_cd den rch nn rdl rds off del arr loc 5) (zv_lo (zv_cd den rch nn rdl rds off del arr loc 5) (zv_vo den rch nn off del arr loc vo 5) (zv_vd den rch nn rdl rds off del arr loc vd 5) 5) (zv_hi (zv_cd den rch nn rdl rds off del arr loc 5) (zv_vo den rch nn off del arr loc vo 5) (zv_vd den rch nn rdl rds off del arr loc vd 5) 5) (zv_vo den rch nn off del arr loc vo 5)) (zv_vo den rch nn off del arr loc vo 5) (zv_vd den rch nn rdl rds off del arr loc vd 5) ++ zw_A sv cS cJ so sa sb sd den rch pol exg xp nn str rdl rds off del arr) ++ zc_C c0 q v sv loc slw wst) sz) 0 0 (va_A ((zv_W v a b cJ cand low high surv vo vd ++ zw_A sv cS cJ so sa sb sd den rch pol exg xp nn str rdl rds off del arr) ++ zc_C c0 q v sv loc slw wst) sz) := by
  refine Met.ofW (cc := cC_survivors) (maxL := 1) (ret := (some .int)) (by decide) rfl ?_
  intro p e s m args below meth c s₁ B hml hv
  obtain ⟨rfl, hsz, hT, hP, hK, hD0⟩ := hv
  subst hsz
  have hx := B.exec
  have hb := B.bytes
  have hr := B.returns
  have hlocks := B.notSynchronized
  have hown : s.vm.findClass RC = some m.cls := findClass_of_methodNamed B.named
  have hD := hD0.self (sz := s.heap.size)
  generalize hAe : va_A ((zv_W v a b cJ cand low high surv vo vd ++ zw_A sv cS cJ so sa sb sd den rch pol exg xp nn str rdl rds off del arr) ++ zc_C c0 q v sv loc slw wst) s.heap.size = A at hD ⊢
  have hA : ∀ q : Nat, s.heap.size ≤ q → A q := fun q h => by rw [← hAe]; exact Or.inr h
  have hS : va_S A s.heap s.heap [] := va_S.rf
  have hl := lv_entry ([.ref c0]) (n := 1) (Nat.le_of_ble_eq_true rfl)
  rw [lg_entry_eq]
  generalize (lg_sl ([.ref c0]) ++ List.replicate (1 - (lg_sl ([.ref c0])).length) Slot.unset).toArray = ls at hl ⊢
  have hl : lv_has ls 1 [(0, .ref c0)] := hl
  refine lv_aload_n hx hb dC_survivors_0 rfl (lv_at hl 0 rfl) ?_
  refine zz_getC hx hb hT hown hK hP 24 rfl 2 (by decide) tw_123 rfl dC_survivors_1 ?_
  refine lv_aload_n hx hb dC_survivors_4 rfl (lv_at hl 0 rfl) ?_
  refine zz_getC hx hb hT hown hK hP 24 rfl 1 (by decide) tw_122 rfl dC_survivors_5 ?_
  refine lv_aload_n hx hb dC_survivors_8 rfl (lv_at hl 0 rfl) ?_
  refine zz_getC hx hb hT hown hK hP 24 rfl 3 (by decide) tw_124 rfl dC_survivors_9 ?_
  refine zq_call (va_runV (Ts := []) (As := [.ref sv, .long loc]) (own := RC) ⟨hx, hb, hml, hown, fun _ h => nomatch h⟩ (ct_V_hold l hn) (zt_cv hT tc_V_hold tv_V_hold tw_152 ⟨Nat.le_of_ble_eq_true rfl, Nat.le_of_ble_eq_true rfl⟩) (zq_preV (q0 := 0) hT (zq_Pl hP) hK (zq_Dl hD) rfl rfl) rfl rfl hl.1 rfl (lv_room (Nat.le_of_ble_eq_true rfl)) dC_survivors_12 ⟨Nat.zero_le _, Nat.zero_le _⟩) hP hD hS hA (fun H locs hP hD hS => ?_)
  have hP : va_P (dC, dI) vcl ((zv_W v a b cJ (zv_cd den rch nn rdl rds off del arr loc 5) (zv_lo (zv_cd den rch nn rdl rds off del arr loc 5) (zv_vo den rch nn off del arr loc vo 5) (zv_vd den rch nn rdl rds off del arr loc vd 5) 5) (zv_hi (zv_cd den rch nn rdl rds off del arr loc 5) (zv_vo den rch nn off del arr loc vo 5) (zv_vd den rch nn rdl rds off del arr loc vd 5) 5) (zv_fin (zv_cd den rch nn rdl rds off del arr loc 5) (zv_lo (zv_cd den rch nn rdl rds off del arr loc 5) (zv_vo den rch nn off del arr loc vo 5) (zv_vd den rch nn rdl rds off del arr loc vd 5) 5) (zv_hi (zv_cd den rch nn rdl rds off del arr loc 5) (zv_vo den rch nn off del arr loc vo 5) (zv_vd den rch nn rdl rds off del arr loc vd 5) 5) (zv_vo den rch nn off del arr loc vo 5)) (zv_vo den rch nn off del arr loc vo 5) (zv_vd den rch nn rdl rds off del arr loc vd 5) ++ zw_A sv cS cJ so sa sb sd den rch pol exg xp nn str rdl rds off del arr) ++ zc_C c0 q v sv loc slw wst) H := hP
  have hD : va_D A ((zv_W v a b cJ (zv_cd den rch nn rdl rds off del arr loc 5) (zv_lo (zv_cd den rch nn rdl rds off del arr loc 5) (zv_vo den rch nn off del arr loc vo 5) (zv_vd den rch nn rdl rds off del arr loc vd 5) 5) (zv_hi (zv_cd den rch nn rdl rds off del arr loc 5) (zv_vo den rch nn off del arr loc vo 5) (zv_vd den rch nn rdl rds off del arr loc vd 5) 5) (zv_fin (zv_cd den rch nn rdl rds off del arr loc 5) (zv_lo (zv_cd den rch nn rdl rds off del arr loc 5) (zv_vo den rch nn off del arr loc vo 5) (zv_vd den rch nn rdl rds off del arr loc vd 5) 5) (zv_hi (zv_cd den rch nn rdl rds off del arr loc 5) (zv_vo den rch nn off del arr loc vo 5) (zv_vd den rch nn rdl rds off del arr loc vd 5) 5) (zv_vo den rch nn off del arr loc vo 5)) (zv_vo den rch nn off del arr loc vo 5) (zv_vd den rch nn rdl rds off del arr loc vd 5) ++ zw_A sv cS cJ so sa sb sd den rch pol exg xp nn str rdl rds off del arr) ++ zc_C c0 q v sv loc slw wst) := hD
  refine W.eq (g2 := F0 m 15 ls []) rfl ?_
  refine lv_aload_n hx hb dC_survivors_15 rfl (lv_at hl 0 rfl) ?_
  refine zz_getC hx hb hT hown hK hP 24 rfl 2 (by decide) tw_123 rfl dC_survivors_16 ?_
  refine zz_getV hx hb hT hown hK hP 0 rfl 3 (by decide) tw_105 rfl dC_survivors_19 ?_
  exact zq_iret hx hb hr hlocks dC_survivors_22 (rfl) hAe hP hD hS
set_option maxHeartbeats 4000000 in
set_option maxRecDepth 100000 in
theorem ct_C_low (l : Launch) {dC : Nat → ClassId} {dI : Nat → Nat → Nat} {cJ cI cB cZ cS : ClassId} {sz : Nat} {v a b : Nat} {cand surv : Int32} {low high : Int64} {vo vd : Nat → Int64} {sv : Nat} {so sa sb sd : Nat → Nat} {den rch pol exg str : Nat → Int32} {xp rdl rds : Nat → Int64} {nn : Nat → Nat} {off del arr : Nat → Nat → Int64} {c0 q : Nat} {loc slw : Int64} {wst : Int32} (hn : ∀ k, nn k ≤ 8) (hm : ¬ zv_maj (zv_lo (zv_cd den rch nn rdl rds off del arr loc 5) (zv_vo den rch nn off del arr loc vo 5) (zv_vd den rch nn rdl rds off del arr loc vd 5) 5) (zv_hi (zv_cd den rch nn rdl rds off del arr loc 5) (zv_vo den rch nn off del arr loc vo 5) (zv_vd den rch nn rdl rds off del arr loc vd 5) 5) = 0) : Met l yC_low [Cond.code yC_low cC_low 1 (some .long)] { frames := 6, cells := 0, slots := 0, locals := 145 } (va_Pc [.ref c0] (zq_B (dC, dI) vcl (zz_T cJ cI cB cZ cS) ((zv_W v a b cJ cand low high surv vo vd ++ zw_A sv cS cJ so sa sb sd den rch pol exg xp nn str rdl rds off del arr) ++ zc_C c0 q v sv loc slw wst) sz)) (zq_Q (dC, dI) vcl (some (.long (zv_lo (zv_cd den rch nn rdl rds off del arr loc 5) (zv_vo den rch nn off del arr loc vo 5) (zv_vd den rch nn rdl rds off del arr loc vd 5) 5))) ((zv_W v a b cJ cand low high surv vo vd ++ zw_A sv cS cJ so sa sb sd den rch pol exg xp nn str rdl rds off del arr) ++ zc_C c0 q v sv loc slw wst) ((zv_W v a b cJ (zv_cd den rch nn rdl rds off del arr loc 5) (zv_lo (zv_cd den rch nn rdl rds off del arr loc 5) (zv_vo den rch nn off del arr loc vo 5) (zv_vd den rch nn rdl rds off del arr loc vd 5) 5) (zv_hi (zv_cd den rch nn rdl rds off del arr loc 5) (zv_vo den rch nn off del arr loc vo 5) (zv_vd den rch nn rdl rds off del arr loc vd 5) 5) (zv_fin (zv_cd den rch nn rdl rds off del arr loc 5) (zv_lo (zv_cd den rch nn rdl rds off del arr loc 5) (zv_vo den rch nn off del arr loc vo 5) (zv_vd den rch nn rdl rds off del arr loc vd 5) 5) (zv_hi (zv_cd den rch nn rdl rds off del arr loc 5) (zv_vo den rch nn off del arr loc vo 5) (zv_vd den rch nn rdl rds off del arr loc vd 5) 5) (zv_vo den rch nn off del arr loc vo 5)) (zv_vo den rch nn off del arr loc vo 5) (zv_vd den rch nn rdl rds off del arr loc vd 5) ++ zw_A sv cS cJ so sa sb sd den rch pol exg xp nn str rdl rds off del arr) ++ zc_C c0 q v sv loc slw wst) sz) 0 0 (va_A ((zv_W v a b cJ cand low high surv vo vd ++ zw_A sv cS cJ so sa sb sd den rch pol exg xp nn str rdl rds off del arr) ++ zc_C c0 q v sv loc slw wst) sz) := by
  refine Met.ofW (cc := cC_low) (maxL := 1) (ret := (some .long)) (by decide) rfl ?_
  intro p e s m args below meth c s₁ B hml hv
  obtain ⟨rfl, hsz, hT, hP, hK, hD0⟩ := hv
  subst hsz
  have hx := B.exec
  have hb := B.bytes
  have hr := B.returns
  have hlocks := B.notSynchronized
  have hown : s.vm.findClass RC = some m.cls := findClass_of_methodNamed B.named
  have hD := hD0.self (sz := s.heap.size)
  generalize hAe : va_A ((zv_W v a b cJ cand low high surv vo vd ++ zw_A sv cS cJ so sa sb sd den rch pol exg xp nn str rdl rds off del arr) ++ zc_C c0 q v sv loc slw wst) s.heap.size = A at hD ⊢
  have hA : ∀ q : Nat, s.heap.size ≤ q → A q := fun q h => by rw [← hAe]; exact Or.inr h
  have hS : va_S A s.heap s.heap [] := va_S.rf
  have hl := lv_entry ([.ref c0]) (n := 1) (Nat.le_of_ble_eq_true rfl)
  rw [lg_entry_eq]
  generalize (lg_sl ([.ref c0]) ++ List.replicate (1 - (lg_sl ([.ref c0])).length) Slot.unset).toArray = ls at hl ⊢
  have hl : lv_has ls 1 [(0, .ref c0)] := hl
  refine lv_aload_n hx hb dC_low_0 rfl (lv_at hl 0 rfl) ?_
  refine zz_getC hx hb hT hown hK hP 24 rfl 2 (by decide) tw_123 rfl dC_low_1 ?_
  refine lv_aload_n hx hb dC_low_4 rfl (lv_at hl 0 rfl) ?_
  refine zz_getC hx hb hT hown hK hP 24 rfl 1 (by decide) tw_122 rfl dC_low_5 ?_
  refine lv_aload_n hx hb dC_low_8 rfl (lv_at hl 0 rfl) ?_
  refine zz_getC hx hb hT hown hK hP 24 rfl 3 (by decide) tw_124 rfl dC_low_9 ?_
  refine zq_call (va_runV (Ts := []) (As := [.ref sv, .long loc]) (own := RC) ⟨hx, hb, hml, hown, fun _ h => nomatch h⟩ (ct_V_hold l hn) (zt_cv hT tc_V_hold tv_V_hold tw_152 ⟨Nat.le_of_ble_eq_true rfl, Nat.le_of_ble_eq_true rfl⟩) (zq_preV (q0 := 0) hT (zq_Pl hP) hK (zq_Dl hD) rfl rfl) rfl rfl hl.1 rfl (lv_room (Nat.le_of_ble_eq_true rfl)) dC_low_12 ⟨Nat.zero_le _, Nat.zero_le _⟩) hP hD hS hA (fun H locs hP hD hS => ?_)
  have hP : va_P (dC, dI) vcl ((zv_W v a b cJ (zv_cd den rch nn rdl rds off del arr loc 5) (zv_lo (zv_cd den rch nn rdl rds off del arr loc 5) (zv_vo den rch nn off del arr loc vo 5) (zv_vd den rch nn rdl rds off del arr loc vd 5) 5) (zv_hi (zv_cd den rch nn rdl rds off del arr loc 5) (zv_vo den rch nn off del arr loc vo 5) (zv_vd den rch nn rdl rds off del arr loc vd 5) 5) (zv_fin (zv_cd den rch nn rdl rds off del arr loc 5) (zv_lo (zv_cd den rch nn rdl rds off del arr loc 5) (zv_vo den rch nn off del arr loc vo 5) (zv_vd den rch nn rdl rds off del arr loc vd 5) 5) (zv_hi (zv_cd den rch nn rdl rds off del arr loc 5) (zv_vo den rch nn off del arr loc vo 5) (zv_vd den rch nn rdl rds off del arr loc vd 5) 5) (zv_vo den rch nn off del arr loc vo 5)) (zv_vo den rch nn off del arr loc vo 5) (zv_vd den rch nn rdl rds off del arr loc vd 5) ++ zw_A sv cS cJ so sa sb sd den rch pol exg xp nn str rdl rds off del arr) ++ zc_C c0 q v sv loc slw wst) H := hP
  have hD : va_D A ((zv_W v a b cJ (zv_cd den rch nn rdl rds off del arr loc 5) (zv_lo (zv_cd den rch nn rdl rds off del arr loc 5) (zv_vo den rch nn off del arr loc vo 5) (zv_vd den rch nn rdl rds off del arr loc vd 5) 5) (zv_hi (zv_cd den rch nn rdl rds off del arr loc 5) (zv_vo den rch nn off del arr loc vo 5) (zv_vd den rch nn rdl rds off del arr loc vd 5) 5) (zv_fin (zv_cd den rch nn rdl rds off del arr loc 5) (zv_lo (zv_cd den rch nn rdl rds off del arr loc 5) (zv_vo den rch nn off del arr loc vo 5) (zv_vd den rch nn rdl rds off del arr loc vd 5) 5) (zv_hi (zv_cd den rch nn rdl rds off del arr loc 5) (zv_vo den rch nn off del arr loc vo 5) (zv_vd den rch nn rdl rds off del arr loc vd 5) 5) (zv_vo den rch nn off del arr loc vo 5)) (zv_vo den rch nn off del arr loc vo 5) (zv_vd den rch nn rdl rds off del arr loc vd 5) ++ zw_A sv cS cJ so sa sb sd den rch pol exg xp nn str rdl rds off del arr) ++ zc_C c0 q v sv loc slw wst) := hD
  refine W.eq (g2 := F0 m 15 ls []) rfl ?_
  refine lv_aload_n hx hb dC_low_15 rfl (lv_at hl 0 rfl) ?_
  refine zz_getC hx hb hT hown hK hP 24 rfl 2 (by decide) tw_123 rfl dC_low_16 ?_
  refine zz_call (va_runV (Ts := []) (As := []) (own := RC) ⟨hx, hb, hml, hown, fun _ h => nomatch h⟩ (ct_V_hasMajority l) (zt_cv hT tc_V_hasMajority tv_V_hasMajority tw_526 ⟨Nat.le_of_ble_eq_true rfl, Nat.le_of_ble_eq_true rfl⟩) (zz_preV (q0 := 0) hT (zq_Pl (zq_Pl hP)) hK rfl rfl) rfl rfl hl.1 rfl (lv_room (Nat.le_of_ble_eq_true rfl)) dC_low_19 ⟨Nat.zero_le _, Nat.zero_le _⟩) ?_
  refine zz_zne (tgt := 33) hx hb dC_low_22 (by decide) (fun h1 => ?_) (fun h1 => ?_)
  · refine lv_aload_n hx hb dC_low_33 rfl (lv_at hl 0 rfl) ?_
    refine zz_getC hx hb hT hown hK hP 24 rfl 2 (by decide) tw_123 rfl dC_low_34 ?_
    refine zz_getV hx hb hT hown hK hP 0 rfl 1 (by decide) tw_101 rfl dC_low_37 ?_
    exact zq_lret hx hb hr hlocks dC_low_40 (rfl) hAe hP hD hS
  · exact absurd h1 hm
set_option maxHeartbeats 4000000 in
set_option maxRecDepth 100000 in
theorem ct_C_high (l : Launch) {dC : Nat → ClassId} {dI : Nat → Nat → Nat} {cJ cI cB cZ cS : ClassId} {sz : Nat} {v a b : Nat} {cand surv : Int32} {low high : Int64} {vo vd : Nat → Int64} {sv : Nat} {so sa sb sd : Nat → Nat} {den rch pol exg str : Nat → Int32} {xp rdl rds : Nat → Int64} {nn : Nat → Nat} {off del arr : Nat → Nat → Int64} {c0 q : Nat} {loc slw : Int64} {wst : Int32} (hn : ∀ k, nn k ≤ 8) (hm : ¬ zv_maj (zv_lo (zv_cd den rch nn rdl rds off del arr loc 5) (zv_vo den rch nn off del arr loc vo 5) (zv_vd den rch nn rdl rds off del arr loc vd 5) 5) (zv_hi (zv_cd den rch nn rdl rds off del arr loc 5) (zv_vo den rch nn off del arr loc vo 5) (zv_vd den rch nn rdl rds off del arr loc vd 5) 5) = 0) : Met l yC_high [Cond.code yC_high cC_high 1 (some .long)] { frames := 6, cells := 0, slots := 0, locals := 145 } (va_Pc [.ref c0] (zq_B (dC, dI) vcl (zz_T cJ cI cB cZ cS) ((zv_W v a b cJ cand low high surv vo vd ++ zw_A sv cS cJ so sa sb sd den rch pol exg xp nn str rdl rds off del arr) ++ zc_C c0 q v sv loc slw wst) sz)) (zq_Q (dC, dI) vcl (some (.long (zv_hi (zv_cd den rch nn rdl rds off del arr loc 5) (zv_vo den rch nn off del arr loc vo 5) (zv_vd den rch nn rdl rds off del arr loc vd 5) 5))) ((zv_W v a b cJ cand low high surv vo vd ++ zw_A sv cS cJ so sa sb sd den rch pol exg xp nn str rdl rds off del arr) ++ zc_C c0 q v sv loc slw wst) ((zv_W v a b cJ (zv_cd den rch nn rdl rds off del arr loc 5) (zv_lo (zv_cd den rch nn rdl rds off del arr loc 5) (zv_vo den rch nn off del arr loc vo 5) (zv_vd den rch nn rdl rds off del arr loc vd 5) 5) (zv_hi (zv_cd den rch nn rdl rds off del arr loc 5) (zv_vo den rch nn off del arr loc vo 5) (zv_vd den rch nn rdl rds off del arr loc vd 5) 5) (zv_fin (zv_cd den rch nn rdl rds off del arr loc 5) (zv_lo (zv_cd den rch nn rdl rds off del arr loc 5) (zv_vo den rch nn off del arr loc vo 5) (zv_vd den rch nn rdl rds off del arr loc vd 5) 5) (zv_hi (zv_cd den rch nn rdl rds off del arr loc 5) (zv_vo den rch nn off del arr loc vo 5) (zv_vd den rch nn rdl rds off del arr loc vd 5) 5) (zv_vo den rch nn off del arr loc vo 5)) (zv_vo den rch nn off del arr loc vo 5) (zv_vd den rch nn rdl rds off del arr loc vd 5) ++ zw_A sv cS cJ so sa sb sd den rch pol exg xp nn str rdl rds off del arr) ++ zc_C c0 q v sv loc slw wst) sz) 0 0 (va_A ((zv_W v a b cJ cand low high surv vo vd ++ zw_A sv cS cJ so sa sb sd den rch pol exg xp nn str rdl rds off del arr) ++ zc_C c0 q v sv loc slw wst) sz) := by
  refine Met.ofW (cc := cC_high) (maxL := 1) (ret := (some .long)) (by decide) rfl ?_
  intro p e s m args below meth c s₁ B hml hv
  obtain ⟨rfl, hsz, hT, hP, hK, hD0⟩ := hv
  subst hsz
  have hx := B.exec
  have hb := B.bytes
  have hr := B.returns
  have hlocks := B.notSynchronized
  have hown : s.vm.findClass RC = some m.cls := findClass_of_methodNamed B.named
  have hD := hD0.self (sz := s.heap.size)
  generalize hAe : va_A ((zv_W v a b cJ cand low high surv vo vd ++ zw_A sv cS cJ so sa sb sd den rch pol exg xp nn str rdl rds off del arr) ++ zc_C c0 q v sv loc slw wst) s.heap.size = A at hD ⊢
  have hA : ∀ q : Nat, s.heap.size ≤ q → A q := fun q h => by rw [← hAe]; exact Or.inr h
  have hS : va_S A s.heap s.heap [] := va_S.rf
  have hl := lv_entry ([.ref c0]) (n := 1) (Nat.le_of_ble_eq_true rfl)
  rw [lg_entry_eq]
  generalize (lg_sl ([.ref c0]) ++ List.replicate (1 - (lg_sl ([.ref c0])).length) Slot.unset).toArray = ls at hl ⊢
  have hl : lv_has ls 1 [(0, .ref c0)] := hl
  refine lv_aload_n hx hb dC_high_0 rfl (lv_at hl 0 rfl) ?_
  refine zz_getC hx hb hT hown hK hP 24 rfl 2 (by decide) tw_123 rfl dC_high_1 ?_
  refine lv_aload_n hx hb dC_high_4 rfl (lv_at hl 0 rfl) ?_
  refine zz_getC hx hb hT hown hK hP 24 rfl 1 (by decide) tw_122 rfl dC_high_5 ?_
  refine lv_aload_n hx hb dC_high_8 rfl (lv_at hl 0 rfl) ?_
  refine zz_getC hx hb hT hown hK hP 24 rfl 3 (by decide) tw_124 rfl dC_high_9 ?_
  refine zq_call (va_runV (Ts := []) (As := [.ref sv, .long loc]) (own := RC) ⟨hx, hb, hml, hown, fun _ h => nomatch h⟩ (ct_V_hold l hn) (zt_cv hT tc_V_hold tv_V_hold tw_152 ⟨Nat.le_of_ble_eq_true rfl, Nat.le_of_ble_eq_true rfl⟩) (zq_preV (q0 := 0) hT (zq_Pl hP) hK (zq_Dl hD) rfl rfl) rfl rfl hl.1 rfl (lv_room (Nat.le_of_ble_eq_true rfl)) dC_high_12 ⟨Nat.zero_le _, Nat.zero_le _⟩) hP hD hS hA (fun H locs hP hD hS => ?_)
  have hP : va_P (dC, dI) vcl ((zv_W v a b cJ (zv_cd den rch nn rdl rds off del arr loc 5) (zv_lo (zv_cd den rch nn rdl rds off del arr loc 5) (zv_vo den rch nn off del arr loc vo 5) (zv_vd den rch nn rdl rds off del arr loc vd 5) 5) (zv_hi (zv_cd den rch nn rdl rds off del arr loc 5) (zv_vo den rch nn off del arr loc vo 5) (zv_vd den rch nn rdl rds off del arr loc vd 5) 5) (zv_fin (zv_cd den rch nn rdl rds off del arr loc 5) (zv_lo (zv_cd den rch nn rdl rds off del arr loc 5) (zv_vo den rch nn off del arr loc vo 5) (zv_vd den rch nn rdl rds off del arr loc vd 5) 5) (zv_hi (zv_cd den rch nn rdl rds off del arr loc 5) (zv_vo den rch nn off del arr loc vo 5) (zv_vd den rch nn rdl rds off del arr loc vd 5) 5) (zv_vo den rch nn off del arr loc vo 5)) (zv_vo den rch nn off del arr loc vo 5) (zv_vd den rch nn rdl rds off del arr loc vd 5) ++ zw_A sv cS cJ so sa sb sd den rch pol exg xp nn str rdl rds off del arr) ++ zc_C c0 q v sv loc slw wst) H := hP
  have hD : va_D A ((zv_W v a b cJ (zv_cd den rch nn rdl rds off del arr loc 5) (zv_lo (zv_cd den rch nn rdl rds off del arr loc 5) (zv_vo den rch nn off del arr loc vo 5) (zv_vd den rch nn rdl rds off del arr loc vd 5) 5) (zv_hi (zv_cd den rch nn rdl rds off del arr loc 5) (zv_vo den rch nn off del arr loc vo 5) (zv_vd den rch nn rdl rds off del arr loc vd 5) 5) (zv_fin (zv_cd den rch nn rdl rds off del arr loc 5) (zv_lo (zv_cd den rch nn rdl rds off del arr loc 5) (zv_vo den rch nn off del arr loc vo 5) (zv_vd den rch nn rdl rds off del arr loc vd 5) 5) (zv_hi (zv_cd den rch nn rdl rds off del arr loc 5) (zv_vo den rch nn off del arr loc vo 5) (zv_vd den rch nn rdl rds off del arr loc vd 5) 5) (zv_vo den rch nn off del arr loc vo 5)) (zv_vo den rch nn off del arr loc vo 5) (zv_vd den rch nn rdl rds off del arr loc vd 5) ++ zw_A sv cS cJ so sa sb sd den rch pol exg xp nn str rdl rds off del arr) ++ zc_C c0 q v sv loc slw wst) := hD
  refine W.eq (g2 := F0 m 15 ls []) rfl ?_
  refine lv_aload_n hx hb dC_high_15 rfl (lv_at hl 0 rfl) ?_
  refine zz_getC hx hb hT hown hK hP 24 rfl 2 (by decide) tw_123 rfl dC_high_16 ?_
  refine zz_call (va_runV (Ts := []) (As := []) (own := RC) ⟨hx, hb, hml, hown, fun _ h => nomatch h⟩ (ct_V_hasMajority l) (zt_cv hT tc_V_hasMajority tv_V_hasMajority tw_526 ⟨Nat.le_of_ble_eq_true rfl, Nat.le_of_ble_eq_true rfl⟩) (zz_preV (q0 := 0) hT (zq_Pl (zq_Pl hP)) hK rfl rfl) rfl rfl hl.1 rfl (lv_room (Nat.le_of_ble_eq_true rfl)) dC_high_19 ⟨Nat.zero_le _, Nat.zero_le _⟩) ?_
  refine zz_zne (tgt := 33) hx hb dC_high_22 (by decide) (fun h1 => ?_) (fun h1 => ?_)
  · refine lv_aload_n hx hb dC_high_33 rfl (lv_at hl 0 rfl) ?_
    refine zz_getC hx hb hT hown hK hP 24 rfl 2 (by decide) tw_123 rfl dC_high_34 ?_
    refine zz_getV hx hb hT hown hK hP 0 rfl 2 (by decide) tw_103 rfl dC_high_37 ?_
    exact zq_lret hx hb hr hlocks dC_high_40 (rfl) hAe hP hD hS
  · exact absurd h1 hm
set_option maxHeartbeats 4000000 in
set_option maxRecDepth 100000 in
theorem ct_C_peer (l : Launch) {dC : Nat → ClassId} {dI : Nat → Nat → Nat} {cJ cI cB cZ cS : ClassId} {sz : Nat} {v a b : Nat} {cand surv : Int32} {low high : Int64} {vo vd : Nat → Int64} {sv : Nat} {so sa sb sd : Nat → Nat} {den rch pol exg str : Nat → Int32} {xp rdl rds : Nat → Int64} {nn : Nat → Nat} {off del arr : Nat → Nat → Int64} {c0 q : Nat} {loc slw : Int64} {wst : Int32} (hn : ∀ k, nn k ≤ 8) (hm : ¬ zv_agr (zv_lo (zv_cd den rch nn rdl rds off del arr loc 5) (zv_vo den rch nn off del arr loc vo 5) (zv_vd den rch nn rdl rds off del arr loc vd 5) 5) (zv_hi (zv_cd den rch nn rdl rds off del arr loc 5) (zv_vo den rch nn off del arr loc vo 5) (zv_vd den rch nn rdl rds off del arr loc vd 5) 5) (zv_fin (zv_cd den rch nn rdl rds off del arr loc 5) (zv_lo (zv_cd den rch nn rdl rds off del arr loc 5) (zv_vo den rch nn off del arr loc vo 5) (zv_vd den rch nn rdl rds off del arr loc vd 5) 5) (zv_hi (zv_cd den rch nn rdl rds off del arr loc 5) (zv_vo den rch nn off del arr loc vo 5) (zv_vd den rch nn rdl rds off del arr loc vd 5) 5) (zv_vo den rch nn off del arr loc vo 5)) = 0) : Met l yC_peer [Cond.code yC_peer cC_peer 1 (some .int)] { frames := 6, cells := 0, slots := 0, locals := 145 } (va_Pc [.ref c0] (zq_B (dC, dI) vcl (zz_T cJ cI cB cZ cS) ((zv_W v a b cJ cand low high surv vo vd ++ zw_A sv cS cJ so sa sb sd den rch pol exg xp nn str rdl rds off del arr) ++ zc_C c0 q v sv loc slw wst) sz)) (zq_Q (dC, dI) vcl (some (.int (zn_maxi 0 (zv_o (zv_cp (zv_fin (zv_cd den rch nn rdl rds off del arr loc 5) (zv_lo (zv_cd den rch nn rdl rds off del arr loc 5) (zv_vo den rch nn off del arr loc vo 5) (zv_vd den rch nn rdl rds off del arr loc vd 5) 5) (zv_hi (zv_cd den rch nn rdl rds off del arr loc 5) (zv_vo den rch nn off del arr loc vo 5) (zv_vd den rch nn rdl rds off del arr loc vd 5) 5) (zv_vo den rch nn off del arr loc vo 5)) str (zv_vd den rch nn rdl rds off del arr loc vd 5) 5))))) ((zv_W v a b cJ cand low high surv vo vd ++ zw_A sv cS cJ so sa sb sd den rch pol exg xp nn str rdl rds off del arr) ++ zc_C c0 q v sv loc slw wst) ((zv_W v a b cJ (zv_cd den rch nn rdl rds off del arr loc 5) (zv_lo (zv_cd den rch nn rdl rds off del arr loc 5) (zv_vo den rch nn off del arr loc vo 5) (zv_vd den rch nn rdl rds off del arr loc vd 5) 5) (zv_hi (zv_cd den rch nn rdl rds off del arr loc 5) (zv_vo den rch nn off del arr loc vo 5) (zv_vd den rch nn rdl rds off del arr loc vd 5) 5) (zv_fin (zv_cd den rch nn rdl rds off del arr loc 5) (zv_lo (zv_cd den rch nn rdl rds off del arr loc 5) (zv_vo den rch nn off del arr loc vo 5) (zv_vd den rch nn rdl rds off del arr loc vd 5) 5) (zv_hi (zv_cd den rch nn rdl rds off del arr loc 5) (zv_vo den rch nn off del arr loc vo 5) (zv_vd den rch nn rdl rds off del arr loc vd 5) 5) (zv_vo den rch nn off del arr loc vo 5)) (zv_vo den rch nn off del arr loc vo 5) (zv_vd den rch nn rdl rds off del arr loc vd 5) ++ zw_A sv cS cJ so sa sb sd den rch pol exg xp nn str rdl rds off del arr) ++ zc_C c0 q v sv loc slw wst) sz) 0 0 (va_A ((zv_W v a b cJ cand low high surv vo vd ++ zw_A sv cS cJ so sa sb sd den rch pol exg xp nn str rdl rds off del arr) ++ zc_C c0 q v sv loc slw wst) sz) := by
  refine Met.ofW (cc := cC_peer) (maxL := 1) (ret := (some .int)) (by decide) rfl ?_
  intro p e s m args below meth c s₁ B hml hv
  obtain ⟨rfl, hsz, hT, hP, hK, hD0⟩ := hv
  subst hsz
  have hx := B.exec
  have hb := B.bytes
  have hr := B.returns
  have hlocks := B.notSynchronized
  have hown : s.vm.findClass RC = some m.cls := findClass_of_methodNamed B.named
  have hD := hD0.self (sz := s.heap.size)
  generalize hAe : va_A ((zv_W v a b cJ cand low high surv vo vd ++ zw_A sv cS cJ so sa sb sd den rch pol exg xp nn str rdl rds off del arr) ++ zc_C c0 q v sv loc slw wst) s.heap.size = A at hD ⊢
  have hA : ∀ q : Nat, s.heap.size ≤ q → A q := fun q h => by rw [← hAe]; exact Or.inr h
  have hS : va_S A s.heap s.heap [] := va_S.rf
  have hl := lv_entry ([.ref c0]) (n := 1) (Nat.le_of_ble_eq_true rfl)
  rw [lg_entry_eq]
  generalize (lg_sl ([.ref c0]) ++ List.replicate (1 - (lg_sl ([.ref c0])).length) Slot.unset).toArray = ls at hl ⊢
  have hl : lv_has ls 1 [(0, .ref c0)] := hl
  refine lv_aload_n hx hb dC_peer_0 rfl (lv_at hl 0 rfl) ?_
  refine zz_getC hx hb hT hown hK hP 24 rfl 2 (by decide) tw_123 rfl dC_peer_1 ?_
  refine lv_aload_n hx hb dC_peer_4 rfl (lv_at hl 0 rfl) ?_
  refine zz_getC hx hb hT hown hK hP 24 rfl 1 (by decide) tw_122 rfl dC_peer_5 ?_
  refine lv_aload_n hx hb dC_peer_8 rfl (lv_at hl 0 rfl) ?_
  refine zz_getC hx hb hT hown hK hP 24 rfl 3 (by decide) tw_124 rfl dC_peer_9 ?_
  refine zq_call (va_runV (Ts := []) (As := [.ref sv, .long loc]) (own := RC) ⟨hx, hb, hml, hown, fun _ h => nomatch h⟩ (ct_V_hold l hn) (zt_cv hT tc_V_hold tv_V_hold tw_152 ⟨Nat.le_of_ble_eq_true rfl, Nat.le_of_ble_eq_true rfl⟩) (zq_preV (q0 := 0) hT (zq_Pl hP) hK (zq_Dl hD) rfl rfl) rfl rfl hl.1 rfl (lv_room (Nat.le_of_ble_eq_true rfl)) dC_peer_12 ⟨Nat.zero_le _, Nat.zero_le _⟩) hP hD hS hA (fun H locs hP hD hS => ?_)
  have hP : va_P (dC, dI) vcl ((zv_W v a b cJ (zv_cd den rch nn rdl rds off del arr loc 5) (zv_lo (zv_cd den rch nn rdl rds off del arr loc 5) (zv_vo den rch nn off del arr loc vo 5) (zv_vd den rch nn rdl rds off del arr loc vd 5) 5) (zv_hi (zv_cd den rch nn rdl rds off del arr loc 5) (zv_vo den rch nn off del arr loc vo 5) (zv_vd den rch nn rdl rds off del arr loc vd 5) 5) (zv_fin (zv_cd den rch nn rdl rds off del arr loc 5) (zv_lo (zv_cd den rch nn rdl rds off del arr loc 5) (zv_vo den rch nn off del arr loc vo 5) (zv_vd den rch nn rdl rds off del arr loc vd 5) 5) (zv_hi (zv_cd den rch nn rdl rds off del arr loc 5) (zv_vo den rch nn off del arr loc vo 5) (zv_vd den rch nn rdl rds off del arr loc vd 5) 5) (zv_vo den rch nn off del arr loc vo 5)) (zv_vo den rch nn off del arr loc vo 5) (zv_vd den rch nn rdl rds off del arr loc vd 5) ++ zw_A sv cS cJ so sa sb sd den rch pol exg xp nn str rdl rds off del arr) ++ zc_C c0 q v sv loc slw wst) H := hP
  have hD : va_D A ((zv_W v a b cJ (zv_cd den rch nn rdl rds off del arr loc 5) (zv_lo (zv_cd den rch nn rdl rds off del arr loc 5) (zv_vo den rch nn off del arr loc vo 5) (zv_vd den rch nn rdl rds off del arr loc vd 5) 5) (zv_hi (zv_cd den rch nn rdl rds off del arr loc 5) (zv_vo den rch nn off del arr loc vo 5) (zv_vd den rch nn rdl rds off del arr loc vd 5) 5) (zv_fin (zv_cd den rch nn rdl rds off del arr loc 5) (zv_lo (zv_cd den rch nn rdl rds off del arr loc 5) (zv_vo den rch nn off del arr loc vo 5) (zv_vd den rch nn rdl rds off del arr loc vd 5) 5) (zv_hi (zv_cd den rch nn rdl rds off del arr loc 5) (zv_vo den rch nn off del arr loc vo 5) (zv_vd den rch nn rdl rds off del arr loc vd 5) 5) (zv_vo den rch nn off del arr loc vo 5)) (zv_vo den rch nn off del arr loc vo 5) (zv_vd den rch nn rdl rds off del arr loc vd 5) ++ zw_A sv cS cJ so sa sb sd den rch pol exg xp nn str rdl rds off del arr) ++ zc_C c0 q v sv loc slw wst) := hD
  refine W.eq (g2 := F0 m 15 ls []) rfl ?_
  refine lv_aload_n hx hb dC_peer_15 rfl (lv_at hl 0 rfl) ?_
  refine zz_getC hx hb hT hown hK hP 24 rfl 2 (by decide) tw_123 rfl dC_peer_16 ?_
  refine zz_call (va_runV (Ts := []) (As := []) (own := RC) ⟨hx, hb, hml, hown, fun _ h => nomatch h⟩ (ct_V_agrees l) (zt_cv hT tc_V_agrees tv_V_agrees tw_544 ⟨Nat.le_of_ble_eq_true rfl, Nat.le_of_ble_eq_true rfl⟩) (zz_preV (q0 := 0) hT (zq_Pl (zq_Pl hP)) hK rfl rfl) rfl rfl hl.1 rfl (lv_room (Nat.le_of_ble_eq_true rfl)) dC_peer_19 ⟨Nat.zero_le _, Nat.zero_le _⟩) ?_
  refine zz_zne (tgt := 33) hx hb dC_peer_22 (by decide) (fun h1 => ?_) (fun h1 => ?_)
  · refine lv_aload_n hx hb dC_peer_33 rfl (lv_at hl 0 rfl) ?_
    refine zz_getC hx hb hT hown hK hP 24 rfl 2 (by decide) tw_123 rfl dC_peer_34 ?_
    refine lv_aload_n hx hb dC_peer_37 rfl (lv_at hl 0 rfl) ?_
    refine zz_getC hx hb hT hown hK hP 24 rfl 1 (by decide) tw_122 rfl dC_peer_38 ?_
    refine zz_call (va_runV (Ts := []) (As := [.ref sv]) (own := RC) ⟨hx, hb, hml, hown, fun _ h => nomatch h⟩ (ct_V_choosePeer l) (zt_cv hT tc_V_choosePeer tv_V_choosePeer tw_549 ⟨Nat.le_of_ble_eq_true rfl, Nat.le_of_ble_eq_true rfl⟩) (zz_preV (q0 := 0) hT (zq_Pl hP) hK rfl rfl) rfl rfl hl.1 rfl (lv_room (Nat.le_of_ble_eq_true rfl)) dC_peer_41 ⟨Nat.zero_le _, Nat.zero_le _⟩) ?_
    exact zq_iret hx hb hr hlocks dC_peer_44 (rfl) hAe hP hD hS
  · exact absurd h1 hm
set_option maxHeartbeats 4000000 in
set_option maxRecDepth 100000 in
theorem ct_C_stepBy (l : Launch) {dC : Nat → ClassId} {dI : Nat → Nat → Nat} {cJ cI cB cZ cS : ClassId} {sz : Nat} {v a b : Nat} {cand surv : Int32} {low high : Int64} {vo vd : Nat → Int64} {sv : Nat} {so sa sb sd : Nat → Nat} {den rch pol exg str : Nat → Int32} {xp rdl rds : Nat → Int64} {nn : Nat → Nat} {off del arr : Nat → Nat → Int64} {c0 q : Nat} {loc slw : Int64} {wst : Int32} {x : Int64} : Met l yC_stepBy [Cond.code yC_stepBy cC_stepBy 4 none] { frames := 1, cells := 0, slots := 0, locals := 20 } (va_Pc [.ref c0, .long x] (zq_B (dC, dI) vcl (zz_T cJ cI cB cZ cS) ((zv_W v a b cJ cand low high surv vo vd ++ zw_A sv cS cJ so sa sb sd den rch pol exg xp nn str rdl rds off del arr) ++ zc_C c0 q v sv loc slw wst) sz)) (zq_Q (dC, dI) vcl none ((zv_W v a b cJ cand low high surv vo vd ++ zw_A sv cS cJ so sa sb sd den rch pol exg xp nn str rdl rds off del arr) ++ zc_C c0 q v sv loc slw wst) ((zv_W v a b cJ cand low high surv vo vd ++ zw_A sv cS cJ so sa sb sd den (zm_fz rch 5) pol (zm_fz exg 5) xp (zm_fn nn 5) str rdl rds off del arr) ++ zc_C c0 q v sv (loc + x) 0 wst) sz) 0 0 (va_A ((zv_W v a b cJ cand low high surv vo vd ++ zw_A sv cS cJ so sa sb sd den rch pol exg xp nn str rdl rds off del arr) ++ zc_C c0 q v sv loc slw wst) sz) := by
  refine Met.ofW (cc := cC_stepBy) (maxL := 4) (ret := none) (by decide) rfl ?_
  intro p e s m args below meth c s₁ B hml hv
  obtain ⟨rfl, hsz, hT, hP, hK, hD0⟩ := hv
  subst hsz
  have hx := B.exec
  have hb := B.bytes
  have hr := B.returns
  have hlocks := B.notSynchronized
  have hown : s.vm.findClass RC = some m.cls := findClass_of_methodNamed B.named
  have hD := hD0.self (sz := s.heap.size)
  generalize hAe : va_A ((zv_W v a b cJ cand low high surv vo vd ++ zw_A sv cS cJ so sa sb sd den rch pol exg xp nn str rdl rds off del arr) ++ zc_C c0 q v sv loc slw wst) s.heap.size = A at hD ⊢
  have hA : ∀ q : Nat, s.heap.size ≤ q → A q := fun q h => by rw [← hAe]; exact Or.inr h
  have hS : va_S A s.heap s.heap [] := va_S.rf
  have hl := lv_entry ([.ref c0, .long x]) (n := 4) (Nat.le_of_ble_eq_true rfl)
  rw [lg_entry_eq]
  generalize (lg_sl ([.ref c0, .long x]) ++ List.replicate (4 - (lg_sl ([.ref c0, .long x])).length) Slot.unset).toArray = ls at hl ⊢
  have hl : lv_has ls 4 [(0, .ref c0), (1, .long x)] := hl
  refine lv_aload_n hx hb dC_stepBy_0 rfl (lv_at hl 0 rfl) ?_
  refine lv_dup hx hb dC_stepBy_1 rfl ?_
  refine zz_getC hx hb hT hown hK hP 24 rfl 3 (by decide) tw_124 rfl dC_stepBy_2 ?_
  refine lv_lload_n hx hb dC_stepBy_5 rfl (lv_at hl 1 rfl) ?_
  refine lv_ladd hx hb dC_stepBy_6 ?_
  refine zz_putC (ty := .long) hx hb hT hown hK hP hD hS 24 rfl 3 (by decide) tw_124 rfl (by decide +kernel) rfl rfl (Nat.le_of_ble_eq_true rfl) dC_stepBy_7 (fun H locs hP hD hS => ?_)
  have hP : va_P (dC, dI) vcl ((zv_W v a b cJ cand low high surv vo vd ++ zw_A sv cS cJ so sa sb sd den rch pol exg xp nn str rdl rds off del arr) ++ zc_C c0 q v sv (loc + x) slw wst) H := hP
  have hD : va_D A ((zv_W v a b cJ cand low high surv vo vd ++ zw_A sv cS cJ so sa sb sd den rch pol exg xp nn str rdl rds off del arr) ++ zc_C c0 q v sv (loc + x) slw wst) := hD
  refine lv_aload_n hx hb dC_stepBy_10 rfl (lv_at hl 0 rfl) ?_
  refine lv_lconst (v := 0) hx hb dC_stepBy_11 (by decide) ?_
  refine zz_putC (ty := .long) hx hb hT hown hK hP hD hS 24 rfl 4 (by decide) tw_125 rfl (by decide +kernel) rfl rfl (Nat.le_of_ble_eq_true rfl) dC_stepBy_12 (fun H locs hP hD hS => ?_)
  have hP : va_P (dC, dI) vcl ((zv_W v a b cJ cand low high surv vo vd ++ zw_A sv cS cJ so sa sb sd den rch pol exg xp nn str rdl rds off del arr) ++ zc_C c0 q v sv (loc + x) 0 wst) H := hP
  have hD : va_D A ((zv_W v a b cJ cand low high surv vo vd ++ zw_A sv cS cJ so sa sb sd den rch pol exg xp nn str rdl rds off del arr) ++ zc_C c0 q v sv (loc + x) 0 wst) := hD
  refine lv_iconst (v := 0) hx hb dC_stepBy_15 (by decide) ?_
  refine lv_istore_n (lv' := [(3, .int 0), (0, .ref c0), (1, .long x)]) hx hb dC_stepBy_16 rfl hl (by decide) rfl (fun ls hl => ?_)
  have lp : ∀ (k9 : Nat) (i : Nat) (H : Heap) (locs : List Loc), 5 - i < k9 → (i ≤ 5) → va_P (dC, dI) vcl ((zv_W v a b cJ cand low high surv vo vd ++ zw_A sv cS cJ so sa sb sd den (zm_fz rch i) pol (zm_fz exg i) xp (zm_fn nn i) str rdl rds off del arr) ++ zc_C c0 q v sv (loc + x) 0 wst) H → va_D A ((zv_W v a b cJ cand low high surv vo vd ++ zw_A sv cS cJ so sa sb sd den (zm_fz rch i) pol (zm_fz exg i) xp (zm_fn nn i) str rdl rds off del arr) ++ zc_C c0 q v sv (loc + x) 0 wst) → va_S A s.heap H locs → ∀ ls : Array Slot, lv_has ls 4 [(0, .ref c0), (3, .int (nI i))] → W p l e ({ frames := 1, cells := 0, slots := 0, locals := 20 } : Room) s m ([.ref c0, .long x] : List Value).toArray below meth c H locs 0 0 (MQ below (zq_Q (dC, dI) vcl none ((zv_W v a b cJ cand low high surv vo vd ++ zw_A sv cS cJ so sa sb sd den rch pol exg xp nn str rdl rds off del arr) ++ zc_C c0 q v sv loc slw wst) ((zv_W v a b cJ cand low high surv vo vd ++ zw_A sv cS cJ so sa sb sd den (zm_fz rch 5) pol (zm_fz exg 5) xp (zm_fn nn 5) str rdl rds off del arr) ++ zc_C c0 q v sv (loc + x) 0 wst) s.heap.size) ([.ref c0, .long x] : List Value).toArray s 0 0 A) (F0 m 17 ls []) := by
    intro k9
    induction k9 with
    | zero => intro i H locs hk9; exact absurd hk9 (Nat.not_lt_zero _)
    | succ k9 ih_lp =>
      intro i H locs hk9 hi hP hD hS ls hl
      refine lv_iload_n hx hb dC_stepBy_17 rfl (lv_at hl 1 rfl) ?_
      refine lv_iconst (v := 5) hx hb dC_stepBy_18 (by decide) ?_
      refine zz_ige (tgt := 37) hx hb dC_stepBy_19 (by decide) (fun h1 => ?_) (fun h1 => ?_)
      · have h1n := mt (zz_ltN (a := i) (b := 5) rfl rfl (by omega) (by omega)).mpr h1
        exact zq_vret hx hb hr hlocks dC_stepBy_37 hAe (by rw [show zm_fz rch 5 = zm_fz rch i from by rw [show i = 5 from (by omega)]]; rw [show zm_fz exg 5 = zm_fz exg i from by rw [show i = 5 from (by omega)]]; rw [show zm_fn nn 5 = zm_fn nn i from by rw [show i = 5 from (by omega)]]; exact hP) (by rw [show zm_fz rch 5 = zm_fz rch i from by rw [show i = 5 from (by omega)]]; rw [show zm_fz exg 5 = zm_fz exg i from by rw [show i = 5 from (by omega)]]; rw [show zm_fn nn 5 = zm_fn nn i from by rw [show i = 5 from (by omega)]]; exact hD) hS
      · have h1n := (zz_ltN (a := i) (b := 5) rfl rfl (by omega) (by omega)).mp h1
        refine lv_aload_n hx hb dC_stepBy_22 rfl (lv_at hl 0 rfl) ?_
        refine zz_getC hx hb hT hown hK hP 24 rfl 1 (by decide) tw_122 rfl dC_stepBy_23 ?_
        refine lv_iload_n hx hb dC_stepBy_26 rfl (lv_at hl 1 rfl) ?_
        refine zz_aald hx hb hK hP 3 4 rfl rfl i rfl (by first | omega | decide | assumption) (by decide) rfl dC_stepBy_27 ?_
        refine zq_callP (zc_vk (zw_perm (k := i) (by omega))) (zc_kv (zw_back (k := i) (by omega))) (va_runV (Ts := []) (As := []) (own := RC) ⟨hx, hb, hml, hown, fun _ h => nomatch h⟩ (ct_S_forget l) (zt_cv hT tc_S_forget tv_S_forget tw_595 ⟨Nat.le_of_ble_eq_true rfl, Nat.le_of_ble_eq_true rfl⟩) (zq_preV (q0 := 0) hT (zq_Pl (zq_Pp (zc_vk (zw_perm (k := i) (by omega))) hP)) hK (zq_Dl (zq_Dp (zc_vk (zw_perm (k := i) (by omega))) hD)) rfl rfl) rfl rfl hl.1 rfl (lv_room (Nat.le_of_ble_eq_true rfl)) dC_stepBy_28 ⟨Nat.zero_le _, Nat.zero_le _⟩) hP hD hS hA (fun H locs hP hD hS => ?_)
        have hP : va_P (dC, dI) vcl ((zv_W v a b cJ cand low high surv vo vd ++ zw_A sv cS cJ so sa sb sd den (va_up (zm_fz rch i) i 0) pol (va_up (zm_fz exg i) i 0) xp (va_up (zm_fn nn i) i 0) str rdl rds off del arr) ++ zc_C c0 q v sv (loc + x) 0 wst) H := (by simp only [va_up_id] at hP; exact hP)
        have hD : va_D A ((zv_W v a b cJ cand low high surv vo vd ++ zw_A sv cS cJ so sa sb sd den (va_up (zm_fz rch i) i 0) pol (va_up (zm_fz exg i) i 0) xp (va_up (zm_fn nn i) i 0) str rdl rds off del arr) ++ zc_C c0 q v sv (loc + x) 0 wst) := (by simp only [va_up_id] at hD; exact hD)
        refine W.eq (g2 := F0 m 31 ls []) rfl ?_
        refine lv_iinc (k := 1) (v := nI (i + 1)) (lv' := [(3, .int (nI (i + 1))), (0, .ref c0)]) hx hb dC_stepBy_31 hl rfl (nI_succ _).symm (by decide) rfl (fun ls hl => ?_)
        refine lv_goto (tgt := 17) hx hb dC_stepBy_34 (by decide) ?_
        exact ih_lp (i + 1) _ _ (by omega) (by omega) (by rw [show zm_fz exg (i + 1) = va_up (zm_fz exg i) i 0 from rfl]; rw [show zm_fn nn (i + 1) = va_up (zm_fn nn i) i 0 from rfl]; rw [show zm_fz rch (i + 1) = va_up (zm_fz rch i) i 0 from rfl]; exact hP) (by rw [show zm_fz exg (i + 1) = va_up (zm_fz exg i) i 0 from rfl]; rw [show zm_fn nn (i + 1) = va_up (zm_fn nn i) i 0 from rfl]; rw [show zm_fz rch (i + 1) = va_up (zm_fz rch i) i 0 from rfl]; exact hD) hS _ (lv_sub hl [1, 0] rfl)
  exact lp (5 - 0 + 1) 0 _ _ (by omega) (Nat.zero_le _) (by rw [show zm_fz exg 0 = exg from rfl]; rw [show zm_fn nn 0 = nn from rfl]; rw [show zm_fz rch 0 = rch from rfl]; exact hP) (by rw [show zm_fz exg 0 = exg from rfl]; rw [show zm_fn nn 0 = nn from rfl]; rw [show zm_fz rch 0 = rch from rfl]; exact hD) hS _ (by rw [show nI 0 = 0 from rfl]; exact lv_sub hl [1, 0] rfl)
