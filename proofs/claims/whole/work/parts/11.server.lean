/-! Readings of a server -/
set_option maxHeartbeats 4000000 in
set_option maxRecDepth 100000 in
theorem ct_S_distanceOf (l : Launch) {dC : Nat → ClassId} {dI : Nat → Nat → Nat} {cJ cI cB cZ cS : ClassId} {o a b d : Nat} {den rch pol exg str : Int32} {xp rdl rds : Int64} {off del arr : Nat → Int64} {n : Nat} {i : Nat} {now : Int64} (hi : i < 8) : Met l yS_distanceOf [Cond.code yS_distanceOf cS_distanceOf 6 (some .long)] { frames := 1, cells := 0, slots := 0, locals := 25 } (va_Pc [.ref o, .int (nI i), .long now] (zz_B (dC, dI) vcl (zz_T cJ cI cB cZ cS) (zs_W o a b d cJ den rch pol exg xp (nI n) str rdl rds off del arr))) (zz_Q (.long (zs_dist del arr now i))) 0 0 (fun _ => False) := by
  refine Met.ofW (cc := cS_distanceOf) (maxL := 6) (ret := (some .long)) (by decide) rfl ?_
  intro p e s m args below meth c s₁ B hml hv
  obtain ⟨rfl, hT, hP, hK⟩ := hv
  have hx := B.exec
  have hb := B.bytes
  have hr := B.returns
  have hlocks := B.notSynchronized
  have hown : s.vm.findClass RS = some m.cls := findClass_of_methodNamed B.named
  have hl := lv_entry ([.ref o, .int (nI i), .long now]) (n := 6) (Nat.le_of_ble_eq_true rfl)
  rw [lg_entry_eq]
  generalize (lg_sl ([.ref o, .int (nI i), .long now]) ++ List.replicate (6 - (lg_sl ([.ref o, .int (nI i), .long now])).length) Slot.unset).toArray = ls at hl ⊢
  have hl : lv_has ls 6 [(0, .ref o), (1, .int (nI i)), (2, .long now)] := hl
  refine lv_lload_n hx hb dS_distanceOf_0 rfl (lv_at hl 2 rfl) ?_
  refine lv_aload_n hx hb dS_distanceOf_1 rfl (lv_at hl 0 rfl) ?_
  refine zz_getS hx hb hT hown hK hP 0 rfl 11 (by decide) tw_63 rfl dS_distanceOf_2 ?_
  refine lv_iload_n hx hb dS_distanceOf_5 rfl (lv_at hl 1 rfl) ?_
  refine zz_lald hx hb hK hP 3 0 rfl rfl i rfl (by first | omega | decide | assumption) (by decide) dS_distanceOf_6 ?_
  refine lv_lsub hx hb dS_distanceOf_7 ?_
  refine lv_lstore (lv' := [(4, .long (now - (arr i))), (0, .ref o), (1, .int (nI i)), (2, .long now)]) hx hb dS_distanceOf_8 hl (by decide) rfl (fun ls hl => ?_)
  refine lv_aload_n hx hb dS_distanceOf_10 rfl (lv_at hl 1 rfl) ?_
  refine zz_getS hx hb hT hown hK hP 0 rfl 10 (by decide) tw_62 rfl dS_distanceOf_11 ?_
  refine lv_iload_n hx hb dS_distanceOf_14 rfl (lv_at hl 2 rfl) ?_
  refine zz_lald hx hb hK hP 2 0 rfl rfl i rfl (by first | omega | decide | assumption) (by decide) dS_distanceOf_15 ?_
  refine lv_ldc2 (own := RS) (v := 2) hx hb hown (hT.w tw_172) dS_distanceOf_16 ?_
  refine lv_ldiv hx hb dS_distanceOf_19 (by decide) ?_
  refine lv_ldc2 (own := RS) (v := 65536) hx hb hown (hT.w tw_173) dS_distanceOf_20 ?_
  refine lv_ladd hx hb dS_distanceOf_23 ?_
  refine lv_lload hx hb dS_distanceOf_24 (lv_at hl 0 rfl) ?_
  refine lv_ldc2 (own := RS) (v := 65536) hx hb hown (hT.w tw_173) dS_distanceOf_26 ?_
  refine zz_call (va_runS (Ts := []) (As := [.long (now - (arr i)), .long 65536]) (own := RS) ⟨hx, hb, hml, hown, fun _ h => nomatch h⟩ (ct_J_floorDiv l (by decide)) (zt_cs hT tc_J_floorDiv ts_J_floorDiv tw_174 ⟨Nat.le_of_ble_eq_true rfl, Nat.le_of_ble_eq_true rfl⟩) (zz_pre0 hT) rfl rfl hl.1 rfl (lv_room (Nat.le_of_ble_eq_true rfl)) dS_distanceOf_29 ⟨Nat.zero_le _, Nat.zero_le _⟩) ?_
  refine lv_ladd hx hb dS_distanceOf_32 ?_
  exact zz_lret hx hb hr hlocks dS_distanceOf_33 (rfl)
set_option maxHeartbeats 4000000 in
set_option maxRecDepth 100000 in
theorem ct_S_bestAt (l : Launch) {dC : Nat → ClassId} {dI : Nat → Nat → Nat} {cJ cI cB cZ cS : ClassId} {o a b d : Nat} {den rch pol exg str : Int32} {xp rdl rds : Int64} {off del arr : Nat → Int64} {n : Nat} {now : Int64} (hn1 : 1 ≤ n) (hn : n ≤ 8) : Met l yS_bestAt [Cond.code yS_bestAt cS_bestAt 5 (some .int)] { frames := 2, cells := 0, slots := 0, locals := 50 } (va_Pc [.ref o, .long now] (zz_B (dC, dI) vcl (zz_T cJ cI cB cZ cS) (zs_W o a b d cJ den rch pol exg xp (nI n) str rdl rds off del arr))) (zz_Q (.int (nI (zs_at del arr now n)))) 0 0 (fun _ => False) := by
  refine Met.ofW (cc := cS_bestAt) (maxL := 5) (ret := (some .int)) (by decide) rfl ?_
  intro p e s m args below meth c s₁ B hml hv
  obtain ⟨rfl, hT, hP, hK⟩ := hv
  have hx := B.exec
  have hb := B.bytes
  have hr := B.returns
  have hlocks := B.notSynchronized
  have hown : s.vm.findClass RS = some m.cls := findClass_of_methodNamed B.named
  have hl := lv_entry ([.ref o, .long now]) (n := 5) (Nat.le_of_ble_eq_true rfl)
  rw [lg_entry_eq]
  generalize (lg_sl ([.ref o, .long now]) ++ List.replicate (5 - (lg_sl ([.ref o, .long now])).length) Slot.unset).toArray = ls at hl ⊢
  have hl : lv_has ls 5 [(0, .ref o), (1, .long now)] := hl
  refine lv_iconst (v := 0) hx hb dS_bestAt_0 (by decide) ?_
  refine lv_istore_n (lv' := [(3, .int 0), (0, .ref o), (1, .long now)]) hx hb dS_bestAt_1 rfl hl (by decide) rfl (fun ls hl => ?_)
  refine lv_iconst (v := 1) hx hb dS_bestAt_2 (by decide) ?_
  refine lv_istore (lv' := [(4, .int 1), (3, .int 0), (0, .ref o), (1, .long now)]) hx hb dS_bestAt_3 hl (by decide) rfl (fun ls hl => ?_)
  have lp : ∀ (k9 : Nat) (i : Nat), n - i < k9 → (1 ≤ i) → (i ≤ n) → ∀ ls : Array Slot, lv_has ls 5 [(0, .ref o), (1, .long now), (3, .int (nI (zs_at del arr now i))), (4, .int (nI i))] → W p l e ({ frames := 2, cells := 0, slots := 0, locals := 50 } : Room) s m ([.ref o, .long now] : List Value).toArray below meth c s.heap [] 0 0 (MQ below (zz_Q (.int (nI (zs_at del arr now n)))) ([.ref o, .long now] : List Value).toArray s 0 0 (fun _ => False)) (F0 m 5 ls []) := by
    intro k9
    induction k9 with
    | zero => intro i hk9; exact absurd hk9 (Nat.not_lt_zero _)
    | succ k9 ih_lp =>
      intro i hk9 hi1 hi ls hl
      refine lv_iload hx hb dS_bestAt_5 (lv_at hl 3 rfl) ?_
      refine lv_aload_n hx hb dS_bestAt_7 rfl (lv_at hl 0 rfl) ?_
      refine zz_getS hx hb hT hown hK hP 0 rfl 5 (by decide) tw_54 rfl dS_bestAt_8 ?_
      refine zz_ige (tgt := 40) hx hb dS_bestAt_11 (by decide) (fun h1 => ?_) (fun h1 => ?_)
      · have h1n := mt (zz_ltN (a := i) (b := n) rfl rfl (by omega) (by omega)).mpr h1
        refine lv_iload_n hx hb dS_bestAt_40 rfl (lv_at hl 2 rfl) ?_
        exact zz_iret hx hb hr hlocks dS_bestAt_41 (by rw [show i = n from by omega])
      · have h1n := (zz_ltN (a := i) (b := n) rfl rfl (by omega) (by omega)).mp h1
        refine lv_aload_n hx hb dS_bestAt_14 rfl (lv_at hl 0 rfl) ?_
        refine lv_iload hx hb dS_bestAt_15 (lv_at hl 3 rfl) ?_
        refine lv_lload_n hx hb dS_bestAt_17 rfl (lv_at hl 1 rfl) ?_
        refine zz_call (va_runV (Ts := []) (As := [.int (nI i), .long now]) (own := RS) ⟨hx, hb, hml, hown, fun _ h => nomatch h⟩ (ct_S_distanceOf l (i := i) (by first | omega | exact zs_best_lt _ (by omega))) (zt_cv hT tc_S_distanceOf tv_S_distanceOf tw_168 ⟨Nat.le_of_ble_eq_true rfl, Nat.le_of_ble_eq_true rfl⟩) (zz_preV (q0 := 0) hT hP hK rfl rfl) rfl rfl hl.1 rfl (lv_room (Nat.le_of_ble_eq_true rfl)) dS_bestAt_18 ⟨Nat.zero_le _, Nat.zero_le _⟩) ?_
        refine lv_aload_n hx hb dS_bestAt_21 rfl (lv_at hl 0 rfl) ?_
        refine lv_iload_n hx hb dS_bestAt_22 rfl (lv_at hl 2 rfl) ?_
        refine lv_lload_n hx hb dS_bestAt_23 rfl (lv_at hl 1 rfl) ?_
        refine zz_call (va_runV (Ts := []) (As := [.int (nI (zs_at del arr now i)), .long now]) (own := RS) ⟨hx, hb, hml, hown, fun _ h => nomatch h⟩ (ct_S_distanceOf l (i := (zs_at del arr now i)) (by first | omega | exact zs_best_lt _ (by omega))) (zt_cv hT tc_S_distanceOf tv_S_distanceOf tw_168 ⟨Nat.le_of_ble_eq_true rfl, Nat.le_of_ble_eq_true rfl⟩) (zz_preV (q0 := 0) hT hP hK rfl rfl) rfl rfl hl.1 rfl (lv_room (Nat.le_of_ble_eq_true rfl)) dS_bestAt_24 ⟨Nat.zero_le _, Nat.zero_le _⟩) ?_
        refine zz_lge (tgt := 34) hx hb dS_bestAt_27 dS_bestAt_28 (by decide) (fun h2 => ?_) (fun h2 => ?_)
        · refine lv_iinc (k := 3) (v := nI (i + 1)) (lv' := [(4, .int (nI (i + 1))), (0, .ref o), (1, .long now), (3, .int (nI (zs_at del arr now i)))]) hx hb dS_bestAt_34 hl rfl (nI_succ _).symm (by decide) rfl (fun ls hl => ?_)
          refine lv_goto (tgt := 5) hx hb dS_bestAt_37 (by decide) ?_
          exact ih_lp (i + 1) (by omega) (by omega) (by omega) _ (by rw [show nI (zs_at del arr now (i + 1)) = nI (zs_at del arr now i) from congrArg nI (if_neg h2)]; exact lv_sub hl [1, 2, 3, 0] rfl)
        · refine lv_iload hx hb dS_bestAt_31 (lv_at hl 3 rfl) ?_
          refine lv_istore_n (lv' := [(3, .int (nI i)), (0, .ref o), (1, .long now), (4, .int (nI i))]) hx hb dS_bestAt_33 rfl hl (by decide) rfl (fun ls hl => ?_)
          refine lv_iinc (k := 3) (v := nI (i + 1)) (lv' := [(4, .int (nI (i + 1))), (3, .int (nI i)), (0, .ref o), (1, .long now)]) hx hb dS_bestAt_34 hl rfl (nI_succ _).symm (by decide) rfl (fun ls hl => ?_)
          refine lv_goto (tgt := 5) hx hb dS_bestAt_37 (by decide) ?_
          exact ih_lp (i + 1) (by omega) (by omega) (by omega) _ (by rw [show nI (zs_at del arr now (i + 1)) = nI i from congrArg nI (if_pos h2)]; exact lv_sub hl [2, 3, 1, 0] rfl)
  exact lp (n - 1 + 1) 1 (by omega) (Nat.le_refl _) hn1 _ (by rw [show nI (zs_at del arr now 1) = 0 from congrArg nI (zs_best_1 _)]; rw [show nI 1 = 1 from rfl]; exact lv_sub hl [2, 3, 1, 0] rfl)
set_option maxHeartbeats 4000000 in
set_option maxRecDepth 100000 in
theorem ct_S_farthestFrom (l : Launch) {dC : Nat → ClassId} {dI : Nat → Nat → Nat} {cJ cI cB cZ cS : ClassId} {o a b d : Nat} {den rch pol exg str : Int32} {xp rdl rds : Int64} {off del arr : Nat → Int64} {n : Nat} {mid : Int64} (hn : n ≤ 8) : Met l yS_farthestFrom [Cond.code yS_farthestFrom cS_farthestFrom 6 (some .long)] { frames := 1, cells := 0, slots := 0, locals := 23 } (va_Pc [.ref o, .long mid] (zz_B (dC, dI) vcl (zz_T cJ cI cB cZ cS) (zs_W o a b d cJ den rch pol exg xp (nI n) str rdl rds off del arr))) (zz_Q (.long (zs_far off mid n))) 0 0 (fun _ => False) := by
  refine Met.ofW (cc := cS_farthestFrom) (maxL := 6) (ret := (some .long)) (by decide) rfl ?_
  intro p e s m args below meth c s₁ B hml hv
  obtain ⟨rfl, hT, hP, hK⟩ := hv
  have hx := B.exec
  have hb := B.bytes
  have hr := B.returns
  have hlocks := B.notSynchronized
  have hown : s.vm.findClass RS = some m.cls := findClass_of_methodNamed B.named
  have hl := lv_entry ([.ref o, .long mid]) (n := 6) (Nat.le_of_ble_eq_true rfl)
  rw [lg_entry_eq]
  generalize (lg_sl ([.ref o, .long mid]) ++ List.replicate (6 - (lg_sl ([.ref o, .long mid])).length) Slot.unset).toArray = ls at hl ⊢
  have hl : lv_has ls 6 [(0, .ref o), (1, .long mid)] := hl
  refine lv_lconst (v := 0) hx hb dS_farthestFrom_0 (by decide) ?_
  refine lv_lstore_n (lv' := [(3, .long 0), (0, .ref o), (1, .long mid)]) hx hb dS_farthestFrom_1 rfl hl (by decide) rfl (fun ls hl => ?_)
  refine lv_iconst (v := 0) hx hb dS_farthestFrom_2 (by decide) ?_
  refine lv_istore (lv' := [(5, .int 0), (3, .long 0), (0, .ref o), (1, .long mid)]) hx hb dS_farthestFrom_3 hl (by decide) rfl (fun ls hl => ?_)
  have lp : ∀ (k9 : Nat) (i : Nat), n - i < k9 → (i ≤ n) → ∀ ls : Array Slot, lv_has ls 6 [(0, .ref o), (1, .long mid), (3, .long (zs_far off mid i)), (5, .int (nI i))] → W p l e ({ frames := 1, cells := 0, slots := 0, locals := 23 } : Room) s m ([.ref o, .long mid] : List Value).toArray below meth c s.heap [] 0 0 (MQ below (zz_Q (.long (zs_far off mid n))) ([.ref o, .long mid] : List Value).toArray s 0 0 (fun _ => False)) (F0 m 5 ls []) := by
    intro k9
    induction k9 with
    | zero => intro i hk9; exact absurd hk9 (Nat.not_lt_zero _)
    | succ k9 ih_lp =>
      intro i hk9 hi ls hl
      refine lv_iload hx hb dS_farthestFrom_5 (lv_at hl 3 rfl) ?_
      refine lv_aload_n hx hb dS_farthestFrom_7 rfl (lv_at hl 0 rfl) ?_
      refine zz_getS hx hb hT hown hK hP 0 rfl 5 (by decide) tw_54 rfl dS_farthestFrom_8 ?_
      refine zz_ige (tgt := 37) hx hb dS_farthestFrom_11 (by decide) (fun h1 => ?_) (fun h1 => ?_)
      · have h1n := mt (zz_ltN (a := i) (b := n) rfl rfl (by omega) (by omega)).mpr h1
        refine lv_lload_n hx hb dS_farthestFrom_37 rfl (lv_at hl 2 rfl) ?_
        exact zz_lret hx hb hr hlocks dS_farthestFrom_38 (by rw [show i = n from by omega])
      · have h1n := (zz_ltN (a := i) (b := n) rfl rfl (by omega) (by omega)).mp h1
        refine lv_lload_n hx hb dS_farthestFrom_14 rfl (lv_at hl 2 rfl) ?_
        refine lv_aload_n hx hb dS_farthestFrom_15 rfl (lv_at hl 0 rfl) ?_
        refine zz_getS hx hb hT hown hK hP 0 rfl 9 (by decide) tw_61 rfl dS_farthestFrom_16 ?_
        refine lv_iload hx hb dS_farthestFrom_19 (lv_at hl 3 rfl) ?_
        refine zz_lald hx hb hK hP 1 0 rfl rfl i rfl (by first | omega | decide | assumption) (by decide) dS_farthestFrom_21 ?_
        refine lv_lload_n hx hb dS_farthestFrom_22 rfl (lv_at hl 1 rfl) ?_
        refine lv_lsub hx hb dS_farthestFrom_23 ?_
        refine zz_call (va_runS (Ts := []) (As := [.long ((off i) - mid)]) (own := RS) ⟨hx, hb, hml, hown, fun _ h => nomatch h⟩ (ct_J_abs l) (zt_cs hT tc_J_abs ts_J_abs tw_185 ⟨Nat.le_of_ble_eq_true rfl, Nat.le_of_ble_eq_true rfl⟩) (zz_pre0 hT) rfl rfl hl.1 rfl (lv_room (Nat.le_of_ble_eq_true rfl)) dS_farthestFrom_24 ⟨Nat.zero_le _, Nat.zero_le _⟩) ?_
        refine zz_call (va_runS (Ts := []) (As := [.long (zs_far off mid i), .long (zn_abs ((off i) - mid))]) (own := RS) ⟨hx, hb, hml, hown, fun _ h => nomatch h⟩ (ct_J_max_f86c l) (zt_cs hT tc_J_max_f86c ts_J_max_f86c tw_188 ⟨Nat.le_of_ble_eq_true rfl, Nat.le_of_ble_eq_true rfl⟩) (zz_pre0 hT) rfl rfl hl.1 rfl (lv_room (Nat.le_of_ble_eq_true rfl)) dS_farthestFrom_27 ⟨Nat.zero_le _, Nat.zero_le _⟩) ?_
        refine lv_lstore_n (lv' := [(3, .long (zn_max (zs_far off mid i) (zn_abs ((off i) - mid)))), (0, .ref o), (1, .long mid), (5, .int (nI i))]) hx hb dS_farthestFrom_30 rfl hl (by decide) rfl (fun ls hl => ?_)
        refine lv_iinc (k := 3) (v := nI (i + 1)) (lv' := [(5, .int (nI (i + 1))), (3, .long (zn_max (zs_far off mid i) (zn_abs ((off i) - mid)))), (0, .ref o), (1, .long mid)]) hx hb dS_farthestFrom_31 hl rfl (nI_succ _).symm (by decide) rfl (fun ls hl => ?_)
        refine lv_goto (tgt := 5) hx hb dS_farthestFrom_34 (by decide) ?_
        exact ih_lp (i + 1) (by omega) (by omega) _ (by rw [show zs_far off mid (i + 1) = zn_max (zs_far off mid i) (zn_abs ((off i) - mid)) from rfl]; exact lv_sub hl [2, 3, 1, 0] rfl)
  exact lp (n - 0 + 1) 0 (by omega) (Nat.zero_le _) _ (by rw [show zs_far off mid 0 = 0 from rfl]; rw [show nI 0 = 0 from rfl]; exact lv_sub hl [2, 3, 1, 0] rfl)
set_option maxHeartbeats 4000000 in
set_option maxRecDepth 100000 in
theorem ct_S_bestOffset (l : Launch) {dC : Nat → ClassId} {dI : Nat → Nat → Nat} {cJ cI cB cZ cS : ClassId} {o a b d : Nat} {den rch pol exg str : Int32} {xp rdl rds : Int64} {off del arr : Nat → Int64} {n : Nat} {now : Int64} (hn1 : 1 ≤ n) (hn : n ≤ 8) : Met l yS_bestOffset [Cond.code yS_bestOffset cS_bestOffset 3 (some .long)] { frames := 3, cells := 0, slots := 0, locals := 74 } (va_Pc [.ref o, .long now] (zz_B (dC, dI) vcl (zz_T cJ cI cB cZ cS) (zs_W o a b d cJ den rch pol exg xp (nI n) str rdl rds off del arr))) (zz_Q (.long (off (zs_at del arr now n)))) 0 0 (fun _ => False) := by
  refine Met.ofW (cc := cS_bestOffset) (maxL := 3) (ret := (some .long)) (by decide) rfl ?_
  intro p e s m args below meth c s₁ B hml hv
  obtain ⟨rfl, hT, hP, hK⟩ := hv
  have hx := B.exec
  have hb := B.bytes
  have hr := B.returns
  have hlocks := B.notSynchronized
  have hown : s.vm.findClass RS = some m.cls := findClass_of_methodNamed B.named
  have hl := lv_entry ([.ref o, .long now]) (n := 3) (Nat.le_of_ble_eq_true rfl)
  rw [lg_entry_eq]
  generalize (lg_sl ([.ref o, .long now]) ++ List.replicate (3 - (lg_sl ([.ref o, .long now])).length) Slot.unset).toArray = ls at hl ⊢
  have hl : lv_has ls 3 [(0, .ref o), (1, .long now)] := hl
  refine lv_aload_n hx hb dS_bestOffset_0 rfl (lv_at hl 0 rfl) ?_
  refine zz_getS hx hb hT hown hK hP 0 rfl 9 (by decide) tw_61 rfl dS_bestOffset_1 ?_
  refine lv_aload_n hx hb dS_bestOffset_4 rfl (lv_at hl 0 rfl) ?_
  refine lv_lload_n hx hb dS_bestOffset_5 rfl (lv_at hl 1 rfl) ?_
  refine zz_call (va_runV (Ts := []) (As := [.long now]) (own := RS) ⟨hx, hb, hml, hown, fun _ h => nomatch h⟩ (ct_S_bestAt l hn1 hn) (zt_cv hT tc_S_bestAt tv_S_bestAt tw_164 ⟨Nat.le_of_ble_eq_true rfl, Nat.le_of_ble_eq_true rfl⟩) (zz_preV (q0 := 0) hT hP hK rfl rfl) rfl rfl hl.1 rfl (lv_room (Nat.le_of_ble_eq_true rfl)) dS_bestOffset_6 ⟨Nat.zero_le _, Nat.zero_le _⟩) ?_
  refine zz_lald hx hb hK hP 1 0 rfl rfl (zs_at del arr now n) rfl (zs_best_lt _ hn) (by decide) dS_bestOffset_9 ?_
  exact zz_lret hx hb hr hlocks dS_bestOffset_10 (rfl)
set_option maxHeartbeats 4000000 in
set_option maxRecDepth 100000 in
theorem ct_S_bestDelay (l : Launch) {dC : Nat → ClassId} {dI : Nat → Nat → Nat} {cJ cI cB cZ cS : ClassId} {o a b d : Nat} {den rch pol exg str : Int32} {xp rdl rds : Int64} {off del arr : Nat → Int64} {n : Nat} {now : Int64} (hn1 : 1 ≤ n) (hn : n ≤ 8) : Met l yS_bestDelay [Cond.code yS_bestDelay cS_bestDelay 3 (some .long)] { frames := 3, cells := 0, slots := 0, locals := 74 } (va_Pc [.ref o, .long now] (zz_B (dC, dI) vcl (zz_T cJ cI cB cZ cS) (zs_W o a b d cJ den rch pol exg xp (nI n) str rdl rds off del arr))) (zz_Q (.long (del (zs_at del arr now n)))) 0 0 (fun _ => False) := by
  refine Met.ofW (cc := cS_bestDelay) (maxL := 3) (ret := (some .long)) (by decide) rfl ?_
  intro p e s m args below meth c s₁ B hml hv
  obtain ⟨rfl, hT, hP, hK⟩ := hv
  have hx := B.exec
  have hb := B.bytes
  have hr := B.returns
  have hlocks := B.notSynchronized
  have hown : s.vm.findClass RS = some m.cls := findClass_of_methodNamed B.named
  have hl := lv_entry ([.ref o, .long now]) (n := 3) (Nat.le_of_ble_eq_true rfl)
  rw [lg_entry_eq]
  generalize (lg_sl ([.ref o, .long now]) ++ List.replicate (3 - (lg_sl ([.ref o, .long now])).length) Slot.unset).toArray = ls at hl ⊢
  have hl : lv_has ls 3 [(0, .ref o), (1, .long now)] := hl
  refine lv_aload_n hx hb dS_bestDelay_0 rfl (lv_at hl 0 rfl) ?_
  refine zz_getS hx hb hT hown hK hP 0 rfl 10 (by decide) tw_62 rfl dS_bestDelay_1 ?_
  refine lv_aload_n hx hb dS_bestDelay_4 rfl (lv_at hl 0 rfl) ?_
  refine lv_lload_n hx hb dS_bestDelay_5 rfl (lv_at hl 1 rfl) ?_
  refine zz_call (va_runV (Ts := []) (As := [.long now]) (own := RS) ⟨hx, hb, hml, hown, fun _ h => nomatch h⟩ (ct_S_bestAt l hn1 hn) (zt_cv hT tc_S_bestAt tv_S_bestAt tw_164 ⟨Nat.le_of_ble_eq_true rfl, Nat.le_of_ble_eq_true rfl⟩) (zz_preV (q0 := 0) hT hP hK rfl rfl) rfl rfl hl.1 rfl (lv_room (Nat.le_of_ble_eq_true rfl)) dS_bestDelay_6 ⟨Nat.zero_le _, Nat.zero_le _⟩) ?_
  refine zz_lald hx hb hK hP 2 0 rfl rfl (zs_at del arr now n) rfl (zs_best_lt _ hn) (by decide) dS_bestDelay_9 ?_
  exact zz_lret hx hb hr hlocks dS_bestDelay_10 (rfl)
set_option maxHeartbeats 4000000 in
set_option maxRecDepth 100000 in
theorem ct_S_jitterAt (l : Launch) {dC : Nat → ClassId} {dI : Nat → Nat → Nat} {cJ cI cB cZ cS : ClassId} {o a b d : Nat} {den rch pol exg str : Int32} {xp rdl rds : Int64} {off del arr : Nat → Int64} {n : Nat} {now : Int64} (hn1 : 1 ≤ n) (hn : n ≤ 8) : Met l yS_jitterAt [Cond.code yS_jitterAt cS_jitterAt 3 (some .long)] { frames := 3, cells := 0, slots := 0, locals := 74 } (va_Pc [.ref o, .long now] (zz_B (dC, dI) vcl (zz_T cJ cI cB cZ cS) (zs_W o a b d cJ den rch pol exg xp (nI n) str rdl rds off del arr))) (zz_Q (.long (zs_jit off del arr now n))) 0 0 (fun _ => False) := by
  refine Met.ofW (cc := cS_jitterAt) (maxL := 3) (ret := (some .long)) (by decide) rfl ?_
  intro p e s m args below meth c s₁ B hml hv
  obtain ⟨rfl, hT, hP, hK⟩ := hv
  have hx := B.exec
  have hb := B.bytes
  have hr := B.returns
  have hlocks := B.notSynchronized
  have hown : s.vm.findClass RS = some m.cls := findClass_of_methodNamed B.named
  have hl := lv_entry ([.ref o, .long now]) (n := 3) (Nat.le_of_ble_eq_true rfl)
  rw [lg_entry_eq]
  generalize (lg_sl ([.ref o, .long now]) ++ List.replicate (3 - (lg_sl ([.ref o, .long now])).length) Slot.unset).toArray = ls at hl ⊢
  have hl : lv_has ls 3 [(0, .ref o), (1, .long now)] := hl
  refine lv_aload_n hx hb dS_jitterAt_0 rfl (lv_at hl 0 rfl) ?_
  refine lv_aload_n hx hb dS_jitterAt_1 rfl (lv_at hl 0 rfl) ?_
  refine zz_getS hx hb hT hown hK hP 0 rfl 9 (by decide) tw_61 rfl dS_jitterAt_2 ?_
  refine lv_aload_n hx hb dS_jitterAt_5 rfl (lv_at hl 0 rfl) ?_
  refine lv_lload_n hx hb dS_jitterAt_6 rfl (lv_at hl 1 rfl) ?_
  refine zz_call (va_runV (Ts := []) (As := [.long now]) (own := RS) ⟨hx, hb, hml, hown, fun _ h => nomatch h⟩ (ct_S_bestAt l hn1 hn) (zt_cv hT tc_S_bestAt tv_S_bestAt tw_164 ⟨Nat.le_of_ble_eq_true rfl, Nat.le_of_ble_eq_true rfl⟩) (zz_preV (q0 := 0) hT hP hK rfl rfl) rfl rfl hl.1 rfl (lv_room (Nat.le_of_ble_eq_true rfl)) dS_jitterAt_7 ⟨Nat.zero_le _, Nat.zero_le _⟩) ?_
  refine zz_lald hx hb hK hP 1 0 rfl rfl (zs_at del arr now n) rfl (zs_best_lt _ hn) (by decide) dS_jitterAt_10 ?_
  refine zz_call (va_runV (Ts := []) (As := [.long (off (zs_at del arr now n))]) (own := RS) ⟨hx, hb, hml, hown, fun _ h => nomatch h⟩ (ct_S_farthestFrom l hn) (zt_cv hT tc_S_farthestFrom tv_S_farthestFrom tw_181 ⟨Nat.le_of_ble_eq_true rfl, Nat.le_of_ble_eq_true rfl⟩) (zz_preV (q0 := 0) hT hP hK rfl rfl) rfl rfl hl.1 rfl (lv_room (Nat.le_of_ble_eq_true rfl)) dS_jitterAt_11 ⟨Nat.zero_le _, Nat.zero_le _⟩) ?_
  exact zz_lret hx hb hr hlocks dS_jitterAt_14 (rfl)
set_option maxHeartbeats 4000000 in
set_option maxRecDepth 100000 in
theorem ct_S_rootDistance (l : Launch) {dC : Nat → ClassId} {dI : Nat → Nat → Nat} {cJ cI cB cZ cS : ClassId} {o a b d : Nat} {den rch pol exg str : Int32} {xp rdl rds : Int64} {off del arr : Nat → Int64} {n : Nat} {now : Int64} (hn1 : 1 ≤ n) (hn : n ≤ 8) : Met l yS_rootDistance [Cond.code yS_rootDistance cS_rootDistance 4 (some .long)] { frames := 3, cells := 0, slots := 0, locals := 74 } (va_Pc [.ref o, .long now] (zz_B (dC, dI) vcl (zz_T cJ cI cB cZ cS) (zs_W o a b d cJ den rch pol exg xp (nI n) str rdl rds off del arr))) (zz_Q (.long (zs_root rdl rds off del arr now n))) 0 0 (fun _ => False) := by
  refine Met.ofW (cc := cS_rootDistance) (maxL := 4) (ret := (some .long)) (by decide) rfl ?_
  intro p e s m args below meth c s₁ B hml hv
  obtain ⟨rfl, hT, hP, hK⟩ := hv
  have hx := B.exec
  have hb := B.bytes
  have hr := B.returns
  have hlocks := B.notSynchronized
  have hown : s.vm.findClass RS = some m.cls := findClass_of_methodNamed B.named
  have hl := lv_entry ([.ref o, .long now]) (n := 4) (Nat.le_of_ble_eq_true rfl)
  rw [lg_entry_eq]
  generalize (lg_sl ([.ref o, .long now]) ++ List.replicate (4 - (lg_sl ([.ref o, .long now])).length) Slot.unset).toArray = ls at hl ⊢
  have hl : lv_has ls 4 [(0, .ref o), (1, .long now)] := hl
  refine lv_aload_n hx hb dS_rootDistance_0 rfl (lv_at hl 0 rfl) ?_
  refine lv_lload_n hx hb dS_rootDistance_1 rfl (lv_at hl 1 rfl) ?_
  refine zz_call (va_runV (Ts := []) (As := [.long now]) (own := RS) ⟨hx, hb, hml, hown, fun _ h => nomatch h⟩ (ct_S_bestAt l hn1 hn) (zt_cv hT tc_S_bestAt tv_S_bestAt tw_164 ⟨Nat.le_of_ble_eq_true rfl, Nat.le_of_ble_eq_true rfl⟩) (zz_preV (q0 := 0) hT hP hK rfl rfl) rfl rfl hl.1 rfl (lv_room (Nat.le_of_ble_eq_true rfl)) dS_rootDistance_2 ⟨Nat.zero_le _, Nat.zero_le _⟩) ?_
  refine lv_istore_n (lv' := [(3, .int (nI (zs_at del arr now n))), (0, .ref o), (1, .long now)]) hx hb dS_rootDistance_5 rfl hl (by decide) rfl (fun ls hl => ?_)
  refine lv_aload_n hx hb dS_rootDistance_6 rfl (lv_at hl 1 rfl) ?_
  refine zz_getS hx hb hT hown hK hP 0 rfl 7 (by decide) tw_59 rfl dS_rootDistance_7 ?_
  refine lv_ldc2 (own := RS) (v := 2) hx hb hown (hT.w tw_172) dS_rootDistance_10 ?_
  refine lv_ldiv hx hb dS_rootDistance_13 (by decide) ?_
  refine lv_aload_n hx hb dS_rootDistance_14 rfl (lv_at hl 1 rfl) ?_
  refine lv_iload_n hx hb dS_rootDistance_15 rfl (lv_at hl 0 rfl) ?_
  refine lv_lload_n hx hb dS_rootDistance_16 rfl (lv_at hl 2 rfl) ?_
  refine zz_call (va_runV (Ts := []) (As := [.int (nI (zs_at del arr now n)), .long now]) (own := RS) ⟨hx, hb, hml, hown, fun _ h => nomatch h⟩ (ct_S_distanceOf l (i := (zs_at del arr now n)) (by first | omega | exact zs_best_lt _ (by omega))) (zt_cv hT tc_S_distanceOf tv_S_distanceOf tw_168 ⟨Nat.le_of_ble_eq_true rfl, Nat.le_of_ble_eq_true rfl⟩) (zz_preV (q0 := 0) hT hP hK rfl rfl) rfl rfl hl.1 rfl (lv_room (Nat.le_of_ble_eq_true rfl)) dS_rootDistance_17 ⟨Nat.zero_le _, Nat.zero_le _⟩) ?_
  refine lv_ladd hx hb dS_rootDistance_20 ?_
  refine lv_aload_n hx hb dS_rootDistance_21 rfl (lv_at hl 1 rfl) ?_
  refine zz_getS hx hb hT hown hK hP 0 rfl 8 (by decide) tw_60 rfl dS_rootDistance_22 ?_
  refine lv_ladd hx hb dS_rootDistance_25 ?_
  refine lv_aload_n hx hb dS_rootDistance_26 rfl (lv_at hl 1 rfl) ?_
  refine lv_aload_n hx hb dS_rootDistance_27 rfl (lv_at hl 1 rfl) ?_
  refine zz_getS hx hb hT hown hK hP 0 rfl 9 (by decide) tw_61 rfl dS_rootDistance_28 ?_
  refine lv_iload_n hx hb dS_rootDistance_31 rfl (lv_at hl 0 rfl) ?_
  refine zz_lald hx hb hK hP 1 0 rfl rfl (zs_at del arr now n) rfl (zs_best_lt _ hn) (by decide) dS_rootDistance_32 ?_
  refine zz_call (va_runV (Ts := []) (As := [.long (off (zs_at del arr now n))]) (own := RS) ⟨hx, hb, hml, hown, fun _ h => nomatch h⟩ (ct_S_farthestFrom l hn) (zt_cv hT tc_S_farthestFrom tv_S_farthestFrom tw_181 ⟨Nat.le_of_ble_eq_true rfl, Nat.le_of_ble_eq_true rfl⟩) (zz_preV (q0 := 0) hT hP hK rfl rfl) rfl rfl hl.1 rfl (lv_room (Nat.le_of_ble_eq_true rfl)) dS_rootDistance_33 ⟨Nat.zero_le _, Nat.zero_le _⟩) ?_
  refine lv_ladd hx hb dS_rootDistance_36 ?_
  exact zz_lret hx hb hr hlocks dS_rootDistance_37 (rfl)
