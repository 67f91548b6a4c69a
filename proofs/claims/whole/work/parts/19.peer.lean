/-! The peer, as the class chooses it -/
set_option maxHeartbeats 4000000 in
set_option maxRecDepth 100000 in
theorem ct_V_isBetter (l : Launch) {dC : Nat → ClassId} {dI : Nat → Nat → Nat} {cJ cI cB cZ cS : ClassId} {v a b : Nat} {cand surv : Int32} {low high : Int64} {vo vd : Nat → Int64} {sv : Nat} {so sa sb sd : Nat → Nat} {den rch pol exg str : Nat → Int32} {xp rdl rds : Nat → Int64} {nn : Nat → Nat} {off del arr : Nat → Nat → Int64} {x y : Nat} (hx5 : x < 5) (hy5 : y < 5) : Met l yV_isBetter [Cond.code yV_isBetter cV_isBetter 6 (some .boolean)] { frames := 0, cells := 0, slots := 0, locals := 0 } (va_Pc [.ref v, .ref sv, .int (nI x), .int (nI y)] (zz_B (dC, dI) vcl (zz_T cJ cI cB cZ cS) (zv_W v a b cJ cand low high surv vo vd ++ zw_A sv cS cJ so sa sb sd den rch pol exg xp nn str rdl rds off del arr))) (zz_Q (.int (zv_btr str vd x y))) 0 0 (fun _ => False) := by
  refine Met.ofW (cc := cV_isBetter) (maxL := 6) (ret := (some .boolean)) (by decide) rfl ?_
  intro p e s m args below meth c s₁ B hml hv
  obtain ⟨rfl, hT, hP, hK⟩ := hv
  have hx := B.exec
  have hb := B.bytes
  have hr := B.returns
  have hlocks := B.notSynchronized
  have hown : s.vm.findClass RV = some m.cls := findClass_of_methodNamed B.named
  have hl := lv_entry ([.ref v, .ref sv, .int (nI x), .int (nI y)]) (n := 6) (Nat.le_of_ble_eq_true rfl)
  rw [lg_entry_eq]
  generalize (lg_sl ([.ref v, .ref sv, .int (nI x), .int (nI y)]) ++ List.replicate (6 - (lg_sl ([.ref v, .ref sv, .int (nI x), .int (nI y)])).length) Slot.unset).toArray = ls at hl ⊢
  have hl : lv_has ls 6 [(0, .ref v), (1, .ref sv), (2, .int (nI x)), (3, .int (nI y))] := hl
  have hPA : va_P (dC, dI) vcl (zw_A sv cS cJ so sa sb sd den rch pol exg xp nn str rdl rds off del arr) s.heap := zz_Pmem hP (fun q h => List.mem_append_right _ h)
  refine lv_aload_n hx hb dV_isBetter_0 rfl (lv_at hl 1 rfl) ?_
  refine lv_iload_n hx hb dV_isBetter_1 rfl (lv_at hl 2 rfl) ?_
  refine zz_aald hx hb hK hP 3 4 rfl rfl x rfl (by first | omega | decide | assumption) (by decide) rfl dV_isBetter_2 ?_
  have hPs1 := zw_get hPA (k := x) (by omega)
  refine zz_getS hx hb hT hown hK hPs1 0 rfl 6 (by decide) tw_58 rfl dV_isBetter_3 ?_
  refine lv_istore (lv' := [(4, .int (str x)), (0, .ref v), (1, .ref sv), (2, .int (nI x)), (3, .int (nI y))]) hx hb dV_isBetter_6 hl (by decide) rfl (fun ls hl => ?_)
  refine lv_aload_n hx hb dV_isBetter_8 rfl (lv_at hl 2 rfl) ?_
  refine lv_iload_n hx hb dV_isBetter_9 rfl (lv_at hl 4 rfl) ?_
  refine zz_aald hx hb hK hP 3 4 rfl rfl y rfl (by first | omega | decide | assumption) (by decide) rfl dV_isBetter_10 ?_
  have hPs2 := zw_get hPA (k := y) (by omega)
  refine zz_getS hx hb hT hown hK hPs2 0 rfl 6 (by decide) tw_58 rfl dV_isBetter_11 ?_
  refine lv_istore (lv' := [(5, .int (str y)), (4, .int (str x)), (0, .ref v), (1, .ref sv), (2, .int (nI x)), (3, .int (nI y))]) hx hb dV_isBetter_14 hl (by decide) rfl (fun ls hl => ?_)
  refine lv_iload hx hb dV_isBetter_16 (lv_at hl 1 rfl) ?_
  refine lv_iload hx hb dV_isBetter_18 (lv_at hl 0 rfl) ?_
  refine zz_ilt (tgt := 46) hx hb dV_isBetter_20 (by decide) (fun h1 => ?_) (fun h1 => ?_)
  · refine lv_iconst (v := 1) hx hb dV_isBetter_46 (by decide) ?_
    refine lv_goto (tgt := 51) hx hb dV_isBetter_47 (by decide) ?_
    exact zz_bret hx hb hr hlocks dV_isBetter_51 (by decide) (by unfold zv_btr; rw [if_pos (Or.inl h1)])
  · refine lv_iload hx hb dV_isBetter_23 (lv_at hl 1 rfl) ?_
    refine lv_iload hx hb dV_isBetter_25 (lv_at hl 0 rfl) ?_
    refine zz_ine (tgt := 50) hx hb dV_isBetter_27 (by decide) (fun h2 => ?_) (fun h2 => ?_)
    · refine lv_iconst (v := 0) hx hb dV_isBetter_50 (by decide) ?_
      exact zz_bret hx hb hr hlocks dV_isBetter_51 (by decide) (by unfold zv_btr; rw [if_neg (fun q => q.elim h1 (fun r => h2 r.1))])
    · refine lv_aload_n hx hb dV_isBetter_30 rfl (lv_at hl 2 rfl) ?_
      refine zz_getV hx hb hT hown hK hP 0 rfl 5 (by decide) tw_107 rfl dV_isBetter_31 ?_
      refine lv_iload_n hx hb dV_isBetter_34 rfl (lv_at hl 4 rfl) ?_
      refine zz_lald hx hb hK hP 2 0 rfl rfl x rfl (by first | omega | decide | assumption) (by decide) dV_isBetter_35 ?_
      refine lv_aload_n hx hb dV_isBetter_36 rfl (lv_at hl 2 rfl) ?_
      refine zz_getV hx hb hT hown hK hP 0 rfl 5 (by decide) tw_107 rfl dV_isBetter_37 ?_
      refine lv_iload_n hx hb dV_isBetter_40 rfl (lv_at hl 5 rfl) ?_
      refine zz_lald hx hb hK hP 2 0 rfl rfl y rfl (by first | omega | decide | assumption) (by decide) dV_isBetter_41 ?_
      refine zz_lge (tgt := 50) hx hb dV_isBetter_42 dV_isBetter_43 (by decide) (fun h3 => ?_) (fun h3 => ?_)
      · refine lv_iconst (v := 0) hx hb dV_isBetter_50 (by decide) ?_
        exact zz_bret hx hb hr hlocks dV_isBetter_51 (by decide) (by unfold zv_btr; rw [if_neg (fun q => q.elim h1 (fun r => h3 r.2))])
      · refine lv_iconst (v := 1) hx hb dV_isBetter_46 (by decide) ?_
        refine lv_goto (tgt := 51) hx hb dV_isBetter_47 (by decide) ?_
        exact zz_bret hx hb hr hlocks dV_isBetter_51 (by decide) (by unfold zv_btr; rw [if_pos (Or.inr ⟨h2, h3⟩)])
set_option maxHeartbeats 4000000 in
set_option maxRecDepth 100000 in
theorem ct_V_choosePeer (l : Launch) {dC : Nat → ClassId} {dI : Nat → Nat → Nat} {cJ cI cB cZ cS : ClassId} {v a b : Nat} {cand surv : Int32} {low high : Int64} {vo vd : Nat → Int64} {sv : Nat} {so sa sb sd : Nat → Nat} {den rch pol exg str : Nat → Int32} {xp rdl rds : Nat → Int64} {nn : Nat → Nat} {off del arr : Nat → Nat → Int64} : Met l yV_choosePeer [Cond.code yV_choosePeer cV_choosePeer 4 (some .int)] { frames := 1, cells := 0, slots := 0, locals := 25 } (va_Pc [.ref v, .ref sv] (zz_B (dC, dI) vcl (zz_T cJ cI cB cZ cS) (zv_W v a b cJ cand low high surv vo vd ++ zw_A sv cS cJ so sa sb sd den rch pol exg xp nn str rdl rds off del arr))) (zz_Q (.int (zn_maxi 0 (zv_o (zv_cp surv str vd 5))))) 0 0 (fun _ => False) := by
  refine Met.ofW (cc := cV_choosePeer) (maxL := 4) (ret := (some .int)) (by decide) rfl ?_
  intro p e s m args below meth c s₁ B hml hv
  obtain ⟨rfl, hT, hP, hK⟩ := hv
  have hx := B.exec
  have hb := B.bytes
  have hr := B.returns
  have hlocks := B.notSynchronized
  have hown : s.vm.findClass RV = some m.cls := findClass_of_methodNamed B.named
  have hl := lv_entry ([.ref v, .ref sv]) (n := 4) (Nat.le_of_ble_eq_true rfl)
  rw [lg_entry_eq]
  generalize (lg_sl ([.ref v, .ref sv]) ++ List.replicate (4 - (lg_sl ([.ref v, .ref sv])).length) Slot.unset).toArray = ls at hl ⊢
  have hl : lv_has ls 4 [(0, .ref v), (1, .ref sv)] := hl
  refine lv_iconst (v := (-1)) hx hb dV_choosePeer_0 (by decide) ?_
  refine lv_istore_n (lv' := [(2, .int (-1)), (0, .ref v), (1, .ref sv)]) hx hb dV_choosePeer_1 rfl hl (by decide) rfl (fun ls hl => ?_)
  refine lv_iconst (v := 0) hx hb dV_choosePeer_2 (by decide) ?_
  refine lv_istore_n (lv' := [(3, .int 0), (2, .int (-1)), (0, .ref v), (1, .ref sv)]) hx hb dV_choosePeer_3 rfl hl (by decide) rfl (fun ls hl => ?_)
  have lp : ∀ (k9 : Nat) (i : Nat), 5 - i < k9 → (i ≤ 5) → ∀ ls : Array Slot, lv_has ls 4 [(0, .ref v), (1, .ref sv), (2, .int (zv_o (zv_cp surv str vd i))), (3, .int (nI i))] → W p l e ({ frames := 1, cells := 0, slots := 0, locals := 25 } : Room) s m ([.ref v, .ref sv] : List Value).toArray below meth c s.heap [] 0 0 (MQ below (zz_Q (.int (zn_maxi 0 (zv_o (zv_cp surv str vd 5))))) ([.ref v, .ref sv] : List Value).toArray s 0 0 (fun _ => False)) (F0 m 4 ls []) := by
    intro k9
    induction k9 with
    | zero => intro i hk9; exact absurd hk9 (Nat.not_lt_zero _)
    | succ k9 ih_lp =>
      intro i hk9 hi ls hl
      rcases hbo : zv_cp surv str vd i with _ | b9
      · have hl : lv_has ls 4 [(0, .ref v), (1, .ref sv), (2, .int (-1)), (3, .int (nI i))] := by rw [hbo] at hl; exact hl
        refine lv_iload_n hx hb dV_choosePeer_4 rfl (lv_at hl 3 rfl) ?_
        refine lv_iconst (v := 5) hx hb dV_choosePeer_5 (by decide) ?_
        refine zz_ige (tgt := 42) hx hb dV_choosePeer_6 (by decide) (fun h1 => ?_) (fun h1 => ?_)
        · have h1n := mt (zz_ltN (a := i) (b := 5) rfl rfl (by omega) (by omega)).mpr h1
          refine lv_iconst (v := 0) hx hb dV_choosePeer_42 (by decide) ?_
          refine lv_iload_n hx hb dV_choosePeer_43 rfl (lv_at hl 2 rfl) ?_
          refine zz_call (va_runS (Ts := []) (As := [.int 0, .int (-1)]) (own := RV) ⟨hx, hb, hml, hown, fun _ h => nomatch h⟩ (ct_J_max_7cf5 l) (zt_cs hT tc_J_max_7cf5 ts_J_max_7cf5 tw_557 ⟨Nat.le_of_ble_eq_true rfl, Nat.le_of_ble_eq_true rfl⟩) (zz_pre0 hT) rfl rfl hl.1 rfl (lv_room (Nat.le_of_ble_eq_true rfl)) dV_choosePeer_44 ⟨Nat.zero_le _, Nat.zero_le _⟩) ?_
          exact zz_iret hx hb hr hlocks dV_choosePeer_47 (by have e9 : i = 5 := (by omega); subst e9; rw [hbo]; rfl)
        · have h1n := (zz_ltN (a := i) (b := 5) rfl rfl (by omega) (by omega)).mp h1
          refine lv_aload_n hx hb dV_choosePeer_9 rfl (lv_at hl 0 rfl) ?_
          refine zz_getV hx hb hT hown hK hP 0 rfl 3 (by decide) tw_104 rfl dV_choosePeer_10 ?_
          refine lv_iload_n hx hb dV_choosePeer_13 rfl (lv_at hl 3 rfl) ?_
          refine zz_call (va_runS (Ts := []) (As := [.int surv, .int (nI i)]) (own := RV) ⟨hx, hb, hml, hown, fun _ h => nomatch h⟩ (ct_V_has l) (zt_cs hT tc_V_has ts_V_has tw_196 ⟨Nat.le_of_ble_eq_true rfl, Nat.le_of_ble_eq_true rfl⟩) (zz_pre0 hT) rfl rfl hl.1 rfl (lv_room (Nat.le_of_ble_eq_true rfl)) dV_choosePeer_14 ⟨Nat.zero_le _, Nat.zero_le _⟩) ?_
          refine zz_zeq (tgt := 36) hx hb dV_choosePeer_17 (by decide) (fun h2 => ?_) (fun h2 => ?_)
          · refine lv_iinc (k := 3) (v := nI (i + 1)) (lv' := [(3, .int (nI (i + 1))), (0, .ref v), (1, .ref sv), (2, .int (-1))]) hx hb dV_choosePeer_36 hl rfl (nI_succ _).symm (by decide) rfl (fun ls hl => ?_)
            refine lv_goto (tgt := 4) hx hb dV_choosePeer_39 (by decide) ?_
            exact ih_lp (i + 1) (by omega) (by omega) _ (by rw [show zv_o (zv_cp surv str vd (i + 1)) = (-1) from congrArg zv_o ((if_pos h2).trans hbo)]; exact lv_sub hl [1, 2, 3, 0] rfl)
          · refine lv_iload_n hx hb dV_choosePeer_20 rfl (lv_at hl 2 rfl) ?_
            refine zz_zlt (tgt := 34) hx hb dV_choosePeer_21 (by decide) (fun _ => ?_) (fun h => absurd h (by decide))
            refine lv_iload_n hx hb dV_choosePeer_34 rfl (lv_at hl 3 rfl) ?_
            refine lv_istore_n (lv' := [(2, .int (nI i)), (0, .ref v), (1, .ref sv), (3, .int (nI i))]) hx hb dV_choosePeer_35 rfl hl (by decide) rfl (fun ls hl => ?_)
            refine lv_iinc (k := 3) (v := nI (i + 1)) (lv' := [(3, .int (nI (i + 1))), (2, .int (nI i)), (0, .ref v), (1, .ref sv)]) hx hb dV_choosePeer_36 hl rfl (nI_succ _).symm (by decide) rfl (fun ls hl => ?_)
            refine lv_goto (tgt := 4) hx hb dV_choosePeer_39 (by decide) ?_
            exact ih_lp (i + 1) (by omega) (by omega) _ (by rw [show zv_o (zv_cp surv str vd (i + 1)) = nI i from congrArg zv_o (zv_cp_n h2 hbo)]; exact lv_sub hl [2, 3, 1, 0] rfl)
      · have hl : lv_has ls 4 [(0, .ref v), (1, .ref sv), (2, .int (nI b9)), (3, .int (nI i))] := by rw [hbo] at hl; exact hl
        have hb9 := zv_cp_lt hbo
        refine lv_iload_n hx hb dV_choosePeer_4 rfl (lv_at hl 3 rfl) ?_
        refine lv_iconst (v := 5) hx hb dV_choosePeer_5 (by decide) ?_
        refine zz_ige (tgt := 42) hx hb dV_choosePeer_6 (by decide) (fun h3 => ?_) (fun h3 => ?_)
        · have h3n := mt (zz_ltN (a := i) (b := 5) rfl rfl (by omega) (by omega)).mpr h3
          refine lv_iconst (v := 0) hx hb dV_choosePeer_42 (by decide) ?_
          refine lv_iload_n hx hb dV_choosePeer_43 rfl (lv_at hl 2 rfl) ?_
          refine zz_call (va_runS (Ts := []) (As := [.int 0, .int (nI b9)]) (own := RV) ⟨hx, hb, hml, hown, fun _ h => nomatch h⟩ (ct_J_max_7cf5 l) (zt_cs hT tc_J_max_7cf5 ts_J_max_7cf5 tw_557 ⟨Nat.le_of_ble_eq_true rfl, Nat.le_of_ble_eq_true rfl⟩) (zz_pre0 hT) rfl rfl hl.1 rfl (lv_room (Nat.le_of_ble_eq_true rfl)) dV_choosePeer_44 ⟨Nat.zero_le _, Nat.zero_le _⟩) ?_
          exact zz_iret hx hb hr hlocks dV_choosePeer_47 (by have e9 : i = 5 := (by omega); subst e9; rw [hbo]; rfl)
        · have h3n := (zz_ltN (a := i) (b := 5) rfl rfl (by omega) (by omega)).mp h3
          refine lv_aload_n hx hb dV_choosePeer_9 rfl (lv_at hl 0 rfl) ?_
          refine zz_getV hx hb hT hown hK hP 0 rfl 3 (by decide) tw_104 rfl dV_choosePeer_10 ?_
          refine lv_iload_n hx hb dV_choosePeer_13 rfl (lv_at hl 3 rfl) ?_
          refine zz_call (va_runS (Ts := []) (As := [.int surv, .int (nI i)]) (own := RV) ⟨hx, hb, hml, hown, fun _ h => nomatch h⟩ (ct_V_has l) (zt_cs hT tc_V_has ts_V_has tw_196 ⟨Nat.le_of_ble_eq_true rfl, Nat.le_of_ble_eq_true rfl⟩) (zz_pre0 hT) rfl rfl hl.1 rfl (lv_room (Nat.le_of_ble_eq_true rfl)) dV_choosePeer_14 ⟨Nat.zero_le _, Nat.zero_le _⟩) ?_
          refine zz_zeq (tgt := 36) hx hb dV_choosePeer_17 (by decide) (fun h4 => ?_) (fun h4 => ?_)
          · refine lv_iinc (k := 3) (v := nI (i + 1)) (lv' := [(3, .int (nI (i + 1))), (0, .ref v), (1, .ref sv), (2, .int (nI b9))]) hx hb dV_choosePeer_36 hl rfl (nI_succ _).symm (by decide) rfl (fun ls hl => ?_)
            refine lv_goto (tgt := 4) hx hb dV_choosePeer_39 (by decide) ?_
            exact ih_lp (i + 1) (by omega) (by omega) _ (by rw [show zv_o (zv_cp surv str vd (i + 1)) = nI b9 from congrArg zv_o ((if_pos h4).trans hbo)]; exact lv_sub hl [1, 2, 3, 0] rfl)
          · refine lv_iload_n hx hb dV_choosePeer_20 rfl (lv_at hl 2 rfl) ?_
            refine zz_zlt (tgt := 34) hx hb dV_choosePeer_21 (by decide) (fun h => absurd ((zz_ltN (a := b9) (b := 0) rfl rfl (by omega) (by omega)).mp h) (Nat.not_lt_zero _)) (fun _ => ?_)
            refine lv_aload_n hx hb dV_choosePeer_24 rfl (lv_at hl 0 rfl) ?_
            refine lv_aload_n hx hb dV_choosePeer_25 rfl (lv_at hl 1 rfl) ?_
            refine lv_iload_n hx hb dV_choosePeer_26 rfl (lv_at hl 3 rfl) ?_
            refine lv_iload_n hx hb dV_choosePeer_27 rfl (lv_at hl 2 rfl) ?_
            refine zz_call (va_runV (Ts := []) (As := [.ref sv, .int (nI i), .int (nI b9)]) (own := RV) ⟨hx, hb, hml, hown, fun _ h => nomatch h⟩ (ct_V_isBetter l (x := i) (y := b9) (by omega) (by omega)) (zt_cv hT tc_V_isBetter tv_V_isBetter tw_553 ⟨Nat.le_of_ble_eq_true rfl, Nat.le_of_ble_eq_true rfl⟩) (zz_preV (q0 := 0) hT hP hK rfl rfl) rfl rfl hl.1 rfl (lv_room (Nat.le_of_ble_eq_true rfl)) dV_choosePeer_28 ⟨Nat.zero_le _, Nat.zero_le _⟩) ?_
            refine zz_zeq (tgt := 36) hx hb dV_choosePeer_31 (by decide) (fun h5 => ?_) (fun h5 => ?_)
            · refine lv_iinc (k := 3) (v := nI (i + 1)) (lv' := [(3, .int (nI (i + 1))), (0, .ref v), (1, .ref sv), (2, .int (nI b9))]) hx hb dV_choosePeer_36 hl rfl (nI_succ _).symm (by decide) rfl (fun ls hl => ?_)
              refine lv_goto (tgt := 4) hx hb dV_choosePeer_39 (by decide) ?_
              exact ih_lp (i + 1) (by omega) (by omega) _ (by rw [show zv_o (zv_cp surv str vd (i + 1)) = nI b9 from congrArg zv_o (zv_cp_s h4 hbo h5)]; exact lv_sub hl [1, 2, 3, 0] rfl)
            · refine lv_iload_n hx hb dV_choosePeer_34 rfl (lv_at hl 3 rfl) ?_
              refine lv_istore_n (lv' := [(2, .int (nI i)), (0, .ref v), (1, .ref sv), (3, .int (nI i))]) hx hb dV_choosePeer_35 rfl hl (by decide) rfl (fun ls hl => ?_)
              refine lv_iinc (k := 3) (v := nI (i + 1)) (lv' := [(3, .int (nI (i + 1))), (2, .int (nI i)), (0, .ref v), (1, .ref sv)]) hx hb dV_choosePeer_36 hl rfl (nI_succ _).symm (by decide) rfl (fun ls hl => ?_)
              refine lv_goto (tgt := 4) hx hb dV_choosePeer_39 (by decide) ?_
              exact ih_lp (i + 1) (by omega) (by omega) _ (by rw [show zv_o (zv_cp surv str vd (i + 1)) = nI i from congrArg zv_o (zv_cp_t h4 hbo h5)]; exact lv_sub hl [2, 3, 1, 0] rfl)
  exact lp (5 - 0 + 1) 0 (by omega) (Nat.zero_le _) _ (by rw [show zv_o (zv_cp surv str vd 0) = (-1) from rfl]; rw [show nI 0 = 0 from rfl]; exact lv_sub hl [2, 3, 1, 0] rfl)
set_option maxHeartbeats 4000000 in
set_option maxRecDepth 100000 in
theorem ct_M_peerOf (l : Launch) {dC : Nat → ClassId} {dI : Nat → Nat → Nat} {cJ cI cB cZ cS : ClassId} {o : Nat} {ad : Nat → Nat} {thr wst : Int32} {loc slw low high : Int64} {pk den rch pol ask str ins : Nat → Int32} {xp rdl rds off del cam : Nat → Int64} {nn : Nat → Nat} (hn : ∀ k, k < 5 → nn k ≤ 8) : Met l yM_peerOf [Cond.code yM_peerOf cM_peerOf 4 (some .int)] { frames := 4, cells := 0, slots := 0, locals := 95 } (va_Pc [.ref o] (zz_B (dC, dI) vcl (zz_T cJ cI cB cZ cS) (zm_W o ad cI cJ cZ thr loc slw wst pk den rch pol ask xp str rdl rds nn off del cam ins low high))) (zz_Q (.int (zv_o (zm_pe ins str (zm_d rdl rds off del cam loc nn) 5)))) 0 0 (fun _ => False) := by
  refine Met.ofW (cc := cM_peerOf) (maxL := 4) (ret := (some .int)) (by decide) rfl ?_
  intro p e s m args below meth c s₁ B hml hv
  obtain ⟨rfl, hT, hP, hK⟩ := hv
  have hx := B.exec
  have hb := B.bytes
  have hr := B.returns
  have hlocks := B.notSynchronized
  have hown : s.vm.findClass RM = some m.cls := findClass_of_methodNamed B.named
  have hl := lv_entry ([.ref o]) (n := 4) (Nat.le_of_ble_eq_true rfl)
  rw [lg_entry_eq]
  generalize (lg_sl ([.ref o]) ++ List.replicate (4 - (lg_sl ([.ref o])).length) Slot.unset).toArray = ls at hl ⊢
  have hl : lv_has ls 4 [(0, .ref o)] := hl
  refine lv_iconst (v := (-1)) hx hb dM_peerOf_0 (by decide) ?_
  refine lv_istore_n (lv' := [(1, .int (-1)), (0, .ref o)]) hx hb dM_peerOf_1 rfl hl (by decide) rfl (fun ls hl => ?_)
  refine lv_iconst (v := 4) hx hb dM_peerOf_2 (by decide) ?_
  refine lv_istore_n (lv' := [(2, .int 4), (1, .int (-1)), (0, .ref o)]) hx hb dM_peerOf_3 rfl hl (by decide) rfl (fun ls hl => ?_)
  have lp : ∀ (k9 : Nat) (j : Nat) (r : Nat), j < k9 → (j + r = 5) → ∀ ls : Array Slot, lv_has ls 4 [(0, .ref o), (1, .int (zv_o (zm_pe ins str (zm_d rdl rds off del cam loc nn) r))), (2, .int (zm_dn j))] → W p l e ({ frames := 4, cells := 0, slots := 0, locals := 95 } : Room) s m ([.ref o] : List Value).toArray below meth c s.heap [] 0 0 (MQ below (zz_Q (.int (zv_o (zm_pe ins str (zm_d rdl rds off del cam loc nn) 5)))) ([.ref o] : List Value).toArray s 0 0 (fun _ => False)) (F0 m 4 ls []) := by
    intro k9
    induction k9 with
    | zero => intro j r hk9; exact absurd hk9 (Nat.not_lt_zero _)
    | succ k9 ih_lp =>
      intro j r hk9 hjr ls hl
      rcases hbo : zm_pe ins str (zm_d rdl rds off del cam loc nn) r with _ | b9
      · have hl : lv_has ls 4 [(0, .ref o), (1, .int (-1)), (2, .int (zm_dn j))] := by rw [hbo] at hl; exact hl
        rcases j with _ | j
        · have hl : lv_has ls 4 [(0, .ref o), (1, .int (-1)), (2, .int (-1))] := hl
          refine lv_iload_n hx hb dM_peerOf_4 rfl (lv_at hl 2 rfl) ?_
          refine zz_zlt (tgt := 87) hx hb dM_peerOf_5 (by decide) (fun _ => ?_) (fun h => absurd h (by decide))
          refine lv_iload_n hx hb dM_peerOf_87 rfl (lv_at hl 1 rfl) ?_
          exact zz_iret hx hb hr hlocks dM_peerOf_88 (by have e9 : r = 5 := (by omega); subst e9; rw [hbo]; rfl)
        · have hl : lv_has ls 4 [(0, .ref o), (1, .int (-1)), (2, .int (nI j))] := hl
          refine lv_iload_n hx hb dM_peerOf_4 rfl (lv_at hl 2 rfl) ?_
          refine zz_zlt (tgt := 87) hx hb dM_peerOf_5 (by decide) (fun h => absurd ((zz_ltN (a := j) (b := 0) rfl rfl (by omega) (by omega)).mp h) (Nat.not_lt_zero _)) (fun _ => ?_)
          refine lv_aload_n hx hb dM_peerOf_8 rfl (lv_at hl 0 rfl) ?_
          refine zz_getM hx hb hT hown hK hP 0 rfl 17 (by decide) tw_634 rfl dM_peerOf_9 ?_
          refine lv_iload_n hx hb dM_peerOf_12 rfl (lv_at hl 2 rfl) ?_
          refine zz_zald hx hb hK hP 14 3 rfl rfl j rfl (by first | omega | decide | assumption) (by decide) dM_peerOf_13 ?_
          refine zz_zeq (tgt := 69) hx hb dM_peerOf_14 (by decide) (fun h1 => ?_) (fun h1 => ?_)
          · refine lv_iconst (v := 0) hx hb dM_peerOf_69 (by decide) ?_
            refine lv_istore_n (lv' := [(3, .int 0), (0, .ref o), (1, .int (-1)), (2, .int (nI j))]) hx hb dM_peerOf_70 rfl hl (by decide) rfl (fun ls hl => ?_)
            refine lv_iload_n hx hb dM_peerOf_71 rfl (lv_at hl 0 rfl) ?_
            refine zz_zeq (tgt := 79) hx hb dM_peerOf_72 (by decide) (fun _ => ?_) (fun h => absurd h (by decide))
            refine lv_iload_n hx hb dM_peerOf_79 rfl (lv_at hl 2 rfl) ?_
            refine lv_istore_n (lv' := [(1, .int (-1)), (3, .int 0), (0, .ref o), (2, .int (nI j))]) hx hb dM_peerOf_80 rfl hl (by decide) rfl (fun ls hl => ?_)
            refine lv_iinc (k := 3) (v := (nI j) + (-1)) (lv' := [(2, .int ((nI j) + (-1))), (1, .int (-1)), (3, .int 0), (0, .ref o)]) hx hb dM_peerOf_81 hl rfl rfl (by decide) rfl (fun ls hl => ?_)
            refine lv_goto (tgt := 4) hx hb dM_peerOf_84 (by decide) ?_
            exact ih_lp j (r + 1) (by omega) (by omega) _ (by rw [show zv_o (zm_pe ins str (zm_d rdl rds off del cam loc nn) (r + 1)) = (-1) from congrArg zv_o ((zm_pe_step (ins := ins) (str := str) (df := zm_d rdl rds off del cam loc nn) hjr).trans (zm_st0 h1 hbo))]; rw [show zm_dn j = (nI j) + (-1) from zm_dn_m _]; exact lv_sub hl [3, 1, 0] rfl)
          · refine lv_iload_n hx hb dM_peerOf_17 rfl (lv_at hl 1 rfl) ?_
            refine zz_zlt (tgt := 65) hx hb dM_peerOf_18 (by decide) (fun _ => ?_) (fun h => absurd h (by decide))
            refine lv_iconst (v := 1) hx hb dM_peerOf_65 (by decide) ?_
            refine lv_goto (tgt := 70) hx hb dM_peerOf_66 (by decide) ?_
            refine lv_istore_n (lv' := [(3, .int 1), (0, .ref o), (1, .int (-1)), (2, .int (nI j))]) hx hb dM_peerOf_70 rfl hl (by decide) rfl (fun ls hl => ?_)
            refine lv_iload_n hx hb dM_peerOf_71 rfl (lv_at hl 0 rfl) ?_
            refine zz_zeq (tgt := 79) hx hb dM_peerOf_72 (by decide) (fun h => absurd h (by decide)) (fun _ => ?_)
            refine lv_iload_n hx hb dM_peerOf_75 rfl (lv_at hl 3 rfl) ?_
            refine lv_goto (tgt := 80) hx hb dM_peerOf_76 (by decide) ?_
            refine lv_istore_n (lv' := [(1, .int (nI j)), (3, .int 1), (0, .ref o), (2, .int (nI j))]) hx hb dM_peerOf_80 rfl hl (by decide) rfl (fun ls hl => ?_)
            refine lv_iinc (k := 3) (v := (nI j) + (-1)) (lv' := [(2, .int ((nI j) + (-1))), (1, .int (nI j)), (3, .int 1), (0, .ref o)]) hx hb dM_peerOf_81 hl rfl rfl (by decide) rfl (fun ls hl => ?_)
            refine lv_goto (tgt := 4) hx hb dM_peerOf_84 (by decide) ?_
            exact ih_lp j (r + 1) (by omega) (by omega) _ (by rw [show zv_o (zm_pe ins str (zm_d rdl rds off del cam loc nn) (r + 1)) = nI j from congrArg zv_o ((zm_pe_step (ins := ins) (str := str) (df := zm_d rdl rds off del cam loc nn) hjr).trans (zm_st3 h1 hbo))]; rw [show zm_dn j = (nI j) + (-1) from zm_dn_m _]; exact lv_sub hl [3, 1, 0] rfl)
      · have hl : lv_has ls 4 [(0, .ref o), (1, .int (nI b9)), (2, .int (zm_dn j))] := by rw [hbo] at hl; exact hl
        have hb9 := zm_pe_lt hbo
        rcases j with _ | j
        · have hl : lv_has ls 4 [(0, .ref o), (1, .int (nI b9)), (2, .int (-1))] := hl
          refine lv_iload_n hx hb dM_peerOf_4 rfl (lv_at hl 2 rfl) ?_
          refine zz_zlt (tgt := 87) hx hb dM_peerOf_5 (by decide) (fun _ => ?_) (fun h => absurd h (by decide))
          refine lv_iload_n hx hb dM_peerOf_87 rfl (lv_at hl 1 rfl) ?_
          exact zz_iret hx hb hr hlocks dM_peerOf_88 (by have e9 : r = 5 := (by omega); subst e9; rw [hbo]; rfl)
        · have hl : lv_has ls 4 [(0, .ref o), (1, .int (nI b9)), (2, .int (nI j))] := hl
          refine lv_iload_n hx hb dM_peerOf_4 rfl (lv_at hl 2 rfl) ?_
          refine zz_zlt (tgt := 87) hx hb dM_peerOf_5 (by decide) (fun h => absurd ((zz_ltN (a := j) (b := 0) rfl rfl (by omega) (by omega)).mp h) (Nat.not_lt_zero _)) (fun _ => ?_)
          refine lv_aload_n hx hb dM_peerOf_8 rfl (lv_at hl 0 rfl) ?_
          refine zz_getM hx hb hT hown hK hP 0 rfl 17 (by decide) tw_634 rfl dM_peerOf_9 ?_
          refine lv_iload_n hx hb dM_peerOf_12 rfl (lv_at hl 2 rfl) ?_
          refine zz_zald hx hb hK hP 14 3 rfl rfl j rfl (by first | omega | decide | assumption) (by decide) dM_peerOf_13 ?_
          refine zz_zeq (tgt := 69) hx hb dM_peerOf_14 (by decide) (fun h2 => ?_) (fun h2 => ?_)
          · refine lv_iconst (v := 0) hx hb dM_peerOf_69 (by decide) ?_
            refine lv_istore_n (lv' := [(3, .int 0), (0, .ref o), (1, .int (nI b9)), (2, .int (nI j))]) hx hb dM_peerOf_70 rfl hl (by decide) rfl (fun ls hl => ?_)
            refine lv_iload_n hx hb dM_peerOf_71 rfl (lv_at hl 0 rfl) ?_
            refine zz_zeq (tgt := 79) hx hb dM_peerOf_72 (by decide) (fun _ => ?_) (fun h => absurd h (by decide))
            refine lv_iload_n hx hb dM_peerOf_79 rfl (lv_at hl 2 rfl) ?_
            refine lv_istore_n (lv' := [(1, .int (nI b9)), (3, .int 0), (0, .ref o), (2, .int (nI j))]) hx hb dM_peerOf_80 rfl hl (by decide) rfl (fun ls hl => ?_)
            refine lv_iinc (k := 3) (v := (nI j) + (-1)) (lv' := [(2, .int ((nI j) + (-1))), (1, .int (nI b9)), (3, .int 0), (0, .ref o)]) hx hb dM_peerOf_81 hl rfl rfl (by decide) rfl (fun ls hl => ?_)
            refine lv_goto (tgt := 4) hx hb dM_peerOf_84 (by decide) ?_
            exact ih_lp j (r + 1) (by omega) (by omega) _ (by rw [show zv_o (zm_pe ins str (zm_d rdl rds off del cam loc nn) (r + 1)) = nI b9 from congrArg zv_o ((zm_pe_step (ins := ins) (str := str) (df := zm_d rdl rds off del cam loc nn) hjr).trans (zm_st1 h2 hbo))]; rw [show zm_dn j = (nI j) + (-1) from zm_dn_m _]; exact lv_sub hl [3, 1, 0] rfl)
          · refine lv_iload_n hx hb dM_peerOf_17 rfl (lv_at hl 1 rfl) ?_
            refine zz_zlt (tgt := 65) hx hb dM_peerOf_18 (by decide) (fun h => absurd ((zz_ltN (a := b9) (b := 0) rfl rfl (by omega) (by omega)).mp h) (Nat.not_lt_zero _)) (fun _ => ?_)
            refine lv_aload_n hx hb dM_peerOf_21 rfl (lv_at hl 0 rfl) ?_
            refine zz_getM hx hb hT hown hK hP 0 rfl 10 (by decide) tw_627 rfl dM_peerOf_22 ?_
            refine lv_iload_n hx hb dM_peerOf_25 rfl (lv_at hl 2 rfl) ?_
            refine zz_iald hx hb hK hP 7 1 rfl rfl j rfl (by first | omega | decide | assumption) (by decide) dM_peerOf_26 ?_
            refine lv_aload_n hx hb dM_peerOf_27 rfl (lv_at hl 0 rfl) ?_
            refine zz_getM hx hb hT hown hK hP 0 rfl 10 (by decide) tw_627 rfl dM_peerOf_28 ?_
            refine lv_iload_n hx hb dM_peerOf_31 rfl (lv_at hl 1 rfl) ?_
            refine zz_iald hx hb hK hP 7 1 rfl rfl b9 rfl (by first | omega | decide | assumption) (by decide) dM_peerOf_32 ?_
            refine zz_ilt (tgt := 65) hx hb dM_peerOf_33 (by decide) (fun h3 => ?_) (fun h3 => ?_)
            · refine lv_iconst (v := 1) hx hb dM_peerOf_65 (by decide) ?_
              refine lv_goto (tgt := 70) hx hb dM_peerOf_66 (by decide) ?_
              refine lv_istore_n (lv' := [(3, .int 1), (0, .ref o), (1, .int (nI b9)), (2, .int (nI j))]) hx hb dM_peerOf_70 rfl hl (by decide) rfl (fun ls hl => ?_)
              refine lv_iload_n hx hb dM_peerOf_71 rfl (lv_at hl 0 rfl) ?_
              refine zz_zeq (tgt := 79) hx hb dM_peerOf_72 (by decide) (fun h => absurd h (by decide)) (fun _ => ?_)
              refine lv_iload_n hx hb dM_peerOf_75 rfl (lv_at hl 3 rfl) ?_
              refine lv_goto (tgt := 80) hx hb dM_peerOf_76 (by decide) ?_
              refine lv_istore_n (lv' := [(1, .int (nI j)), (3, .int 1), (0, .ref o), (2, .int (nI j))]) hx hb dM_peerOf_80 rfl hl (by decide) rfl (fun ls hl => ?_)
              refine lv_iinc (k := 3) (v := (nI j) + (-1)) (lv' := [(2, .int ((nI j) + (-1))), (1, .int (nI j)), (3, .int 1), (0, .ref o)]) hx hb dM_peerOf_81 hl rfl rfl (by decide) rfl (fun ls hl => ?_)
              refine lv_goto (tgt := 4) hx hb dM_peerOf_84 (by decide) ?_
              exact ih_lp j (r + 1) (by omega) (by omega) _ (by rw [show zv_o (zm_pe ins str (zm_d rdl rds off del cam loc nn) (r + 1)) = nI j from congrArg zv_o ((zm_pe_step (ins := ins) (str := str) (df := zm_d rdl rds off del cam loc nn) hjr).trans (zm_st4 h2 hbo (Or.inl h3)))]; rw [show zm_dn j = (nI j) + (-1) from zm_dn_m _]; exact lv_sub hl [3, 1, 0] rfl)
            · refine lv_aload_n hx hb dM_peerOf_36 rfl (lv_at hl 0 rfl) ?_
              refine zz_getM hx hb hT hown hK hP 0 rfl 10 (by decide) tw_627 rfl dM_peerOf_37 ?_
              refine lv_iload_n hx hb dM_peerOf_40 rfl (lv_at hl 2 rfl) ?_
              refine zz_iald hx hb hK hP 7 1 rfl rfl j rfl (by first | omega | decide | assumption) (by decide) dM_peerOf_41 ?_
              refine lv_aload_n hx hb dM_peerOf_42 rfl (lv_at hl 0 rfl) ?_
              refine zz_getM hx hb hT hown hK hP 0 rfl 10 (by decide) tw_627 rfl dM_peerOf_43 ?_
              refine lv_iload_n hx hb dM_peerOf_46 rfl (lv_at hl 1 rfl) ?_
              refine zz_iald hx hb hK hP 7 1 rfl rfl b9 rfl (by first | omega | decide | assumption) (by decide) dM_peerOf_47 ?_
              refine zz_ine (tgt := 69) hx hb dM_peerOf_48 (by decide) (fun h4 => ?_) (fun h4 => ?_)
              · refine lv_iconst (v := 0) hx hb dM_peerOf_69 (by decide) ?_
                refine lv_istore_n (lv' := [(3, .int 0), (0, .ref o), (1, .int (nI b9)), (2, .int (nI j))]) hx hb dM_peerOf_70 rfl hl (by decide) rfl (fun ls hl => ?_)
                refine lv_iload_n hx hb dM_peerOf_71 rfl (lv_at hl 0 rfl) ?_
                refine zz_zeq (tgt := 79) hx hb dM_peerOf_72 (by decide) (fun _ => ?_) (fun h => absurd h (by decide))
                refine lv_iload_n hx hb dM_peerOf_79 rfl (lv_at hl 2 rfl) ?_
                refine lv_istore_n (lv' := [(1, .int (nI b9)), (3, .int 0), (0, .ref o), (2, .int (nI j))]) hx hb dM_peerOf_80 rfl hl (by decide) rfl (fun ls hl => ?_)
                refine lv_iinc (k := 3) (v := (nI j) + (-1)) (lv' := [(2, .int ((nI j) + (-1))), (1, .int (nI b9)), (3, .int 0), (0, .ref o)]) hx hb dM_peerOf_81 hl rfl rfl (by decide) rfl (fun ls hl => ?_)
                refine lv_goto (tgt := 4) hx hb dM_peerOf_84 (by decide) ?_
                exact ih_lp j (r + 1) (by omega) (by omega) _ (by rw [show zv_o (zm_pe ins str (zm_d rdl rds off del cam loc nn) (r + 1)) = nI b9 from congrArg zv_o ((zm_pe_step (ins := ins) (str := str) (df := zm_d rdl rds off del cam loc nn) hjr).trans (zm_st2 h2 hbo (fun q => q.elim h3 (fun r9 => h4 r9.1))))]; rw [show zm_dn j = (nI j) + (-1) from zm_dn_m _]; exact lv_sub hl [3, 1, 0] rfl)
              · refine lv_aload_n hx hb dM_peerOf_51 rfl (lv_at hl 0 rfl) ?_
                refine lv_iload_n hx hb dM_peerOf_52 rfl (lv_at hl 2 rfl) ?_
                refine zz_call (va_runV (Ts := []) (As := [.int (nI j)]) (own := RM) ⟨hx, hb, hml, hown, fun _ h => nomatch h⟩ (ct_M_distanceOf l (k := j) (by omega) (by first | assumption | exact hn _ (by omega))) (zt_cv hT tc_M_distanceOf tv_M_distanceOf tw_791 ⟨Nat.le_of_ble_eq_true rfl, Nat.le_of_ble_eq_true rfl⟩) (zz_preV (q0 := 0) hT hP hK rfl rfl) rfl rfl hl.1 rfl (lv_room (Nat.le_of_ble_eq_true rfl)) dM_peerOf_53 ⟨Nat.zero_le _, Nat.zero_le _⟩) ?_
                refine lv_aload_n hx hb dM_peerOf_56 rfl (lv_at hl 0 rfl) ?_
                refine lv_iload_n hx hb dM_peerOf_57 rfl (lv_at hl 1 rfl) ?_
                refine zz_call (va_runV (Ts := []) (As := [.int (nI b9)]) (own := RM) ⟨hx, hb, hml, hown, fun _ h => nomatch h⟩ (ct_M_distanceOf l (k := b9) (by omega) (by first | assumption | exact hn _ (by omega))) (zt_cv hT tc_M_distanceOf tv_M_distanceOf tw_791 ⟨Nat.le_of_ble_eq_true rfl, Nat.le_of_ble_eq_true rfl⟩) (zz_preV (q0 := 0) hT hP hK rfl rfl) rfl rfl hl.1 rfl (lv_room (Nat.le_of_ble_eq_true rfl)) dM_peerOf_58 ⟨Nat.zero_le _, Nat.zero_le _⟩) ?_
                refine zz_lgt (tgt := 69) hx hb dM_peerOf_61 dM_peerOf_62 (by decide) (fun h5 => ?_) (fun h5 => ?_)
                · refine lv_iconst (v := 0) hx hb dM_peerOf_69 (by decide) ?_
                  refine lv_istore_n (lv' := [(3, .int 0), (0, .ref o), (1, .int (nI b9)), (2, .int (nI j))]) hx hb dM_peerOf_70 rfl hl (by decide) rfl (fun ls hl => ?_)
                  refine lv_iload_n hx hb dM_peerOf_71 rfl (lv_at hl 0 rfl) ?_
                  refine zz_zeq (tgt := 79) hx hb dM_peerOf_72 (by decide) (fun _ => ?_) (fun h => absurd h (by decide))
                  refine lv_iload_n hx hb dM_peerOf_79 rfl (lv_at hl 2 rfl) ?_
                  refine lv_istore_n (lv' := [(1, .int (nI b9)), (3, .int 0), (0, .ref o), (2, .int (nI j))]) hx hb dM_peerOf_80 rfl hl (by decide) rfl (fun ls hl => ?_)
                  refine lv_iinc (k := 3) (v := (nI j) + (-1)) (lv' := [(2, .int ((nI j) + (-1))), (1, .int (nI b9)), (3, .int 0), (0, .ref o)]) hx hb dM_peerOf_81 hl rfl rfl (by decide) rfl (fun ls hl => ?_)
                  refine lv_goto (tgt := 4) hx hb dM_peerOf_84 (by decide) ?_
                  exact ih_lp j (r + 1) (by omega) (by omega) _ (by rw [show zv_o (zm_pe ins str (zm_d rdl rds off del cam loc nn) (r + 1)) = nI b9 from congrArg zv_o ((zm_pe_step (ins := ins) (str := str) (df := zm_d rdl rds off del cam loc nn) hjr).trans (zm_st2 h2 hbo (fun q => q.elim h3 (fun r9 => r9.2 h5))))]; rw [show zm_dn j = (nI j) + (-1) from zm_dn_m _]; exact lv_sub hl [3, 1, 0] rfl)
                · refine lv_iconst (v := 1) hx hb dM_peerOf_65 (by decide) ?_
                  refine lv_goto (tgt := 70) hx hb dM_peerOf_66 (by decide) ?_
                  refine lv_istore_n (lv' := [(3, .int 1), (0, .ref o), (1, .int (nI b9)), (2, .int (nI j))]) hx hb dM_peerOf_70 rfl hl (by decide) rfl (fun ls hl => ?_)
                  refine lv_iload_n hx hb dM_peerOf_71 rfl (lv_at hl 0 rfl) ?_
                  refine zz_zeq (tgt := 79) hx hb dM_peerOf_72 (by decide) (fun h => absurd h (by decide)) (fun _ => ?_)
                  refine lv_iload_n hx hb dM_peerOf_75 rfl (lv_at hl 3 rfl) ?_
                  refine lv_goto (tgt := 80) hx hb dM_peerOf_76 (by decide) ?_
                  refine lv_istore_n (lv' := [(1, .int (nI j)), (3, .int 1), (0, .ref o), (2, .int (nI j))]) hx hb dM_peerOf_80 rfl hl (by decide) rfl (fun ls hl => ?_)
                  refine lv_iinc (k := 3) (v := (nI j) + (-1)) (lv' := [(2, .int ((nI j) + (-1))), (1, .int (nI j)), (3, .int 1), (0, .ref o)]) hx hb dM_peerOf_81 hl rfl rfl (by decide) rfl (fun ls hl => ?_)
                  refine lv_goto (tgt := 4) hx hb dM_peerOf_84 (by decide) ?_
                  exact ih_lp j (r + 1) (by omega) (by omega) _ (by rw [show zv_o (zm_pe ins str (zm_d rdl rds off del cam loc nn) (r + 1)) = nI j from congrArg zv_o ((zm_pe_step (ins := ins) (str := str) (df := zm_d rdl rds off del cam loc nn) hjr).trans (zm_st4 h2 hbo (Or.inr ⟨h4, h5⟩)))]; rw [show zm_dn j = (nI j) + (-1) from zm_dn_m _]; exact lv_sub hl [3, 1, 0] rfl)
  exact lp (5 + 1) 5 0 (by omega) rfl _ (by rw [show zv_o (zm_pe ins str (zm_d rdl rds off del cam loc nn) 0) = (-1) from rfl]; rw [show zm_dn 5 = 4 from rfl]; exact lv_sub hl [2, 1, 0] rfl)
