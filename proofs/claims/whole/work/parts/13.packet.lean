/-! Readings of the packet -/
set_option maxHeartbeats 4000000 in
set_option maxRecDepth 100000 in
theorem ct_P_read (l : Launch) {dC : Nat → ClassId} {dI : Nat → Nat → Nat} {cJ cI cB cZ cS : ClassId} {q r : Nat} {row : Nat → Int32} {u n : Nat} (hu : u + n ≤ 48) : Met l yP_read [Cond.code yP_read cP_read 6 (some .long)] { frames := 0, cells := 0, slots := 0, locals := 0 } (va_Pc [.ref q, .int (nI u), .int (nI n)] (zz_B (dC, dI) vcl (zz_T cJ cI cB cZ cS) (zp_W q r cB row))) (zz_Q (.long (zp_rd row u n))) 0 0 (fun _ => False) := by
  refine Met.ofW (cc := cP_read) (maxL := 6) (ret := (some .long)) (by decide) rfl ?_
  intro p e s m args below meth c s₁ B hml hv
  obtain ⟨rfl, hT, hP, hK⟩ := hv
  have hx := B.exec
  have hb := B.bytes
  have hr := B.returns
  have hlocks := B.notSynchronized
  have hown : s.vm.findClass RP = some m.cls := findClass_of_methodNamed B.named
  have hl := lv_entry ([.ref q, .int (nI u), .int (nI n)]) (n := 6) (Nat.le_of_ble_eq_true rfl)
  rw [lg_entry_eq]
  generalize (lg_sl ([.ref q, .int (nI u), .int (nI n)]) ++ List.replicate (6 - (lg_sl ([.ref q, .int (nI u), .int (nI n)])).length) Slot.unset).toArray = ls at hl ⊢
  have hl : lv_has ls 6 [(0, .ref q), (1, .int (nI u)), (2, .int (nI n))] := hl
  refine lv_lconst (v := 0) hx hb dP_read_0 (by decide) ?_
  refine lv_lstore_n (lv' := [(3, .long 0), (0, .ref q), (1, .int (nI u)), (2, .int (nI n))]) hx hb dP_read_1 rfl hl (by decide) rfl (fun ls hl => ?_)
  refine lv_iconst (v := 0) hx hb dP_read_2 (by decide) ?_
  refine lv_istore (lv' := [(5, .int 0), (3, .long 0), (0, .ref q), (1, .int (nI u)), (2, .int (nI n))]) hx hb dP_read_3 hl (by decide) rfl (fun ls hl => ?_)
  have lp : ∀ (k9 : Nat) (i : Nat), n - i < k9 → (i ≤ n) → ∀ ls : Array Slot, lv_has ls 6 [(0, .ref q), (1, .int (nI u)), (2, .int (nI n)), (3, .long (zp_rd row u i)), (5, .int (nI i))] → W p l e ({ frames := 0, cells := 0, slots := 0, locals := 0 } : Room) s m ([.ref q, .int (nI u), .int (nI n)] : List Value).toArray below meth c s.heap [] 0 0 (MQ below (zz_Q (.long (zp_rd row u n))) ([.ref q, .int (nI u), .int (nI n)] : List Value).toArray s 0 0 (fun _ => False)) (F0 m 5 ls []) := by
    intro k9
    induction k9 with
    | zero => intro i hk9; exact absurd hk9 (Nat.not_lt_zero _)
    | succ k9 ih_lp =>
      intro i hk9 hi ls hl
      refine lv_iload hx hb dP_read_5 (lv_at hl 4 rfl) ?_
      refine lv_iload_n hx hb dP_read_7 rfl (lv_at hl 2 rfl) ?_
      refine zz_ige (tgt := 37) hx hb dP_read_8 (by decide) (fun h1 => ?_) (fun h1 => ?_)
      · have h1n := mt (zz_ltN (a := i) (b := n) rfl rfl (by omega) (by omega)).mpr h1
        refine lv_lload_n hx hb dP_read_37 rfl (lv_at hl 3 rfl) ?_
        exact zz_lret hx hb hr hlocks dP_read_38 (by rw [show i = n from by omega])
      · have h1n := (zz_ltN (a := i) (b := n) rfl rfl (by omega) (by omega)).mp h1
        refine lv_lload_n hx hb dP_read_11 rfl (lv_at hl 3 rfl) ?_
        refine lv_bipush (v := 8) hx hb dP_read_12 (by decide) ?_
        refine lv_lshl (v := (zp_rd row u i) <<< (Int32.toInt64 8 &&& 63)) hx hb dP_read_14 rfl ?_
        refine lv_aload_n hx hb dP_read_15 rfl (lv_at hl 0 rfl) ?_
        refine zz_getP hx hb hT hown hK hP 0 rfl 0 (by decide) tw_30 rfl dP_read_16 ?_
        refine lv_iload_n hx hb dP_read_19 rfl (lv_at hl 1 rfl) ?_
        refine lv_iload hx hb dP_read_20 (lv_at hl 4 rfl) ?_
        refine lv_iadd hx hb dP_read_22 ?_
        refine zz_bald hx hb hK hP 1 2 rfl rfl (u + i) (nI_add _ _) (by first | omega | decide | assumption) (by decide) dP_read_23 ?_
        refine lv_sipush (v := 255) hx hb dP_read_24 (by decide) ?_
        refine lv_iand hx hb dP_read_27 ?_
        refine lv_i2l (v := Int32.toInt64 ((row (u + i)) &&& 255)) hx hb dP_read_28 rfl ?_
        refine lv_lor hx hb dP_read_29 ?_
        refine lv_lstore_n (lv' := [(3, .long (((zp_rd row u i) <<< (Int32.toInt64 8 &&& 63)) ||| (Int32.toInt64 ((row (u + i)) &&& 255)))), (0, .ref q), (1, .int (nI u)), (2, .int (nI n)), (5, .int (nI i))]) hx hb dP_read_30 rfl hl (by decide) rfl (fun ls hl => ?_)
        refine lv_iinc (k := 4) (v := nI (i + 1)) (lv' := [(5, .int (nI (i + 1))), (3, .long (((zp_rd row u i) <<< (Int32.toInt64 8 &&& 63)) ||| (Int32.toInt64 ((row (u + i)) &&& 255)))), (0, .ref q), (1, .int (nI u)), (2, .int (nI n))]) hx hb dP_read_31 hl rfl (nI_succ _).symm (by decide) rfl (fun ls hl => ?_)
        refine lv_goto (tgt := 5) hx hb dP_read_34 (by decide) ?_
        exact ih_lp (i + 1) (by omega) (by omega) _ (by rw [show zp_rd row u (i + 1) = ((zp_rd row u i) <<< (Int32.toInt64 8 &&& 63)) ||| (Int32.toInt64 ((row (u + i)) &&& 255)) from rfl]; exact lv_sub hl [2, 3, 4, 1, 0] rfl)
  exact lp (n - 0 + 1) 0 (by omega) (Nat.zero_le _) _ (by rw [show zp_rd row u 0 = 0 from rfl]; rw [show nI 0 = 0 from rfl]; exact lv_sub hl [2, 3, 4, 1, 0] rfl)
set_option maxHeartbeats 4000000 in
set_option maxRecDepth 100000 in
theorem ct_P_stratum (l : Launch) {dC : Nat → ClassId} {dI : Nat → Nat → Nat} {cJ cI cB cZ cS : ClassId} {q r : Nat} {row : Nat → Int32} : Met l yP_stratum [Cond.code yP_stratum cP_stratum 1 (some .int)] { frames := 0, cells := 0, slots := 0, locals := 0 } (va_Pc [.ref q] (zz_B (dC, dI) vcl (zz_T cJ cI cB cZ cS) (zp_W q r cB row))) (zz_Q (.int ((row 1) &&& 255))) 0 0 (fun _ => False) := by
  refine Met.ofW (cc := cP_stratum) (maxL := 1) (ret := (some .int)) (by decide) rfl ?_
  intro p e s m args below meth c s₁ B hml hv
  obtain ⟨rfl, hT, hP, hK⟩ := hv
  have hx := B.exec
  have hb := B.bytes
  have hr := B.returns
  have hlocks := B.notSynchronized
  have hown : s.vm.findClass RP = some m.cls := findClass_of_methodNamed B.named
  have hl := lv_entry ([.ref q]) (n := 1) (Nat.le_of_ble_eq_true rfl)
  rw [lg_entry_eq]
  generalize (lg_sl ([.ref q]) ++ List.replicate (1 - (lg_sl ([.ref q])).length) Slot.unset).toArray = ls at hl ⊢
  have hl : lv_has ls 1 [(0, .ref q)] := hl
  refine lv_aload_n hx hb dP_stratum_0 rfl (lv_at hl 0 rfl) ?_
  refine zz_getP hx hb hT hown hK hP 0 rfl 0 (by decide) tw_30 rfl dP_stratum_1 ?_
  refine lv_iconst (v := 1) hx hb dP_stratum_4 (by decide) ?_
  refine zz_bald hx hb hK hP 1 2 rfl rfl 1 rfl (by first | omega | decide | assumption) (by decide) dP_stratum_5 ?_
  refine lv_sipush (v := 255) hx hb dP_stratum_6 (by decide) ?_
  refine lv_iand hx hb dP_stratum_9 ?_
  exact zz_iret hx hb hr hlocks dP_stratum_10 (rfl)
set_option maxHeartbeats 4000000 in
set_option maxRecDepth 100000 in
theorem ct_P_isAnswer (l : Launch) {dC : Nat → ClassId} {dI : Nat → Nat → Nat} {cJ cI cB cZ cS : ClassId} {q r : Nat} {row : Nat → Int32} : Met l yP_isAnswer [Cond.code yP_isAnswer cP_isAnswer 2 (some .boolean)] { frames := 1, cells := 0, slots := 0, locals := 25 } (va_Pc [.ref q] (zz_B (dC, dI) vcl (zz_T cJ cI cB cZ cS) (zp_W q r cB row))) (zz_Q (.int (zp_ans row))) 0 0 (fun _ => False) := by
  refine Met.ofW (cc := cP_isAnswer) (maxL := 2) (ret := (some .boolean)) (by decide) rfl ?_
  intro p e s m args below meth c s₁ B hml hv
  obtain ⟨rfl, hT, hP, hK⟩ := hv
  have hx := B.exec
  have hb := B.bytes
  have hr := B.returns
  have hlocks := B.notSynchronized
  have hown : s.vm.findClass RP = some m.cls := findClass_of_methodNamed B.named
  have hl := lv_entry ([.ref q]) (n := 2) (Nat.le_of_ble_eq_true rfl)
  rw [lg_entry_eq]
  generalize (lg_sl ([.ref q]) ++ List.replicate (2 - (lg_sl ([.ref q])).length) Slot.unset).toArray = ls at hl ⊢
  have hl : lv_has ls 2 [(0, .ref q)] := hl
  refine lv_aload_n hx hb dP_isAnswer_0 rfl (lv_at hl 0 rfl) ?_
  refine zz_getP hx hb hT hown hK hP 0 rfl 0 (by decide) tw_30 rfl dP_isAnswer_1 ?_
  refine lv_iconst (v := 0) hx hb dP_isAnswer_4 (by decide) ?_
  refine zz_bald hx hb hK hP 1 2 rfl rfl 0 rfl (by first | omega | decide | assumption) (by decide) dP_isAnswer_5 ?_
  refine lv_sipush (v := 255) hx hb dP_isAnswer_6 (by decide) ?_
  refine lv_iand hx hb dP_isAnswer_9 ?_
  refine lv_istore_n (lv' := [(1, .int ((row 0) &&& 255)), (0, .ref q)]) hx hb dP_isAnswer_10 rfl hl (by decide) rfl (fun ls hl => ?_)
  refine lv_iload_n hx hb dP_isAnswer_11 rfl (lv_at hl 0 rfl) ?_
  refine lv_iconst (v := 3) hx hb dP_isAnswer_12 (by decide) ?_
  refine lv_ishr hx hb dP_isAnswer_13 ?_
  refine lv_bipush (v := 7) hx hb dP_isAnswer_14 (by decide) ?_
  refine lv_iand hx hb dP_isAnswer_16 ?_
  refine lv_iconst (v := 4) hx hb dP_isAnswer_17 (by decide) ?_
  refine zz_ine (tgt := 46) hx hb dP_isAnswer_18 (by decide) (fun h1 => ?_) (fun h1 => ?_)
  · refine lv_iconst (v := 0) hx hb dP_isAnswer_46 (by decide) ?_
    exact zz_bret hx hb hr hlocks dP_isAnswer_47 (by decide) (by unfold zp_ans; first | (rw [if_pos (by grind)]; done) | (rw [if_neg (by grind)]; done))
  · refine lv_iload_n hx hb dP_isAnswer_21 rfl (lv_at hl 0 rfl) ?_
    refine lv_bipush (v := 7) hx hb dP_isAnswer_22 (by decide) ?_
    refine lv_iand hx hb dP_isAnswer_24 ?_
    refine lv_iconst (v := 4) hx hb dP_isAnswer_25 (by decide) ?_
    refine zz_ine (tgt := 46) hx hb dP_isAnswer_26 (by decide) (fun h2 => ?_) (fun h2 => ?_)
    · refine lv_iconst (v := 0) hx hb dP_isAnswer_46 (by decide) ?_
      exact zz_bret hx hb hr hlocks dP_isAnswer_47 (by decide) (by unfold zp_ans; first | (rw [if_pos (by grind)]; done) | (rw [if_neg (by grind)]; done))
    · refine lv_aload_n hx hb dP_isAnswer_29 rfl (lv_at hl 1 rfl) ?_
      refine lv_bipush (v := 40) hx hb dP_isAnswer_30 (by decide) ?_
      refine lv_bipush (v := 8) hx hb dP_isAnswer_32 (by decide) ?_
      refine zz_call (va_runV (Ts := []) (As := [.int 40, .int 8]) (own := RP) ⟨hx, hb, hml, hown, fun _ h => nomatch h⟩ (ct_P_read l (u := 40) (n := 8) (by first | decide | omega)) (zt_cv hT tc_P_read tv_P_read tw_385 ⟨Nat.le_of_ble_eq_true rfl, Nat.le_of_ble_eq_true rfl⟩) (zz_preV (q0 := 0) hT hP hK rfl rfl) rfl rfl hl.1 rfl (lv_room (Nat.le_of_ble_eq_true rfl)) dP_isAnswer_34 ⟨Nat.zero_le _, Nat.zero_le _⟩) ?_
      refine lv_lconst (v := 0) hx hb dP_isAnswer_37 (by decide) ?_
      refine zz_leq (tgt := 46) hx hb dP_isAnswer_38 dP_isAnswer_39 (by decide) (fun h3 => ?_) (fun h3 => ?_)
      · refine lv_iconst (v := 0) hx hb dP_isAnswer_46 (by decide) ?_
        exact zz_bret hx hb hr hlocks dP_isAnswer_47 (by decide) (by unfold zp_ans; first | (rw [if_pos (by grind)]; done) | (rw [if_neg (by grind)]; done))
      · refine lv_iconst (v := 1) hx hb dP_isAnswer_42 (by decide) ?_
        refine lv_goto (tgt := 47) hx hb dP_isAnswer_43 (by decide) ?_
        exact zz_bret hx hb hr hlocks dP_isAnswer_47 (by decide) (by unfold zp_ans; first | (rw [if_pos (by grind)]; done) | (rw [if_neg (by grind)]; done))
set_option maxHeartbeats 4000000 in
set_option maxRecDepth 100000 in
theorem ct_P_isSynchronized (l : Launch) {dC : Nat → ClassId} {dI : Nat → Nat → Nat} {cJ cI cB cZ cS : ClassId} {q r : Nat} {row : Nat → Int32} : Met l yP_isSynchronized [Cond.code yP_isSynchronized cP_isSynchronized 1 (some .boolean)] { frames := 1, cells := 0, slots := 0, locals := 20 } (va_Pc [.ref q] (zz_B (dC, dI) vcl (zz_T cJ cI cB cZ cS) (zp_W q r cB row))) (zz_Q (.int (zp_syn row))) 0 0 (fun _ => False) := by
  refine Met.ofW (cc := cP_isSynchronized) (maxL := 1) (ret := (some .boolean)) (by decide) rfl ?_
  intro p e s m args below meth c s₁ B hml hv
  obtain ⟨rfl, hT, hP, hK⟩ := hv
  have hx := B.exec
  have hb := B.bytes
  have hr := B.returns
  have hlocks := B.notSynchronized
  have hown : s.vm.findClass RP = some m.cls := findClass_of_methodNamed B.named
  have hl := lv_entry ([.ref q]) (n := 1) (Nat.le_of_ble_eq_true rfl)
  rw [lg_entry_eq]
  generalize (lg_sl ([.ref q]) ++ List.replicate (1 - (lg_sl ([.ref q])).length) Slot.unset).toArray = ls at hl ⊢
  have hl : lv_has ls 1 [(0, .ref q)] := hl
  refine lv_aload_n hx hb dP_isSynchronized_0 rfl (lv_at hl 0 rfl) ?_
  refine zz_getP hx hb hT hown hK hP 0 rfl 0 (by decide) tw_30 rfl dP_isSynchronized_1 ?_
  refine lv_iconst (v := 0) hx hb dP_isSynchronized_4 (by decide) ?_
  refine zz_bald hx hb hK hP 1 2 rfl rfl 0 rfl (by first | omega | decide | assumption) (by decide) dP_isSynchronized_5 ?_
  refine lv_sipush (v := 255) hx hb dP_isSynchronized_6 (by decide) ?_
  refine lv_iand hx hb dP_isSynchronized_9 ?_
  refine lv_bipush (v := 6) hx hb dP_isSynchronized_10 (by decide) ?_
  refine lv_ishr hx hb dP_isSynchronized_12 ?_
  refine lv_iconst (v := 3) hx hb dP_isSynchronized_13 (by decide) ?_
  refine zz_ieq (tgt := 30) hx hb dP_isSynchronized_14 (by decide) (fun h1 => ?_) (fun h1 => ?_)
  · refine lv_iconst (v := 0) hx hb dP_isSynchronized_30 (by decide) ?_
    exact zz_bret hx hb hr hlocks dP_isSynchronized_31 (by decide) (by unfold zp_syn; first | (rw [if_pos (by grind)]; done) | (rw [if_neg (by grind)]; done))
  · refine lv_aload_n hx hb dP_isSynchronized_17 rfl (lv_at hl 0 rfl) ?_
    refine zz_call (va_runV (Ts := []) (As := []) (own := RP) ⟨hx, hb, hml, hown, fun _ h => nomatch h⟩ (ct_P_stratum l) (zt_cv hT tc_P_stratum tv_P_stratum tw_412 ⟨Nat.le_of_ble_eq_true rfl, Nat.le_of_ble_eq_true rfl⟩) (zz_preV (q0 := 0) hT hP hK rfl rfl) rfl rfl hl.1 rfl (lv_room (Nat.le_of_ble_eq_true rfl)) dP_isSynchronized_18 ⟨Nat.zero_le _, Nat.zero_le _⟩) ?_
    refine lv_bipush (v := 15) hx hb dP_isSynchronized_21 (by decide) ?_
    refine zz_igt (tgt := 30) hx hb dP_isSynchronized_23 (by decide) (fun h2 => ?_) (fun h2 => ?_)
    · refine lv_iconst (v := 0) hx hb dP_isSynchronized_30 (by decide) ?_
      exact zz_bret hx hb hr hlocks dP_isSynchronized_31 (by decide) (by unfold zp_syn; first | (rw [if_pos (by grind)]; done) | (rw [if_neg (by grind)]; done))
    · refine lv_iconst (v := 1) hx hb dP_isSynchronized_26 (by decide) ?_
      refine lv_goto (tgt := 31) hx hb dP_isSynchronized_27 (by decide) ?_
      exact zz_bret hx hb hr hlocks dP_isSynchronized_31 (by decide) (by unfold zp_syn; first | (rw [if_pos (by grind)]; done) | (rw [if_neg (by grind)]; done))
set_option maxHeartbeats 4000000 in
set_option maxRecDepth 100000 in
theorem ct_P_rootDelay (l : Launch) {dC : Nat → ClassId} {dI : Nat → Nat → Nat} {cJ cI cB cZ cS : ClassId} {q r : Nat} {row : Nat → Int32} : Met l yP_rootDelay [Cond.code yP_rootDelay cP_rootDelay 1 (some .long)] { frames := 1, cells := 0, slots := 0, locals := 25 } (va_Pc [.ref q] (zz_B (dC, dI) vcl (zz_T cJ cI cB cZ cS) (zp_W q r cB row))) (zz_Q (.long ((zp_rd row 4 4) * 65536))) 0 0 (fun _ => False) := by
  refine Met.ofW (cc := cP_rootDelay) (maxL := 1) (ret := (some .long)) (by decide) rfl ?_
  intro p e s m args below meth c s₁ B hml hv
  obtain ⟨rfl, hT, hP, hK⟩ := hv
  have hx := B.exec
  have hb := B.bytes
  have hr := B.returns
  have hlocks := B.notSynchronized
  have hown : s.vm.findClass RP = some m.cls := findClass_of_methodNamed B.named
  have hl := lv_entry ([.ref q]) (n := 1) (Nat.le_of_ble_eq_true rfl)
  rw [lg_entry_eq]
  generalize (lg_sl ([.ref q]) ++ List.replicate (1 - (lg_sl ([.ref q])).length) Slot.unset).toArray = ls at hl ⊢
  have hl : lv_has ls 1 [(0, .ref q)] := hl
  refine lv_aload_n hx hb dP_rootDelay_0 rfl (lv_at hl 0 rfl) ?_
  refine lv_iconst (v := 4) hx hb dP_rootDelay_1 (by decide) ?_
  refine lv_iconst (v := 4) hx hb dP_rootDelay_2 (by decide) ?_
  refine zz_call (va_runV (Ts := []) (As := [.int 4, .int 4]) (own := RP) ⟨hx, hb, hml, hown, fun _ h => nomatch h⟩ (ct_P_read l (u := 4) (n := 4) (by first | decide | omega)) (zt_cv hT tc_P_read tv_P_read tw_385 ⟨Nat.le_of_ble_eq_true rfl, Nat.le_of_ble_eq_true rfl⟩) (zz_preV (q0 := 0) hT hP hK rfl rfl) rfl rfl hl.1 rfl (lv_room (Nat.le_of_ble_eq_true rfl)) dP_rootDelay_3 ⟨Nat.zero_le _, Nat.zero_le _⟩) ?_
  refine lv_ldc2 (own := RP) (v := 65536) hx hb hown (hT.w tw_427) dP_rootDelay_6 ?_
  refine lv_lmul hx hb dP_rootDelay_9 ?_
  exact zz_lret hx hb hr hlocks dP_rootDelay_10 (rfl)
set_option maxHeartbeats 4000000 in
set_option maxRecDepth 100000 in
theorem ct_P_rootDispersion (l : Launch) {dC : Nat → ClassId} {dI : Nat → Nat → Nat} {cJ cI cB cZ cS : ClassId} {q r : Nat} {row : Nat → Int32} : Met l yP_rootDispersion [Cond.code yP_rootDispersion cP_rootDispersion 1 (some .long)] { frames := 1, cells := 0, slots := 0, locals := 25 } (va_Pc [.ref q] (zz_B (dC, dI) vcl (zz_T cJ cI cB cZ cS) (zp_W q r cB row))) (zz_Q (.long ((zp_rd row 8 4) * 65536))) 0 0 (fun _ => False) := by
  refine Met.ofW (cc := cP_rootDispersion) (maxL := 1) (ret := (some .long)) (by decide) rfl ?_
  intro p e s m args below meth c s₁ B hml hv
  obtain ⟨rfl, hT, hP, hK⟩ := hv
  have hx := B.exec
  have hb := B.bytes
  have hr := B.returns
  have hlocks := B.notSynchronized
  have hown : s.vm.findClass RP = some m.cls := findClass_of_methodNamed B.named
  have hl := lv_entry ([.ref q]) (n := 1) (Nat.le_of_ble_eq_true rfl)
  rw [lg_entry_eq]
  generalize (lg_sl ([.ref q]) ++ List.replicate (1 - (lg_sl ([.ref q])).length) Slot.unset).toArray = ls at hl ⊢
  have hl : lv_has ls 1 [(0, .ref q)] := hl
  refine lv_aload_n hx hb dP_rootDispersion_0 rfl (lv_at hl 0 rfl) ?_
  refine lv_bipush (v := 8) hx hb dP_rootDispersion_1 (by decide) ?_
  refine lv_iconst (v := 4) hx hb dP_rootDispersion_3 (by decide) ?_
  refine zz_call (va_runV (Ts := []) (As := [.int 8, .int 4]) (own := RP) ⟨hx, hb, hml, hown, fun _ h => nomatch h⟩ (ct_P_read l (u := 8) (n := 4) (by first | decide | omega)) (zt_cv hT tc_P_read tv_P_read tw_385 ⟨Nat.le_of_ble_eq_true rfl, Nat.le_of_ble_eq_true rfl⟩) (zz_preV (q0 := 0) hT hP hK rfl rfl) rfl rfl hl.1 rfl (lv_room (Nat.le_of_ble_eq_true rfl)) dP_rootDispersion_4 ⟨Nat.zero_le _, Nat.zero_le _⟩) ?_
  refine lv_ldc2 (own := RP) (v := 65536) hx hb hown (hT.w tw_427) dP_rootDispersion_7 ?_
  refine lv_lmul hx hb dP_rootDispersion_10 ?_
  exact zz_lret hx hb hr hlocks dP_rootDispersion_11 (rfl)
