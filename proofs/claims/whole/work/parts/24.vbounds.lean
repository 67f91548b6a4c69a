/-! 24.vbounds -/
set_option maxHeartbeats 4000000 in
set_option maxRecDepth 100000 in
theorem ct_V_findBounds (l : Launch) {dC : Nat → ClassId} {dI : Nat → Nat → Nat} {cJ cI cB cZ cS : ClassId} {sz : Nat} {v a b : Nat} {cand surv : Int32} {low high : Int64} {vo vd : Nat → Int64} : Met l yV_findBounds [Cond.code yV_findBounds cV_findBounds 6 none] { frames := 2, cells := 0, slots := 0, locals := 45 } (va_Pc [.ref v] (zq_B (dC, dI) vcl (zz_T cJ cI cB cZ cS) (zv_W v a b cJ cand low high surv vo vd) sz)) (zq_Q (dC, dI) vcl none (zv_W v a b cJ cand low high surv vo vd) (zv_W v a b cJ cand (zv_lo cand vo vd 5) (zv_hi cand vo vd 5) surv vo vd) sz) 0 0 (va_A (zv_W v a b cJ cand low high surv vo vd) sz) := by
  refine Met.ofW (cc := cV_findBounds) (maxL := 6) (ret := none) (by decide) rfl ?_
  intro p e s m args below meth c s₁ B hml hv
  obtain ⟨rfl, hsz, hT, hP, hK, hD0⟩ := hv
  subst hsz
  have hx := B.exec
  have hb := B.bytes
  have hr := B.returns
  have hlocks := B.notSynchronized
  have hown : s.vm.findClass RV = some m.cls := findClass_of_methodNamed B.named
  have hD := hD0.self (sz := s.heap.size)
  generalize hAe : va_A (zv_W v a b cJ cand low high surv vo vd) s.heap.size = A at hD ⊢
  have hA : ∀ q : Nat, s.heap.size ≤ q → A q := fun q h => by rw [← hAe]; exact Or.inr h
  have hS : va_S A s.heap s.heap [] := va_S.rf
  have hl := lv_entry ([.ref v]) (n := 6) (Nat.le_of_ble_eq_true rfl)
  rw [lg_entry_eq]
  generalize (lg_sl ([.ref v]) ++ List.replicate (6 - (lg_sl ([.ref v])).length) Slot.unset).toArray = ls at hl ⊢
  have hl : lv_has ls 6 [(0, .ref v)] := hl
  refine lv_aload_n hx hb dV_findBounds_0 rfl (lv_at hl 0 rfl) ?_
  refine lv_ldc2 (own := RV) (v := 4611686018427387904) hx hb hown (hT.w tw_96) dV_findBounds_1 ?_
  refine zz_putV (ty := .long) hx hb hT hown hK hP hD hS 0 rfl 1 (by decide) tw_100 rfl (by decide +kernel) rfl rfl (Nat.le_of_ble_eq_true rfl) dV_findBounds_4 (fun H locs hP hD hS => ?_)
  have hP : va_P (dC, dI) vcl (zv_W v a b cJ cand 4611686018427387904 high surv vo vd) H := hP
  have hD : va_D A (zv_W v a b cJ cand 4611686018427387904 high surv vo vd) := hD
  refine lv_aload_n hx hb dV_findBounds_7 rfl (lv_at hl 0 rfl) ?_
  refine lv_ldc2 (own := RV) (v := (-4611686018427387904)) hx hb hown (hT.w tw_97) dV_findBounds_8 ?_
  refine zz_putV (ty := .long) hx hb hT hown hK hP hD hS 0 rfl 2 (by decide) tw_102 rfl (by decide +kernel) rfl rfl (Nat.le_of_ble_eq_true rfl) dV_findBounds_11 (fun H locs hP hD hS => ?_)
  have hP : va_P (dC, dI) vcl (zv_W v a b cJ cand 4611686018427387904 (-4611686018427387904) surv vo vd) H := hP
  have hD : va_D A (zv_W v a b cJ cand 4611686018427387904 (-4611686018427387904) surv vo vd) := hD
  refine lv_iconst (v := 0) hx hb dV_findBounds_14 (by decide) ?_
  refine lv_istore_n (lv' := [(1, .int 0), (0, .ref v)]) hx hb dV_findBounds_15 rfl hl (by decide) rfl (fun ls hl => ?_)
  have lp : ∀ (k9 : Nat) (i : Nat) (H : Heap) (locs : List Loc), 5 - i < k9 → (i ≤ 5) → va_P (dC, dI) vcl (zv_W v a b cJ cand (zv_lo cand vo vd i) (zv_hi cand vo vd i) surv vo vd) H → va_D A (zv_W v a b cJ cand (zv_lo cand vo vd i) (zv_hi cand vo vd i) surv vo vd) → va_S A s.heap H locs → ∀ ls : Array Slot, lv_has ls 6 [(0, .ref v), (1, .int (nI i))] → W p l e ({ frames := 2, cells := 0, slots := 0, locals := 45 } : Room) s m ([.ref v] : List Value).toArray below meth c H locs 0 0 (MQ below (zq_Q (dC, dI) vcl none (zv_W v a b cJ cand low high surv vo vd) (zv_W v a b cJ cand (zv_lo cand vo vd 5) (zv_hi cand vo vd 5) surv vo vd) s.heap.size) ([.ref v] : List Value).toArray s 0 0 A) (F0 m 16 ls []) := by
    intro k9
    induction k9 with
    | zero => intro i H locs hk9; exact absurd hk9 (Nat.not_lt_zero _)
    | succ k9 ih_lp =>
      intro i H locs hk9 hi hP hD hS ls hl
      refine lv_iload_n hx hb dV_findBounds_16 rfl (lv_at hl 1 rfl) ?_
      refine lv_iconst (v := 5) hx hb dV_findBounds_17 (by decide) ?_
      refine zz_ige (tgt := 123) hx hb dV_findBounds_18 (by decide) (fun h1 => ?_) (fun h1 => ?_)
      · have h1n := mt (zz_ltN (a := i) (b := 5) rfl rfl (by omega) (by omega)).mpr h1
        exact zq_vret hx hb hr hlocks dV_findBounds_123 hAe (by rw [show zv_lo cand vo vd 5 = zv_lo cand vo vd i from by rw [show i = 5 from (by omega)]]; rw [show zv_hi cand vo vd 5 = zv_hi cand vo vd i from by rw [show i = 5 from (by omega)]]; exact hP) (by rw [show zv_lo cand vo vd 5 = zv_lo cand vo vd i from by rw [show i = 5 from (by omega)]]; rw [show zv_hi cand vo vd 5 = zv_hi cand vo vd i from by rw [show i = 5 from (by omega)]]; exact hD) hS
      · have h1n := (zz_ltN (a := i) (b := 5) rfl rfl (by omega) (by omega)).mp h1
        refine lv_aload_n hx hb dV_findBounds_21 rfl (lv_at hl 0 rfl) ?_
        refine zz_getV hx hb hT hown hK hP 0 rfl 0 (by decide) tw_98 rfl dV_findBounds_22 ?_
        refine lv_iload_n hx hb dV_findBounds_25 rfl (lv_at hl 1 rfl) ?_
        refine zz_call (va_runS (Ts := []) (As := [.int cand, .int (nI i)]) (own := RV) ⟨hx, hb, hml, hown, fun _ h => nomatch h⟩ (ct_V_has l) (zt_cs hT tc_V_has ts_V_has tw_196 ⟨Nat.le_of_ble_eq_true rfl, Nat.le_of_ble_eq_true rfl⟩) (zz_pre0 hT) rfl rfl hl.1 rfl (lv_room (Nat.le_of_ble_eq_true rfl)) dV_findBounds_26 ⟨Nat.zero_le _, Nat.zero_le _⟩) ?_
        refine zz_zeq (tgt := 117) hx hb dV_findBounds_29 (by decide) (fun h2 => ?_) (fun h2 => ?_)
        · refine lv_iinc (k := 1) (v := nI (i + 1)) (lv' := [(1, .int (nI (i + 1))), (0, .ref v)]) hx hb dV_findBounds_117 hl rfl (nI_succ _).symm (by decide) rfl (fun ls hl => ?_)
          refine lv_goto (tgt := 16) hx hb dV_findBounds_120 (by decide) ?_
          exact ih_lp (i + 1) _ _ (by omega) (by omega) (by rw [show zv_lo cand vo vd (i + 1) = zv_lo cand vo vd i from if_pos h2]; rw [show zv_hi cand vo vd (i + 1) = zv_hi cand vo vd i from if_pos h2]; exact hP) (by rw [show zv_lo cand vo vd (i + 1) = zv_lo cand vo vd i from if_pos h2]; rw [show zv_hi cand vo vd (i + 1) = zv_hi cand vo vd i from if_pos h2]; exact hD) hS _ (lv_sub hl [1, 0] rfl)
        · refine lv_aload_n hx hb dV_findBounds_32 rfl (lv_at hl 0 rfl) ?_
          refine zz_getV hx hb hT hown hK hP 0 rfl 4 (by decide) tw_106 rfl dV_findBounds_33 ?_
          refine lv_iload_n hx hb dV_findBounds_36 rfl (lv_at hl 1 rfl) ?_
          refine zz_lald hx hb hK hP 1 0 rfl rfl i rfl (by first | omega | decide | assumption) (by decide) dV_findBounds_37 ?_
          refine lv_aload_n hx hb dV_findBounds_38 rfl (lv_at hl 0 rfl) ?_
          refine zz_getV hx hb hT hown hK hP 0 rfl 5 (by decide) tw_107 rfl dV_findBounds_39 ?_
          refine lv_iload_n hx hb dV_findBounds_42 rfl (lv_at hl 1 rfl) ?_
          refine zz_lald hx hb hK hP 2 0 rfl rfl i rfl (by first | omega | decide | assumption) (by decide) dV_findBounds_43 ?_
          refine lv_lsub hx hb dV_findBounds_44 ?_
          refine lv_lstore_n (lv' := [(2, .long ((vo i) - (vd i))), (0, .ref v), (1, .int (nI i))]) hx hb dV_findBounds_45 rfl hl (by decide) rfl (fun ls hl => ?_)
          refine lv_aload_n hx hb dV_findBounds_46 rfl (lv_at hl 1 rfl) ?_
          refine zz_getV hx hb hT hown hK hP 0 rfl 4 (by decide) tw_106 rfl dV_findBounds_47 ?_
          refine lv_iload_n hx hb dV_findBounds_50 rfl (lv_at hl 2 rfl) ?_
          refine zz_lald hx hb hK hP 1 0 rfl rfl i rfl (by first | omega | decide | assumption) (by decide) dV_findBounds_51 ?_
          refine lv_aload_n hx hb dV_findBounds_52 rfl (lv_at hl 1 rfl) ?_
          refine zz_getV hx hb hT hown hK hP 0 rfl 5 (by decide) tw_107 rfl dV_findBounds_53 ?_
          refine lv_iload_n hx hb dV_findBounds_56 rfl (lv_at hl 2 rfl) ?_
          refine zz_lald hx hb hK hP 2 0 rfl rfl i rfl (by first | omega | decide | assumption) (by decide) dV_findBounds_57 ?_
          refine lv_ladd hx hb dV_findBounds_58 ?_
          refine lv_lstore (lv' := [(4, .long ((vo i) + (vd i))), (2, .long ((vo i) - (vd i))), (0, .ref v), (1, .int (nI i))]) hx hb dV_findBounds_59 hl (by decide) rfl (fun ls hl => ?_)
          refine lv_aload_n hx hb dV_findBounds_61 rfl (lv_at hl 2 rfl) ?_
          refine lv_aload_n hx hb dV_findBounds_62 rfl (lv_at hl 2 rfl) ?_
          refine lv_lload_n hx hb dV_findBounds_63 rfl (lv_at hl 1 rfl) ?_
          refine zz_call (va_runV (Ts := []) (As := [.long ((vo i) - (vd i))]) (own := RV) ⟨hx, hb, hml, hown, fun _ h => nomatch h⟩ (ct_V_isInMost l) (zt_cv hT tc_V_isInMost tv_V_isInMost tw_199 ⟨Nat.le_of_ble_eq_true rfl, Nat.le_of_ble_eq_true rfl⟩) (zz_preV (q0 := 0) hT hP hK rfl rfl) rfl rfl hl.1 rfl (lv_room (Nat.le_of_ble_eq_true rfl)) dV_findBounds_64 ⟨Nat.zero_le _, Nat.zero_le _⟩) ?_
          refine zz_zeq (tgt := 81) hx hb dV_findBounds_67 (by decide) (fun h3 => ?_) (fun h3 => ?_)
          · refine lv_aload_n hx hb dV_findBounds_81 rfl (lv_at hl 2 rfl) ?_
            refine zz_getV hx hb hT hown hK hP 0 rfl 1 (by decide) tw_100 rfl dV_findBounds_82 ?_
            refine zz_putV (ty := .long) hx hb hT hown hK hP hD hS 0 rfl 1 (by decide) tw_100 rfl (by decide +kernel) rfl rfl (Nat.le_of_ble_eq_true rfl) dV_findBounds_85 (fun H locs hP hD hS => ?_)
            have hP : va_P (dC, dI) vcl (zv_W v a b cJ cand (zv_lo cand vo vd i) (zv_hi cand vo vd i) surv vo vd) H := hP
            have hD : va_D A (zv_W v a b cJ cand (zv_lo cand vo vd i) (zv_hi cand vo vd i) surv vo vd) := hD
            refine lv_aload_n hx hb dV_findBounds_88 rfl (lv_at hl 2 rfl) ?_
            refine lv_aload_n hx hb dV_findBounds_89 rfl (lv_at hl 2 rfl) ?_
            refine lv_lload hx hb dV_findBounds_90 (lv_at hl 0 rfl) ?_
            refine zz_call (va_runV (Ts := []) (As := [.long ((vo i) + (vd i))]) (own := RV) ⟨hx, hb, hml, hown, fun _ h => nomatch h⟩ (ct_V_isInMost l) (zt_cv hT tc_V_isInMost tv_V_isInMost tw_199 ⟨Nat.le_of_ble_eq_true rfl, Nat.le_of_ble_eq_true rfl⟩) (zz_preV (q0 := 0) hT hP hK rfl rfl) rfl rfl hl.1 rfl (lv_room (Nat.le_of_ble_eq_true rfl)) dV_findBounds_92 ⟨Nat.zero_le _, Nat.zero_le _⟩) ?_
            refine zz_zeq (tgt := 110) hx hb dV_findBounds_95 (by decide) (fun h4 => ?_) (fun h4 => ?_)
            · refine lv_aload_n hx hb dV_findBounds_110 rfl (lv_at hl 2 rfl) ?_
              refine zz_getV hx hb hT hown hK hP 0 rfl 2 (by decide) tw_102 rfl dV_findBounds_111 ?_
              refine zz_putV (ty := .long) hx hb hT hown hK hP hD hS 0 rfl 2 (by decide) tw_102 rfl (by decide +kernel) rfl rfl (Nat.le_of_ble_eq_true rfl) dV_findBounds_114 (fun H locs hP hD hS => ?_)
              have hP : va_P (dC, dI) vcl (zv_W v a b cJ cand (zv_lo cand vo vd i) (zv_hi cand vo vd i) surv vo vd) H := hP
              have hD : va_D A (zv_W v a b cJ cand (zv_lo cand vo vd i) (zv_hi cand vo vd i) surv vo vd) := hD
              refine lv_iinc (k := 3) (v := nI (i + 1)) (lv' := [(1, .int (nI (i + 1))), (4, .long ((vo i) + (vd i))), (2, .long ((vo i) - (vd i))), (0, .ref v)]) hx hb dV_findBounds_117 hl rfl (nI_succ _).symm (by decide) rfl (fun ls hl => ?_)
              refine lv_goto (tgt := 16) hx hb dV_findBounds_120 (by decide) ?_
              exact ih_lp (i + 1) _ _ (by omega) (by omega) (by rw [show zv_lo cand vo vd (i + 1) = zv_lo cand vo vd i from (if_neg h2).trans (if_pos h3)]; rw [show zv_hi cand vo vd (i + 1) = zv_hi cand vo vd i from (if_neg h2).trans (if_pos h4)]; exact hP) (by rw [show zv_lo cand vo vd (i + 1) = zv_lo cand vo vd i from (if_neg h2).trans (if_pos h3)]; rw [show zv_hi cand vo vd (i + 1) = zv_hi cand vo vd i from (if_neg h2).trans (if_pos h4)]; exact hD) hS _ (lv_sub hl [3, 0] rfl)
            · refine lv_aload_n hx hb dV_findBounds_98 rfl (lv_at hl 2 rfl) ?_
              refine zz_getV hx hb hT hown hK hP 0 rfl 2 (by decide) tw_102 rfl dV_findBounds_99 ?_
              refine lv_lload hx hb dV_findBounds_102 (lv_at hl 0 rfl) ?_
              refine zz_call (va_runS (Ts := []) (As := [.long (zv_hi cand vo vd i), .long ((vo i) + (vd i))]) (own := RV) ⟨hx, hb, hml, hown, fun _ h => nomatch h⟩ (ct_J_max_f86c l) (zt_cs hT tc_J_max_f86c ts_J_max_f86c tw_213 ⟨Nat.le_of_ble_eq_true rfl, Nat.le_of_ble_eq_true rfl⟩) (zz_pre0 hT) rfl rfl hl.1 rfl (lv_room (Nat.le_of_ble_eq_true rfl)) dV_findBounds_104 ⟨Nat.zero_le _, Nat.zero_le _⟩) ?_
              refine lv_goto (tgt := 114) hx hb dV_findBounds_107 (by decide) ?_
              refine zz_putV (ty := .long) hx hb hT hown hK hP hD hS 0 rfl 2 (by decide) tw_102 rfl (by decide +kernel) rfl rfl (Nat.le_of_ble_eq_true rfl) dV_findBounds_114 (fun H locs hP hD hS => ?_)
              have hP : va_P (dC, dI) vcl (zv_W v a b cJ cand (zv_lo cand vo vd i) (zn_max (zv_hi cand vo vd i) ((vo i) + (vd i))) surv vo vd) H := hP
              have hD : va_D A (zv_W v a b cJ cand (zv_lo cand vo vd i) (zn_max (zv_hi cand vo vd i) ((vo i) + (vd i))) surv vo vd) := hD
              refine lv_iinc (k := 3) (v := nI (i + 1)) (lv' := [(1, .int (nI (i + 1))), (4, .long ((vo i) + (vd i))), (2, .long ((vo i) - (vd i))), (0, .ref v)]) hx hb dV_findBounds_117 hl rfl (nI_succ _).symm (by decide) rfl (fun ls hl => ?_)
              refine lv_goto (tgt := 16) hx hb dV_findBounds_120 (by decide) ?_
              exact ih_lp (i + 1) _ _ (by omega) (by omega) (by rw [show zv_lo cand vo vd (i + 1) = zv_lo cand vo vd i from (if_neg h2).trans (if_pos h3)]; rw [show zv_hi cand vo vd (i + 1) = zn_max (zv_hi cand vo vd i) ((vo i) + (vd i)) from (if_neg h2).trans (if_neg h4)]; exact hP) (by rw [show zv_lo cand vo vd (i + 1) = zv_lo cand vo vd i from (if_neg h2).trans (if_pos h3)]; rw [show zv_hi cand vo vd (i + 1) = zn_max (zv_hi cand vo vd i) ((vo i) + (vd i)) from (if_neg h2).trans (if_neg h4)]; exact hD) hS _ (lv_sub hl [3, 0] rfl)
          · refine lv_aload_n hx hb dV_findBounds_70 rfl (lv_at hl 2 rfl) ?_
            refine zz_getV hx hb hT hown hK hP 0 rfl 1 (by decide) tw_100 rfl dV_findBounds_71 ?_
            refine lv_lload_n hx hb dV_findBounds_74 rfl (lv_at hl 1 rfl) ?_
            refine zz_call (va_runS (Ts := []) (As := [.long (zv_lo cand vo vd i), .long ((vo i) - (vd i))]) (own := RV) ⟨hx, hb, hml, hown, fun _ h => nomatch h⟩ (ct_J_min_f86c l) (zt_cs hT tc_J_min_f86c ts_J_min_f86c tw_210 ⟨Nat.le_of_ble_eq_true rfl, Nat.le_of_ble_eq_true rfl⟩) (zz_pre0 hT) rfl rfl hl.1 rfl (lv_room (Nat.le_of_ble_eq_true rfl)) dV_findBounds_75 ⟨Nat.zero_le _, Nat.zero_le _⟩) ?_
            refine lv_goto (tgt := 85) hx hb dV_findBounds_78 (by decide) ?_
            refine zz_putV (ty := .long) hx hb hT hown hK hP hD hS 0 rfl 1 (by decide) tw_100 rfl (by decide +kernel) rfl rfl (Nat.le_of_ble_eq_true rfl) dV_findBounds_85 (fun H locs hP hD hS => ?_)
            have hP : va_P (dC, dI) vcl (zv_W v a b cJ cand (zn_min (zv_lo cand vo vd i) ((vo i) - (vd i))) (zv_hi cand vo vd i) surv vo vd) H := hP
            have hD : va_D A (zv_W v a b cJ cand (zn_min (zv_lo cand vo vd i) ((vo i) - (vd i))) (zv_hi cand vo vd i) surv vo vd) := hD
            refine lv_aload_n hx hb dV_findBounds_88 rfl (lv_at hl 2 rfl) ?_
            refine lv_aload_n hx hb dV_findBounds_89 rfl (lv_at hl 2 rfl) ?_
            refine lv_lload hx hb dV_findBounds_90 (lv_at hl 0 rfl) ?_
            refine zz_call (va_runV (Ts := []) (As := [.long ((vo i) + (vd i))]) (own := RV) ⟨hx, hb, hml, hown, fun _ h => nomatch h⟩ (ct_V_isInMost l) (zt_cv hT tc_V_isInMost tv_V_isInMost tw_199 ⟨Nat.le_of_ble_eq_true rfl, Nat.le_of_ble_eq_true rfl⟩) (zz_preV (q0 := 0) hT hP hK rfl rfl) rfl rfl hl.1 rfl (lv_room (Nat.le_of_ble_eq_true rfl)) dV_findBounds_92 ⟨Nat.zero_le _, Nat.zero_le _⟩) ?_
            refine zz_zeq (tgt := 110) hx hb dV_findBounds_95 (by decide) (fun h5 => ?_) (fun h5 => ?_)
            · refine lv_aload_n hx hb dV_findBounds_110 rfl (lv_at hl 2 rfl) ?_
              refine zz_getV hx hb hT hown hK hP 0 rfl 2 (by decide) tw_102 rfl dV_findBounds_111 ?_
              refine zz_putV (ty := .long) hx hb hT hown hK hP hD hS 0 rfl 2 (by decide) tw_102 rfl (by decide +kernel) rfl rfl (Nat.le_of_ble_eq_true rfl) dV_findBounds_114 (fun H locs hP hD hS => ?_)
              have hP : va_P (dC, dI) vcl (zv_W v a b cJ cand (zn_min (zv_lo cand vo vd i) ((vo i) - (vd i))) (zv_hi cand vo vd i) surv vo vd) H := hP
              have hD : va_D A (zv_W v a b cJ cand (zn_min (zv_lo cand vo vd i) ((vo i) - (vd i))) (zv_hi cand vo vd i) surv vo vd) := hD
              refine lv_iinc (k := 3) (v := nI (i + 1)) (lv' := [(1, .int (nI (i + 1))), (4, .long ((vo i) + (vd i))), (2, .long ((vo i) - (vd i))), (0, .ref v)]) hx hb dV_findBounds_117 hl rfl (nI_succ _).symm (by decide) rfl (fun ls hl => ?_)
              refine lv_goto (tgt := 16) hx hb dV_findBounds_120 (by decide) ?_
              exact ih_lp (i + 1) _ _ (by omega) (by omega) (by rw [show zv_lo cand vo vd (i + 1) = zn_min (zv_lo cand vo vd i) ((vo i) - (vd i)) from (if_neg h2).trans (if_neg h3)]; rw [show zv_hi cand vo vd (i + 1) = zv_hi cand vo vd i from (if_neg h2).trans (if_pos h5)]; exact hP) (by rw [show zv_lo cand vo vd (i + 1) = zn_min (zv_lo cand vo vd i) ((vo i) - (vd i)) from (if_neg h2).trans (if_neg h3)]; rw [show zv_hi cand vo vd (i + 1) = zv_hi cand vo vd i from (if_neg h2).trans (if_pos h5)]; exact hD) hS _ (lv_sub hl [3, 0] rfl)
            · refine lv_aload_n hx hb dV_findBounds_98 rfl (lv_at hl 2 rfl) ?_
              refine zz_getV hx hb hT hown hK hP 0 rfl 2 (by decide) tw_102 rfl dV_findBounds_99 ?_
              refine lv_lload hx hb dV_findBounds_102 (lv_at hl 0 rfl) ?_
              refine zz_call (va_runS (Ts := []) (As := [.long (zv_hi cand vo vd i), .long ((vo i) + (vd i))]) (own := RV) ⟨hx, hb, hml, hown, fun _ h => nomatch h⟩ (ct_J_max_f86c l) (zt_cs hT tc_J_max_f86c ts_J_max_f86c tw_213 ⟨Nat.le_of_ble_eq_true rfl, Nat.le_of_ble_eq_true rfl⟩) (zz_pre0 hT) rfl rfl hl.1 rfl (lv_room (Nat.le_of_ble_eq_true rfl)) dV_findBounds_104 ⟨Nat.zero_le _, Nat.zero_le _⟩) ?_
              refine lv_goto (tgt := 114) hx hb dV_findBounds_107 (by decide) ?_
              refine zz_putV (ty := .long) hx hb hT hown hK hP hD hS 0 rfl 2 (by decide) tw_102 rfl (by decide +kernel) rfl rfl (Nat.le_of_ble_eq_true rfl) dV_findBounds_114 (fun H locs hP hD hS => ?_)
              have hP : va_P (dC, dI) vcl (zv_W v a b cJ cand (zn_min (zv_lo cand vo vd i) ((vo i) - (vd i))) (zn_max (zv_hi cand vo vd i) ((vo i) + (vd i))) surv vo vd) H := hP
              have hD : va_D A (zv_W v a b cJ cand (zn_min (zv_lo cand vo vd i) ((vo i) - (vd i))) (zn_max (zv_hi cand vo vd i) ((vo i) + (vd i))) surv vo vd) := hD
              refine lv_iinc (k := 3) (v := nI (i + 1)) (lv' := [(1, .int (nI (i + 1))), (4, .long ((vo i) + (vd i))), (2, .long ((vo i) - (vd i))), (0, .ref v)]) hx hb dV_findBounds_117 hl rfl (nI_succ _).symm (by decide) rfl (fun ls hl => ?_)
              refine lv_goto (tgt := 16) hx hb dV_findBounds_120 (by decide) ?_
              exact ih_lp (i + 1) _ _ (by omega) (by omega) (by rw [show zv_lo cand vo vd (i + 1) = zn_min (zv_lo cand vo vd i) ((vo i) - (vd i)) from (if_neg h2).trans (if_neg h3)]; rw [show zv_hi cand vo vd (i + 1) = zn_max (zv_hi cand vo vd i) ((vo i) + (vd i)) from (if_neg h2).trans (if_neg h5)]; exact hP) (by rw [show zv_lo cand vo vd (i + 1) = zn_min (zv_lo cand vo vd i) ((vo i) - (vd i)) from (if_neg h2).trans (if_neg h3)]; rw [show zv_hi cand vo vd (i + 1) = zn_max (zv_hi cand vo vd i) ((vo i) + (vd i)) from (if_neg h2).trans (if_neg h5)]; exact hD) hS _ (lv_sub hl [3, 0] rfl)
  exact lp (5 - 0 + 1) 0 _ _ (by omega) (Nat.zero_le _) (by rw [show zv_lo cand vo vd 0 = 4611686018427387904 from rfl]; rw [show zv_hi cand vo vd 0 = (-4611686018427387904) from rfl]; exact hP) (by rw [show zv_lo cand vo vd 0 = 4611686018427387904 from rfl]; rw [show zv_hi cand vo vd 0 = (-4611686018427387904) from rfl]; exact hD) hS _ (by rw [show nI 0 = 0 from rfl]; exact lv_sub hl [1, 0] rfl)
