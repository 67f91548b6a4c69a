/-! The model: candidates, kiss, step, slow -/
set_option maxHeartbeats 4000000 in
set_option maxRecDepth 100000 in
theorem ct_M_candidates (l : Launch) {dC : Nat → ClassId} {dI : Nat → Nat → Nat} {cJ cI cB cZ cS : ClassId} {sz : Nat} {o : Nat} {ad : Nat → Nat} {thr wst : Int32} {loc slw low high : Int64} {pk den rch pol ask str ins : Nat → Int32} {xp rdl rds off del cam : Nat → Int64} {nn : Nat → Nat} (hn : ∀ k, nn k ≤ 8) : Met l yM_candidates [Cond.code yM_candidates cM_candidates 3 (some .int)] { frames := 5, cells := 0, slots := 0, locals := 116 } (va_Pc [.ref o] (zq_B (dC, dI) vcl (zz_T cJ cI cB cZ cS) (zm_W o ad cI cJ cZ thr loc slw wst pk den rch pol ask xp str rdl rds nn off del cam ins low high) sz)) (zq_Q (dC, dI) vcl (some (.int (zm_cs (zm_c den rch rdl rds off del cam loc nn) 5))) (zm_W o ad cI cJ cZ thr loc slw wst pk den rch pol ask xp str rdl rds nn off del cam ins low high) (zm_W o ad cI cJ cZ 0 loc slw wst pk den rch pol ask xp str rdl rds nn off del cam ins low high) sz) 0 0 (va_A (zm_W o ad cI cJ cZ thr loc slw wst pk den rch pol ask xp str rdl rds nn off del cam ins low high) sz) := by
  refine Met.ofW (cc := cM_candidates) (maxL := 3) (ret := (some .int)) (by decide) rfl ?_
  intro p e s m args below meth c s₁ B hml hv
  obtain ⟨rfl, hsz, hT, hP, hK, hD0⟩ := hv
  subst hsz
  have hx := B.exec
  have hb := B.bytes
  have hr := B.returns
  have hlocks := B.notSynchronized
  have hown : s.vm.findClass RM = some m.cls := findClass_of_methodNamed B.named
  have hD := hD0.self (sz := s.heap.size)
  generalize hAe : va_A (zm_W o ad cI cJ cZ thr loc slw wst pk den rch pol ask xp str rdl rds nn off del cam ins low high) s.heap.size = A at hD ⊢
  have hA : ∀ q : Nat, s.heap.size ≤ q → A q := fun q h => by rw [← hAe]; exact Or.inr h
  have hS : va_S A s.heap s.heap [] := va_S.rf
  have hl := lv_entry ([.ref o]) (n := 3) (Nat.le_of_ble_eq_true rfl)
  rw [lg_entry_eq]
  generalize (lg_sl ([.ref o]) ++ List.replicate (3 - (lg_sl ([.ref o])).length) Slot.unset).toArray = ls at hl ⊢
  have hl : lv_has ls 3 [(0, .ref o)] := hl
  refine lv_aload_n hx hb dM_candidates_0 rfl (lv_at hl 0 rfl) ?_
  refine lv_iconst (v := 0) hx hb dM_candidates_1 (by decide) ?_
  refine zz_putM (ty := .int) hx hb hT hown hK hP hD hS 0 rfl 0 (by decide) tw_617 rfl (by decide +kernel) rfl rfl (Nat.le_of_ble_eq_true rfl) dM_candidates_2 (fun H locs hP hD hS => ?_)
  have hP : va_P (dC, dI) vcl (zm_W o ad cI cJ cZ 0 loc slw wst pk den rch pol ask xp str rdl rds nn off del cam ins low high) H := hP
  have hD : va_D A (zm_W o ad cI cJ cZ 0 loc slw wst pk den rch pol ask xp str rdl rds nn off del cam ins low high) := hD
  refine lv_iconst (v := 0) hx hb dM_candidates_5 (by decide) ?_
  refine lv_istore_n (lv' := [(1, .int 0), (0, .ref o)]) hx hb dM_candidates_6 rfl hl (by decide) rfl (fun ls hl => ?_)
  refine lv_iconst (v := 0) hx hb dM_candidates_7 (by decide) ?_
  refine lv_istore_n (lv' := [(2, .int 0), (1, .int 0), (0, .ref o)]) hx hb dM_candidates_8 rfl hl (by decide) rfl (fun ls hl => ?_)
  have lp : ∀ (k9 : Nat) (i : Nat) (H : Heap) (locs : List Loc), 5 - i < k9 → (i ≤ 5) → va_P (dC, dI) vcl (zm_W o ad cI cJ cZ 0 loc slw wst pk den rch pol ask xp str rdl rds nn off del cam ins low high) H → va_D A (zm_W o ad cI cJ cZ 0 loc slw wst pk den rch pol ask xp str rdl rds nn off del cam ins low high) → va_S A s.heap H locs → ∀ ls : Array Slot, lv_has ls 3 [(0, .ref o), (1, .int (zm_cs (zm_c den rch rdl rds off del cam loc nn) i)), (2, .int (nI i))] → W p l e ({ frames := 5, cells := 0, slots := 0, locals := 116 } : Room) s m ([.ref o] : List Value).toArray below meth c H locs 0 0 (MQ below (zq_Q (dC, dI) vcl (some (.int (zm_cs (zm_c den rch rdl rds off del cam loc nn) 5))) (zm_W o ad cI cJ cZ thr loc slw wst pk den rch pol ask xp str rdl rds nn off del cam ins low high) (zm_W o ad cI cJ cZ 0 loc slw wst pk den rch pol ask xp str rdl rds nn off del cam ins low high) s.heap.size) ([.ref o] : List Value).toArray s 0 0 A) (F0 m 9 ls []) := by
    intro k9
    induction k9 with
    | zero => intro i H locs hk9; exact absurd hk9 (Nat.not_lt_zero _)
    | succ k9 ih_lp =>
      intro i H locs hk9 hi hP hD hS ls hl
      refine lv_iload_n hx hb dM_candidates_9 rfl (lv_at hl 2 rfl) ?_
      refine lv_iconst (v := 5) hx hb dM_candidates_10 (by decide) ?_
      refine zz_ige (tgt := 38) hx hb dM_candidates_11 (by decide) (fun h1 => ?_) (fun h1 => ?_)
      · have h1n := mt (zz_ltN (a := i) (b := 5) rfl rfl (by omega) (by omega)).mpr h1
        refine lv_iload_n hx hb dM_candidates_38 rfl (lv_at hl 1 rfl) ?_
        exact zq_iret hx hb hr hlocks dM_candidates_39 (by rw [show i = 5 from (by omega)]) hAe hP hD hS
      · have h1n := (zz_ltN (a := i) (b := 5) rfl rfl (by omega) (by omega)).mp h1
        refine lv_aload_n hx hb dM_candidates_14 rfl (lv_at hl 0 rfl) ?_
        refine lv_iload_n hx hb dM_candidates_15 rfl (lv_at hl 2 rfl) ?_
        refine zz_call (va_runV (Ts := []) (As := [.int (nI i)]) (own := RM) ⟨hx, hb, hml, hown, fun _ h => nomatch h⟩ (ct_M_isCandidate l (k := i) (by omega) (hn _)) (zt_cv hT tc_M_isCandidate tv_M_isCandidate tw_799 ⟨Nat.le_of_ble_eq_true rfl, Nat.le_of_ble_eq_true rfl⟩) (zz_preV (q0 := 0) hT hP hK rfl rfl) rfl rfl hl.1 rfl (lv_room (Nat.le_of_ble_eq_true rfl)) dM_candidates_16 ⟨Nat.zero_le _, Nat.zero_le _⟩) ?_
        refine zz_zeq (tgt := 30) hx hb dM_candidates_19 (by decide) (fun h2 => ?_) (fun h2 => ?_)
        · refine lv_iload_n hx hb dM_candidates_30 rfl (lv_at hl 1 rfl) ?_
          refine lv_istore_n (lv' := [(1, .int (zm_cs (zm_c den rch rdl rds off del cam loc nn) i)), (0, .ref o), (2, .int (nI i))]) hx hb dM_candidates_31 rfl hl (by decide) rfl (fun ls hl => ?_)
          refine lv_iinc (k := 2) (v := nI (i + 1)) (lv' := [(2, .int (nI (i + 1))), (1, .int (zm_cs (zm_c den rch rdl rds off del cam loc nn) i)), (0, .ref o)]) hx hb dM_candidates_32 hl rfl (nI_succ _).symm (by decide) rfl (fun ls hl => ?_)
          refine lv_goto (tgt := 9) hx hb dM_candidates_35 (by decide) ?_
          exact ih_lp (i + 1) _ _ (by omega) (by omega) hP hD hS _ (by rw [show zm_cs (zm_c den rch rdl rds off del cam loc nn) (i + 1) = zm_cs (zm_c den rch rdl rds off del cam loc nn) i from if_pos h2]; exact lv_sub hl [2, 1, 0] rfl)
        · refine lv_iload_n hx hb dM_candidates_22 rfl (lv_at hl 1 rfl) ?_
          refine lv_iconst (v := 1) hx hb dM_candidates_23 (by decide) ?_
          refine lv_iload_n hx hb dM_candidates_24 rfl (lv_at hl 2 rfl) ?_
          refine lv_ishl hx hb dM_candidates_25 ?_
          refine lv_iadd hx hb dM_candidates_26 ?_
          refine lv_goto (tgt := 31) hx hb dM_candidates_27 (by decide) ?_
          refine lv_istore_n (lv' := [(1, .int ((zm_cs (zm_c den rch rdl rds off del cam loc nn) i) + (1 <<< ((nI i) &&& 31)))), (0, .ref o), (2, .int (nI i))]) hx hb dM_candidates_31 rfl hl (by decide) rfl (fun ls hl => ?_)
          refine lv_iinc (k := 2) (v := nI (i + 1)) (lv' := [(2, .int (nI (i + 1))), (1, .int ((zm_cs (zm_c den rch rdl rds off del cam loc nn) i) + (1 <<< ((nI i) &&& 31)))), (0, .ref o)]) hx hb dM_candidates_32 hl rfl (nI_succ _).symm (by decide) rfl (fun ls hl => ?_)
          refine lv_goto (tgt := 9) hx hb dM_candidates_35 (by decide) ?_
          exact ih_lp (i + 1) _ _ (by omega) (by omega) hP hD hS _ (by rw [show zm_cs (zm_c den rch rdl rds off del cam loc nn) (i + 1) = (zm_cs (zm_c den rch rdl rds off del cam loc nn) i) + (1 <<< ((nI i) &&& 31)) from if_neg h2]; exact lv_sub hl [2, 1, 0] rfl)
  exact lp (5 - 0 + 1) 0 _ _ (by omega) (Nat.zero_le _) hP hD hS _ (by rw [show zm_cs (zm_c den rch rdl rds off del cam loc nn) 0 = 0 from rfl]; rw [show nI 0 = 0 from rfl]; exact lv_sub hl [2, 1, 0] rfl)
set_option maxHeartbeats 4000000 in
set_option maxRecDepth 100000 in
theorem ct_M_kiss (l : Launch) {dC : Nat → ClassId} {dI : Nat → Nat → Nat} {cJ cI cB cZ cS : ClassId} {sz : Nat} {o : Nat} {ad : Nat → Nat} {thr wst : Int32} {loc slw low high : Int64} {pk den rch pol ask str ins : Nat → Int32} {xp rdl rds off del cam : Nat → Int64} {nn : Nat → Nat} {k : Nat} (hk : k < 5) : Met l yM_kiss [Cond.code yM_kiss cM_kiss 4 (some .int)] { frames := 1, cells := 0, slots := 0, locals := 25 } (va_Pc [.ref o, .int (nI k)] (zq_B (dC, dI) vcl (zz_T cJ cI cB cZ cS) (zm_W o ad cI cJ cZ thr loc slw wst pk den rch pol ask xp str rdl rds nn off del cam ins low high) sz)) (zq_Q (dC, dI) vcl (some (.int 2)) (zm_W o ad cI cJ cZ thr loc slw wst pk den rch pol ask xp str rdl rds nn off del cam ins low high) (zm_W o ad cI cJ cZ thr loc slw wst pk (zm_kd den (zm_rd pk 12 4) k) rch (zm_kp pol (zm_rd pk 12 4) k) ask xp str rdl rds nn off del cam ins low high) sz) 0 0 (va_A (zm_W o ad cI cJ cZ thr loc slw wst pk den rch pol ask xp str rdl rds nn off del cam ins low high) sz) := by
  refine Met.ofW (cc := cM_kiss) (maxL := 4) (ret := (some .int)) (by decide) rfl ?_
  intro p e s m args below meth c s₁ B hml hv
  obtain ⟨rfl, hsz, hT, hP, hK, hD0⟩ := hv
  subst hsz
  have hx := B.exec
  have hb := B.bytes
  have hr := B.returns
  have hlocks := B.notSynchronized
  have hown : s.vm.findClass RM = some m.cls := findClass_of_methodNamed B.named
  have hD := hD0.self (sz := s.heap.size)
  generalize hAe : va_A (zm_W o ad cI cJ cZ thr loc slw wst pk den rch pol ask xp str rdl rds nn off del cam ins low high) s.heap.size = A at hD ⊢
  have hA : ∀ q : Nat, s.heap.size ≤ q → A q := fun q h => by rw [← hAe]; exact Or.inr h
  have hS : va_S A s.heap s.heap [] := va_S.rf
  have hl := lv_entry ([.ref o, .int (nI k)]) (n := 4) (Nat.le_of_ble_eq_true rfl)
  rw [lg_entry_eq]
  generalize (lg_sl ([.ref o, .int (nI k)]) ++ List.replicate (4 - (lg_sl ([.ref o, .int (nI k)])).length) Slot.unset).toArray = ls at hl ⊢
  have hl : lv_has ls 4 [(0, .ref o), (1, .int (nI k))] := hl
  refine lv_aload_n hx hb dM_kiss_0 rfl (lv_at hl 0 rfl) ?_
  refine lv_bipush (v := 12) hx hb dM_kiss_1 (by decide) ?_
  refine lv_iconst (v := 4) hx hb dM_kiss_3 (by decide) ?_
  refine zz_call (va_runV (Ts := []) (As := [.int 12, .int 4]) (own := RM) ⟨hx, hb, hml, hown, fun _ h => nomatch h⟩ (ct_M_read l (u := 12) (n := 4) (by first | decide | omega)) (zt_cv hT tc_M_read tv_M_read tw_722 ⟨Nat.le_of_ble_eq_true rfl, Nat.le_of_ble_eq_true rfl⟩) (zz_preV (q0 := 0) hT hP hK rfl rfl) rfl rfl hl.1 rfl (lv_room (Nat.le_of_ble_eq_true rfl)) dM_kiss_4 ⟨Nat.zero_le _, Nat.zero_le _⟩) ?_
  refine lv_lstore_n (lv' := [(2, .long (zm_rd pk 12 4)), (0, .ref o), (1, .int (nI k))]) hx hb dM_kiss_7 rfl hl (by decide) rfl (fun ls hl => ?_)
  refine lv_lload_n hx hb dM_kiss_8 rfl (lv_at hl 0 rfl) ?_
  refine lv_ldc2 (own := RM) (v := 1145392729) hx hb hown (hT.w tw_730) dM_kiss_9 ?_
  refine zz_leq (tgt := 24) hx hb dM_kiss_12 dM_kiss_13 (by decide) (fun h1 => ?_) (fun h1 => ?_)
  · refine lv_aload_n hx hb dM_kiss_24 rfl (lv_at hl 1 rfl) ?_
    refine zz_getM hx hb hT hown hK hP 0 rfl 5 (by decide) tw_622 rfl dM_kiss_25 ?_
    refine lv_iload_n hx hb dM_kiss_28 rfl (lv_at hl 2 rfl) ?_
    refine lv_iconst (v := 1) hx hb dM_kiss_29 (by decide) ?_
    refine zq_zast hx hb hK hP hD hS 2 3 rfl rfl k rfl (by first | omega | decide | assumption) (by decide) rfl dM_kiss_30 (fun H locs hP hD hS => ?_)
    have hP : va_P (dC, dI) vcl (zm_W o ad cI cJ cZ thr loc slw wst pk (upd den k 1) rch pol ask xp str rdl rds nn off del cam ins low high) H := hP
    have hD : va_D A (zm_W o ad cI cJ cZ thr loc slw wst pk (upd den k 1) rch pol ask xp str rdl rds nn off del cam ins low high) := hD
    refine lv_lload_n hx hb dM_kiss_31 rfl (lv_at hl 0 rfl) ?_
    refine lv_ldc2 (own := RM) (v := 1380013125) hx hb hown (hT.w tw_732) dM_kiss_32 ?_
    refine zz_lne (tgt := 60) hx hb dM_kiss_35 dM_kiss_36 (by decide) (fun h2 => ?_) (fun h2 => ?_)
    · refine lv_iconst (v := 2) hx hb dM_kiss_60 (by decide) ?_
      exact zq_iret hx hb hr hlocks dM_kiss_61 (rfl) hAe (by rw [show zm_kd den (zm_rd pk 12 4) k = upd den k 1 from by unfold zm_kd; first | (rw [if_pos (by grind)]; done) | (rw [if_neg (by grind)]; done)]; rw [show zm_kp pol (zm_rd pk 12 4) k = pol from by unfold zm_kp; first | (rw [if_pos (by grind)]; done) | (rw [if_neg (by grind)]; done)]; exact hP) (by rw [show zm_kd den (zm_rd pk 12 4) k = upd den k 1 from by unfold zm_kd; first | (rw [if_pos (by grind)]; done) | (rw [if_neg (by grind)]; done)]; rw [show zm_kp pol (zm_rd pk 12 4) k = pol from by unfold zm_kp; first | (rw [if_pos (by grind)]; done) | (rw [if_neg (by grind)]; done)]; exact hD) hS
    · refine lv_aload_n hx hb dM_kiss_39 rfl (lv_at hl 1 rfl) ?_
      refine zz_getM hx hb hT hown hK hP 0 rfl 7 (by decide) tw_624 rfl dM_kiss_40 ?_
      refine lv_iload_n hx hb dM_kiss_43 rfl (lv_at hl 2 rfl) ?_
      refine zz_iald hx hb hK hP 4 1 rfl rfl k rfl (by first | omega | decide | assumption) (by decide) dM_kiss_44 ?_
      refine lv_bipush (v := 10) hx hb dM_kiss_45 (by decide) ?_
      refine zz_ige (tgt := 60) hx hb dM_kiss_47 (by decide) (fun h3 => ?_) (fun h3 => ?_)
      · refine lv_iconst (v := 2) hx hb dM_kiss_60 (by decide) ?_
        exact zq_iret hx hb hr hlocks dM_kiss_61 (rfl) hAe (by rw [show zm_kd den (zm_rd pk 12 4) k = upd den k 1 from by unfold zm_kd; first | (rw [if_pos (by grind)]; done) | (rw [if_neg (by grind)]; done)]; rw [show zm_kp pol (zm_rd pk 12 4) k = pol from by unfold zm_kp; first | (rw [if_pos (by grind)]; done) | (rw [if_neg (by grind)]; done)]; exact hP) (by rw [show zm_kd den (zm_rd pk 12 4) k = upd den k 1 from by unfold zm_kd; first | (rw [if_pos (by grind)]; done) | (rw [if_neg (by grind)]; done)]; rw [show zm_kp pol (zm_rd pk 12 4) k = pol from by unfold zm_kp; first | (rw [if_pos (by grind)]; done) | (rw [if_neg (by grind)]; done)]; exact hD) hS
      · refine lv_aload_n hx hb dM_kiss_50 rfl (lv_at hl 1 rfl) ?_
        refine zz_getM hx hb hT hown hK hP 0 rfl 7 (by decide) tw_624 rfl dM_kiss_51 ?_
        refine lv_iload_n hx hb dM_kiss_54 rfl (lv_at hl 2 rfl) ?_
        refine lv_dup2_11 hx hb dM_kiss_55 rfl rfl ?_
        refine zz_iald hx hb hK hP 4 1 rfl rfl k rfl (by first | omega | decide | assumption) (by decide) dM_kiss_56 ?_
        refine lv_iconst (v := 1) hx hb dM_kiss_57 (by decide) ?_
        refine lv_iadd hx hb dM_kiss_58 ?_
        refine zq_iast hx hb hK hP hD hS 4 1 rfl rfl k rfl (by first | omega | decide | assumption) (by decide) dM_kiss_59 (fun H locs hP hD hS => ?_)
        have hP : va_P (dC, dI) vcl (zm_W o ad cI cJ cZ thr loc slw wst pk (upd den k 1) rch (upd pol k ((pol k) + 1)) ask xp str rdl rds nn off del cam ins low high) H := hP
        have hD : va_D A (zm_W o ad cI cJ cZ thr loc slw wst pk (upd den k 1) rch (upd pol k ((pol k) + 1)) ask xp str rdl rds nn off del cam ins low high) := hD
        refine lv_iconst (v := 2) hx hb dM_kiss_60 (by decide) ?_
        exact zq_iret hx hb hr hlocks dM_kiss_61 (rfl) hAe (by rw [show zm_kd den (zm_rd pk 12 4) k = upd den k 1 from by unfold zm_kd; first | (rw [if_pos (by grind)]; done) | (rw [if_neg (by grind)]; done)]; rw [show zm_kp pol (zm_rd pk 12 4) k = upd pol k ((pol k) + 1) from by unfold zm_kp; first | (rw [if_pos (by grind)]; done) | (rw [if_neg (by grind)]; done)]; exact hP) (by rw [show zm_kd den (zm_rd pk 12 4) k = upd den k 1 from by unfold zm_kd; first | (rw [if_pos (by grind)]; done) | (rw [if_neg (by grind)]; done)]; rw [show zm_kp pol (zm_rd pk 12 4) k = upd pol k ((pol k) + 1) from by unfold zm_kp; first | (rw [if_pos (by grind)]; done) | (rw [if_neg (by grind)]; done)]; exact hD) hS
  · refine lv_lload_n hx hb dM_kiss_16 rfl (lv_at hl 0 rfl) ?_
    refine lv_ldc2 (own := RM) (v := 1381192786) hx hb hown (hT.w tw_731) dM_kiss_17 ?_
    refine zz_lne (tgt := 31) hx hb dM_kiss_20 dM_kiss_21 (by decide) (fun h4 => ?_) (fun h4 => ?_)
    · refine lv_lload_n hx hb dM_kiss_31 rfl (lv_at hl 0 rfl) ?_
      refine lv_ldc2 (own := RM) (v := 1380013125) hx hb hown (hT.w tw_732) dM_kiss_32 ?_
      refine zz_lne (tgt := 60) hx hb dM_kiss_35 dM_kiss_36 (by decide) (fun h5 => ?_) (fun h5 => ?_)
      · refine lv_iconst (v := 2) hx hb dM_kiss_60 (by decide) ?_
        exact zq_iret hx hb hr hlocks dM_kiss_61 (rfl) hAe (by rw [show zm_kd den (zm_rd pk 12 4) k = den from by unfold zm_kd; first | (rw [if_pos (by grind)]; done) | (rw [if_neg (by grind)]; done)]; rw [show zm_kp pol (zm_rd pk 12 4) k = pol from by unfold zm_kp; first | (rw [if_pos (by grind)]; done) | (rw [if_neg (by grind)]; done)]; exact hP) (by rw [show zm_kd den (zm_rd pk 12 4) k = den from by unfold zm_kd; first | (rw [if_pos (by grind)]; done) | (rw [if_neg (by grind)]; done)]; rw [show zm_kp pol (zm_rd pk 12 4) k = pol from by unfold zm_kp; first | (rw [if_pos (by grind)]; done) | (rw [if_neg (by grind)]; done)]; exact hD) hS
      · refine lv_aload_n hx hb dM_kiss_39 rfl (lv_at hl 1 rfl) ?_
        refine zz_getM hx hb hT hown hK hP 0 rfl 7 (by decide) tw_624 rfl dM_kiss_40 ?_
        refine lv_iload_n hx hb dM_kiss_43 rfl (lv_at hl 2 rfl) ?_
        refine zz_iald hx hb hK hP 4 1 rfl rfl k rfl (by first | omega | decide | assumption) (by decide) dM_kiss_44 ?_
        refine lv_bipush (v := 10) hx hb dM_kiss_45 (by decide) ?_
        refine zz_ige (tgt := 60) hx hb dM_kiss_47 (by decide) (fun h6 => ?_) (fun h6 => ?_)
        · refine lv_iconst (v := 2) hx hb dM_kiss_60 (by decide) ?_
          exact zq_iret hx hb hr hlocks dM_kiss_61 (rfl) hAe (by rw [show zm_kd den (zm_rd pk 12 4) k = den from by unfold zm_kd; first | (rw [if_pos (by grind)]; done) | (rw [if_neg (by grind)]; done)]; rw [show zm_kp pol (zm_rd pk 12 4) k = pol from by unfold zm_kp; first | (rw [if_pos (by grind)]; done) | (rw [if_neg (by grind)]; done)]; exact hP) (by rw [show zm_kd den (zm_rd pk 12 4) k = den from by unfold zm_kd; first | (rw [if_pos (by grind)]; done) | (rw [if_neg (by grind)]; done)]; rw [show zm_kp pol (zm_rd pk 12 4) k = pol from by unfold zm_kp; first | (rw [if_pos (by grind)]; done) | (rw [if_neg (by grind)]; done)]; exact hD) hS
        · refine lv_aload_n hx hb dM_kiss_50 rfl (lv_at hl 1 rfl) ?_
          refine zz_getM hx hb hT hown hK hP 0 rfl 7 (by decide) tw_624 rfl dM_kiss_51 ?_
          refine lv_iload_n hx hb dM_kiss_54 rfl (lv_at hl 2 rfl) ?_
          refine lv_dup2_11 hx hb dM_kiss_55 rfl rfl ?_
          refine zz_iald hx hb hK hP 4 1 rfl rfl k rfl (by first | omega | decide | assumption) (by decide) dM_kiss_56 ?_
          refine lv_iconst (v := 1) hx hb dM_kiss_57 (by decide) ?_
          refine lv_iadd hx hb dM_kiss_58 ?_
          refine zq_iast hx hb hK hP hD hS 4 1 rfl rfl k rfl (by first | omega | decide | assumption) (by decide) dM_kiss_59 (fun H locs hP hD hS => ?_)
          have hP : va_P (dC, dI) vcl (zm_W o ad cI cJ cZ thr loc slw wst pk den rch (upd pol k ((pol k) + 1)) ask xp str rdl rds nn off del cam ins low high) H := hP
          have hD : va_D A (zm_W o ad cI cJ cZ thr loc slw wst pk den rch (upd pol k ((pol k) + 1)) ask xp str rdl rds nn off del cam ins low high) := hD
          refine lv_iconst (v := 2) hx hb dM_kiss_60 (by decide) ?_
          exact zq_iret hx hb hr hlocks dM_kiss_61 (rfl) hAe (by rw [show zm_kd den (zm_rd pk 12 4) k = den from by unfold zm_kd; first | (rw [if_pos (by grind)]; done) | (rw [if_neg (by grind)]; done)]; rw [show zm_kp pol (zm_rd pk 12 4) k = upd pol k ((pol k) + 1) from by unfold zm_kp; first | (rw [if_pos (by grind)]; done) | (rw [if_neg (by grind)]; done)]; exact hP) (by rw [show zm_kd den (zm_rd pk 12 4) k = den from by unfold zm_kd; first | (rw [if_pos (by grind)]; done) | (rw [if_neg (by grind)]; done)]; rw [show zm_kp pol (zm_rd pk 12 4) k = upd pol k ((pol k) + 1) from by unfold zm_kp; first | (rw [if_pos (by grind)]; done) | (rw [if_neg (by grind)]; done)]; exact hD) hS
    · refine lv_aload_n hx hb dM_kiss_24 rfl (lv_at hl 1 rfl) ?_
      refine zz_getM hx hb hT hown hK hP 0 rfl 5 (by decide) tw_622 rfl dM_kiss_25 ?_
      refine lv_iload_n hx hb dM_kiss_28 rfl (lv_at hl 2 rfl) ?_
      refine lv_iconst (v := 1) hx hb dM_kiss_29 (by decide) ?_
      refine zq_zast hx hb hK hP hD hS 2 3 rfl rfl k rfl (by first | omega | decide | assumption) (by decide) rfl dM_kiss_30 (fun H locs hP hD hS => ?_)
      have hP : va_P (dC, dI) vcl (zm_W o ad cI cJ cZ thr loc slw wst pk (upd den k 1) rch pol ask xp str rdl rds nn off del cam ins low high) H := hP
      have hD : va_D A (zm_W o ad cI cJ cZ thr loc slw wst pk (upd den k 1) rch pol ask xp str rdl rds nn off del cam ins low high) := hD
      refine lv_lload_n hx hb dM_kiss_31 rfl (lv_at hl 0 rfl) ?_
      refine lv_ldc2 (own := RM) (v := 1380013125) hx hb hown (hT.w tw_732) dM_kiss_32 ?_
      refine zz_lne (tgt := 60) hx hb dM_kiss_35 dM_kiss_36 (by decide) (fun h7 => ?_) (fun h7 => ?_)
      · refine lv_iconst (v := 2) hx hb dM_kiss_60 (by decide) ?_
        exact zq_iret hx hb hr hlocks dM_kiss_61 (rfl) hAe (by rw [show zm_kd den (zm_rd pk 12 4) k = upd den k 1 from by unfold zm_kd; first | (rw [if_pos (by grind)]; done) | (rw [if_neg (by grind)]; done)]; rw [show zm_kp pol (zm_rd pk 12 4) k = pol from by unfold zm_kp; first | (rw [if_pos (by grind)]; done) | (rw [if_neg (by grind)]; done)]; exact hP) (by rw [show zm_kd den (zm_rd pk 12 4) k = upd den k 1 from by unfold zm_kd; first | (rw [if_pos (by grind)]; done) | (rw [if_neg (by grind)]; done)]; rw [show zm_kp pol (zm_rd pk 12 4) k = pol from by unfold zm_kp; first | (rw [if_pos (by grind)]; done) | (rw [if_neg (by grind)]; done)]; exact hD) hS
      · refine lv_aload_n hx hb dM_kiss_39 rfl (lv_at hl 1 rfl) ?_
        refine zz_getM hx hb hT hown hK hP 0 rfl 7 (by decide) tw_624 rfl dM_kiss_40 ?_
        refine lv_iload_n hx hb dM_kiss_43 rfl (lv_at hl 2 rfl) ?_
        refine zz_iald hx hb hK hP 4 1 rfl rfl k rfl (by first | omega | decide | assumption) (by decide) dM_kiss_44 ?_
        refine lv_bipush (v := 10) hx hb dM_kiss_45 (by decide) ?_
        refine zz_ige (tgt := 60) hx hb dM_kiss_47 (by decide) (fun h8 => ?_) (fun h8 => ?_)
        · refine lv_iconst (v := 2) hx hb dM_kiss_60 (by decide) ?_
          exact zq_iret hx hb hr hlocks dM_kiss_61 (rfl) hAe (by rw [show zm_kd den (zm_rd pk 12 4) k = upd den k 1 from by unfold zm_kd; first | (rw [if_pos (by grind)]; done) | (rw [if_neg (by grind)]; done)]; rw [show zm_kp pol (zm_rd pk 12 4) k = pol from by unfold zm_kp; first | (rw [if_pos (by grind)]; done) | (rw [if_neg (by grind)]; done)]; exact hP) (by rw [show zm_kd den (zm_rd pk 12 4) k = upd den k 1 from by unfold zm_kd; first | (rw [if_pos (by grind)]; done) | (rw [if_neg (by grind)]; done)]; rw [show zm_kp pol (zm_rd pk 12 4) k = pol from by unfold zm_kp; first | (rw [if_pos (by grind)]; done) | (rw [if_neg (by grind)]; done)]; exact hD) hS
        · refine lv_aload_n hx hb dM_kiss_50 rfl (lv_at hl 1 rfl) ?_
          refine zz_getM hx hb hT hown hK hP 0 rfl 7 (by decide) tw_624 rfl dM_kiss_51 ?_
          refine lv_iload_n hx hb dM_kiss_54 rfl (lv_at hl 2 rfl) ?_
          refine lv_dup2_11 hx hb dM_kiss_55 rfl rfl ?_
          refine zz_iald hx hb hK hP 4 1 rfl rfl k rfl (by first | omega | decide | assumption) (by decide) dM_kiss_56 ?_
          refine lv_iconst (v := 1) hx hb dM_kiss_57 (by decide) ?_
          refine lv_iadd hx hb dM_kiss_58 ?_
          refine zq_iast hx hb hK hP hD hS 4 1 rfl rfl k rfl (by first | omega | decide | assumption) (by decide) dM_kiss_59 (fun H locs hP hD hS => ?_)
          have hP : va_P (dC, dI) vcl (zm_W o ad cI cJ cZ thr loc slw wst pk (upd den k 1) rch (upd pol k ((pol k) + 1)) ask xp str rdl rds nn off del cam ins low high) H := hP
          have hD : va_D A (zm_W o ad cI cJ cZ thr loc slw wst pk (upd den k 1) rch (upd pol k ((pol k) + 1)) ask xp str rdl rds nn off del cam ins low high) := hD
          refine lv_iconst (v := 2) hx hb dM_kiss_60 (by decide) ?_
          exact zq_iret hx hb hr hlocks dM_kiss_61 (rfl) hAe (by rw [show zm_kd den (zm_rd pk 12 4) k = upd den k 1 from by unfold zm_kd; first | (rw [if_pos (by grind)]; done) | (rw [if_neg (by grind)]; done)]; rw [show zm_kp pol (zm_rd pk 12 4) k = upd pol k ((pol k) + 1) from by unfold zm_kp; first | (rw [if_pos (by grind)]; done) | (rw [if_neg (by grind)]; done)]; exact hP) (by rw [show zm_kd den (zm_rd pk 12 4) k = upd den k 1 from by unfold zm_kd; first | (rw [if_pos (by grind)]; done) | (rw [if_neg (by grind)]; done)]; rw [show zm_kp pol (zm_rd pk 12 4) k = upd pol k ((pol k) + 1) from by unfold zm_kp; first | (rw [if_pos (by grind)]; done) | (rw [if_neg (by grind)]; done)]; exact hD) hS
set_option maxHeartbeats 4000000 in
set_option maxRecDepth 100000 in
theorem ct_M_step (l : Launch) {dC : Nat → ClassId} {dI : Nat → Nat → Nat} {cJ cI cB cZ cS : ClassId} {sz : Nat} {o : Nat} {ad : Nat → Nat} {thr wst : Int32} {loc slw low high : Int64} {pk den rch pol ask str ins : Nat → Int32} {xp rdl rds off del cam : Nat → Int64} {nn : Nat → Nat} {x : Int64} : Met l yM_step [Cond.code yM_step cM_step 4 none] { frames := 0, cells := 0, slots := 0, locals := 0 } (va_Pc [.ref o, .long x] (zq_B (dC, dI) vcl (zz_T cJ cI cB cZ cS) (zm_W o ad cI cJ cZ thr loc slw wst pk den rch pol ask xp str rdl rds nn off del cam ins low high) sz)) (zq_Q (dC, dI) vcl none (zm_W o ad cI cJ cZ thr loc slw wst pk den rch pol ask xp str rdl rds nn off del cam ins low high) (zm_W o ad cI cJ cZ thr (loc + x) 0 wst pk den (zm_fz rch 5) pol (zm_fz ask 5) xp str rdl rds (zm_fn nn 5) off del cam ins low high) sz) 0 0 (va_A (zm_W o ad cI cJ cZ thr loc slw wst pk den rch pol ask xp str rdl rds nn off del cam ins low high) sz) := by
  refine Met.ofW (cc := cM_step) (maxL := 4) (ret := none) (by decide) rfl ?_
  intro p e s m args below meth c s₁ B hml hv
  obtain ⟨rfl, hsz, hT, hP, hK, hD0⟩ := hv
  subst hsz
  have hx := B.exec
  have hb := B.bytes
  have hr := B.returns
  have hlocks := B.notSynchronized
  have hown : s.vm.findClass RM = some m.cls := findClass_of_methodNamed B.named
  have hD := hD0.self (sz := s.heap.size)
  generalize hAe : va_A (zm_W o ad cI cJ cZ thr loc slw wst pk den rch pol ask xp str rdl rds nn off del cam ins low high) s.heap.size = A at hD ⊢
  have hA : ∀ q : Nat, s.heap.size ≤ q → A q := fun q h => by rw [← hAe]; exact Or.inr h
  have hS : va_S A s.heap s.heap [] := va_S.rf
  have hl := lv_entry ([.ref o, .long x]) (n := 4) (Nat.le_of_ble_eq_true rfl)
  rw [lg_entry_eq]
  generalize (lg_sl ([.ref o, .long x]) ++ List.replicate (4 - (lg_sl ([.ref o, .long x])).length) Slot.unset).toArray = ls at hl ⊢
  have hl : lv_has ls 4 [(0, .ref o), (1, .long x)] := hl
  refine lv_aload_n hx hb dM_step_0 rfl (lv_at hl 0 rfl) ?_
  refine lv_aload_n hx hb dM_step_1 rfl (lv_at hl 0 rfl) ?_
  refine zz_getM hx hb hT hown hK hP 0 rfl 1 (by decide) tw_618 rfl dM_step_2 ?_
  refine lv_lload_n hx hb dM_step_5 rfl (lv_at hl 1 rfl) ?_
  refine lv_ladd hx hb dM_step_6 ?_
  refine zz_putM (ty := .long) hx hb hT hown hK hP hD hS 0 rfl 1 (by decide) tw_618 rfl (by decide +kernel) rfl rfl (Nat.le_of_ble_eq_true rfl) dM_step_7 (fun H locs hP hD hS => ?_)
  have hP : va_P (dC, dI) vcl (zm_W o ad cI cJ cZ thr (loc + x) slw wst pk den rch pol ask xp str rdl rds nn off del cam ins low high) H := hP
  have hD : va_D A (zm_W o ad cI cJ cZ thr (loc + x) slw wst pk den rch pol ask xp str rdl rds nn off del cam ins low high) := hD
  refine lv_aload_n hx hb dM_step_10 rfl (lv_at hl 0 rfl) ?_
  refine lv_lconst (v := 0) hx hb dM_step_11 (by decide) ?_
  refine zz_putM (ty := .long) hx hb hT hown hK hP hD hS 0 rfl 2 (by decide) tw_619 rfl (by decide +kernel) rfl rfl (Nat.le_of_ble_eq_true rfl) dM_step_12 (fun H locs hP hD hS => ?_)
  have hP : va_P (dC, dI) vcl (zm_W o ad cI cJ cZ thr (loc + x) 0 wst pk den rch pol ask xp str rdl rds nn off del cam ins low high) H := hP
  have hD : va_D A (zm_W o ad cI cJ cZ thr (loc + x) 0 wst pk den rch pol ask xp str rdl rds nn off del cam ins low high) := hD
  refine lv_iconst (v := 0) hx hb dM_step_15 (by decide) ?_
  refine lv_istore_n (lv' := [(3, .int 0), (0, .ref o), (1, .long x)]) hx hb dM_step_16 rfl hl (by decide) rfl (fun ls hl => ?_)
  have lp : ∀ (k9 : Nat) (i : Nat) (H : Heap) (locs : List Loc), 5 - i < k9 → (i ≤ 5) → va_P (dC, dI) vcl (zm_W o ad cI cJ cZ thr (loc + x) 0 wst pk den (zm_fz rch i) pol (zm_fz ask i) xp str rdl rds (zm_fn nn i) off del cam ins low high) H → va_D A (zm_W o ad cI cJ cZ thr (loc + x) 0 wst pk den (zm_fz rch i) pol (zm_fz ask i) xp str rdl rds (zm_fn nn i) off del cam ins low high) → va_S A s.heap H locs → ∀ ls : Array Slot, lv_has ls 4 [(0, .ref o), (3, .int (nI i))] → W p l e ({ frames := 0, cells := 0, slots := 0, locals := 0 } : Room) s m ([.ref o, .long x] : List Value).toArray below meth c H locs 0 0 (MQ below (zq_Q (dC, dI) vcl none (zm_W o ad cI cJ cZ thr loc slw wst pk den rch pol ask xp str rdl rds nn off del cam ins low high) (zm_W o ad cI cJ cZ thr (loc + x) 0 wst pk den (zm_fz rch 5) pol (zm_fz ask 5) xp str rdl rds (zm_fn nn 5) off del cam ins low high) s.heap.size) ([.ref o, .long x] : List Value).toArray s 0 0 A) (F0 m 17 ls []) := by
    intro k9
    induction k9 with
    | zero => intro i H locs hk9; exact absurd hk9 (Nat.not_lt_zero _)
    | succ k9 ih_lp =>
      intro i H locs hk9 hi hP hD hS ls hl
      refine lv_iload_n hx hb dM_step_17 rfl (lv_at hl 1 rfl) ?_
      refine lv_iconst (v := 5) hx hb dM_step_18 (by decide) ?_
      refine zz_ige (tgt := 49) hx hb dM_step_19 (by decide) (fun h1 => ?_) (fun h1 => ?_)
      · have h1n := mt (zz_ltN (a := i) (b := 5) rfl rfl (by omega) (by omega)).mpr h1
        exact zq_vret hx hb hr hlocks dM_step_49 hAe (by rw [show zm_fz rch 5 = zm_fz rch i from by rw [show i = 5 from (by omega)]]; rw [show zm_fz ask 5 = zm_fz ask i from by rw [show i = 5 from (by omega)]]; rw [show zm_fn nn 5 = zm_fn nn i from by rw [show i = 5 from (by omega)]]; exact hP) (by rw [show zm_fz rch 5 = zm_fz rch i from by rw [show i = 5 from (by omega)]]; rw [show zm_fz ask 5 = zm_fz ask i from by rw [show i = 5 from (by omega)]]; rw [show zm_fn nn 5 = zm_fn nn i from by rw [show i = 5 from (by omega)]]; exact hD) hS
      · have h1n := (zz_ltN (a := i) (b := 5) rfl rfl (by omega) (by omega)).mp h1
        refine lv_aload_n hx hb dM_step_22 rfl (lv_at hl 0 rfl) ?_
        refine zz_getM hx hb hT hown hK hP 0 rfl 8 (by decide) tw_625 rfl dM_step_23 ?_
        refine lv_iload_n hx hb dM_step_26 rfl (lv_at hl 1 rfl) ?_
        refine lv_iconst (v := 0) hx hb dM_step_27 (by decide) ?_
        refine zq_zast hx hb hK hP hD hS 5 3 rfl rfl i rfl (by first | omega | decide | assumption) (by decide) rfl dM_step_28 (fun H locs hP hD hS => ?_)
        have hP : va_P (dC, dI) vcl (zm_W o ad cI cJ cZ thr (loc + x) 0 wst pk den (zm_fz rch i) pol (upd (zm_fz ask i) i 0) xp str rdl rds (zm_fn nn i) off del cam ins low high) H := hP
        have hD : va_D A (zm_W o ad cI cJ cZ thr (loc + x) 0 wst pk den (zm_fz rch i) pol (upd (zm_fz ask i) i 0) xp str rdl rds (zm_fn nn i) off del cam ins low high) := hD
        refine lv_aload_n hx hb dM_step_29 rfl (lv_at hl 0 rfl) ?_
        refine zz_getM hx hb hT hown hK hP 0 rfl 13 (by decide) tw_630 rfl dM_step_30 ?_
        refine lv_iload_n hx hb dM_step_33 rfl (lv_at hl 1 rfl) ?_
        refine lv_iconst (v := 0) hx hb dM_step_34 (by decide) ?_
        refine zq_iast hx hb hK hP hD hS 10 1 rfl rfl i rfl (by first | omega | decide | assumption) (by decide) dM_step_35 (fun H locs hP hD hS => ?_)
        have hP : va_P (dC, dI) vcl (zm_W o ad cI cJ cZ thr (loc + x) 0 wst pk den (zm_fz rch i) pol (upd (zm_fz ask i) i 0) xp str rdl rds (va_up (zm_fn nn i) i 0) off del cam ins low high) H := (by have h9 := hP; rw [zm_up0] at h9; exact h9)
        have hD : va_D A (zm_W o ad cI cJ cZ thr (loc + x) 0 wst pk den (zm_fz rch i) pol (upd (zm_fz ask i) i 0) xp str rdl rds (va_up (zm_fn nn i) i 0) off del cam ins low high) := (by have h9 := hD; rw [zm_up0] at h9; exact h9)
        refine lv_aload_n hx hb dM_step_36 rfl (lv_at hl 0 rfl) ?_
        refine zz_getM hx hb hT hown hK hP 0 rfl 6 (by decide) tw_623 rfl dM_step_37 ?_
        refine lv_iload_n hx hb dM_step_40 rfl (lv_at hl 1 rfl) ?_
        refine lv_iconst (v := 0) hx hb dM_step_41 (by decide) ?_
        refine zq_iast hx hb hK hP hD hS 3 1 rfl rfl i rfl (by first | omega | decide | assumption) (by decide) dM_step_42 (fun H locs hP hD hS => ?_)
        have hP : va_P (dC, dI) vcl (zm_W o ad cI cJ cZ thr (loc + x) 0 wst pk den (upd (zm_fz rch i) i 0) pol (upd (zm_fz ask i) i 0) xp str rdl rds (va_up (zm_fn nn i) i 0) off del cam ins low high) H := hP
        have hD : va_D A (zm_W o ad cI cJ cZ thr (loc + x) 0 wst pk den (upd (zm_fz rch i) i 0) pol (upd (zm_fz ask i) i 0) xp str rdl rds (va_up (zm_fn nn i) i 0) off del cam ins low high) := hD
        refine lv_iinc (k := 1) (v := nI (i + 1)) (lv' := [(3, .int (nI (i + 1))), (0, .ref o)]) hx hb dM_step_43 hl rfl (nI_succ _).symm (by decide) rfl (fun ls hl => ?_)
        refine lv_goto (tgt := 17) hx hb dM_step_46 (by decide) ?_
        exact ih_lp (i + 1) _ _ (by omega) (by omega) (by rw [show zm_fz ask (i + 1) = upd (zm_fz ask i) i 0 from rfl]; rw [show zm_fn nn (i + 1) = va_up (zm_fn nn i) i 0 from rfl]; rw [show zm_fz rch (i + 1) = upd (zm_fz rch i) i 0 from rfl]; exact hP) (by rw [show zm_fz ask (i + 1) = upd (zm_fz ask i) i 0 from rfl]; rw [show zm_fn nn (i + 1) = va_up (zm_fn nn i) i 0 from rfl]; rw [show zm_fz rch (i + 1) = upd (zm_fz rch i) i 0 from rfl]; exact hD) hS _ (lv_sub hl [1, 0] rfl)
  exact lp (5 - 0 + 1) 0 _ _ (by omega) (Nat.zero_le _) (by rw [show zm_fz ask 0 = ask from rfl]; rw [show zm_fn nn 0 = nn from rfl]; rw [show zm_fz rch 0 = rch from rfl]; exact hP) (by rw [show zm_fz ask 0 = ask from rfl]; rw [show zm_fn nn 0 = nn from rfl]; rw [show zm_fz rch 0 = rch from rfl]; exact hD) hS _ (by rw [show nI 0 = 0 from rfl]; exact lv_sub hl [1, 0] rfl)
set_option maxHeartbeats 4000000 in
set_option maxRecDepth 100000 in
theorem ct_M_slow (l : Launch) {dC : Nat → ClassId} {dI : Nat → Nat → Nat} {cJ cI cB cZ cS : ClassId} {sz : Nat} {o : Nat} {ad : Nat → Nat} {thr wst : Int32} {loc slw low high : Int64} {pk den rch pol ask str ins : Nat → Int32} {xp rdl rds off del cam : Nat → Int64} {nn : Nat → Nat} {x : Int64} {b : Nat} (hpb : zm_pe ins str (zm_d rdl rds off del cam loc nn) 5 = some b) (hn : ∀ k, nn k ≤ 8) : Met l yM_slow [Cond.code yM_slow cM_slow 5 none] { frames := 5, cells := 0, slots := 0, locals := 118 } (va_Pc [.ref o, .long x] (zq_B (dC, dI) vcl (zz_T cJ cI cB cZ cS) (zm_W o ad cI cJ cZ thr loc slw wst pk den rch pol ask xp str rdl rds nn off del cam ins low high) sz)) (zq_Q (dC, dI) vcl none (zm_W o ad cI cJ cZ thr loc slw wst pk den rch pol ask xp str rdl rds nn off del cam ins low high) (zm_W o ad cI cJ cZ thr loc x wst pk den rch (zm_psl ins pol (zn_abs x) (zm_jit off del cam loc nn b)) ask xp str rdl rds nn off del cam ins low high) sz) 0 0 (va_A (zm_W o ad cI cJ cZ thr loc slw wst pk den rch pol ask xp str rdl rds nn off del cam ins low high) sz) := by
  refine Met.ofW (cc := cM_slow) (maxL := 5) (ret := none) (by decide) rfl ?_
  intro p e s m args below meth c s₁ B hml hv
  obtain ⟨rfl, hsz, hT, hP, hK, hD0⟩ := hv
  subst hsz
  have hx := B.exec
  have hb := B.bytes
  have hr := B.returns
  have hlocks := B.notSynchronized
  have hown : s.vm.findClass RM = some m.cls := findClass_of_methodNamed B.named
  have hD := hD0.self (sz := s.heap.size)
  generalize hAe : va_A (zm_W o ad cI cJ cZ thr loc slw wst pk den rch pol ask xp str rdl rds nn off del cam ins low high) s.heap.size = A at hD ⊢
  have hA : ∀ q : Nat, s.heap.size ≤ q → A q := fun q h => by rw [← hAe]; exact Or.inr h
  have hS : va_S A s.heap s.heap [] := va_S.rf
  have hl := lv_entry ([.ref o, .long x]) (n := 5) (Nat.le_of_ble_eq_true rfl)
  rw [lg_entry_eq]
  generalize (lg_sl ([.ref o, .long x]) ++ List.replicate (5 - (lg_sl ([.ref o, .long x])).length) Slot.unset).toArray = ls at hl ⊢
  have hl : lv_has ls 5 [(0, .ref o), (1, .long x)] := hl
  have hb5 := zm_pe_lt hpb
  refine lv_lload_n hx hb dM_slow_0 rfl (lv_at hl 1 rfl) ?_
  refine zz_call (va_runS (Ts := []) (As := [.long x]) (own := RM) ⟨hx, hb, hml, hown, fun _ h => nomatch h⟩ (ct_M_size l) (zt_cs hT tc_M_size ts_M_size tw_784 ⟨Nat.le_of_ble_eq_true rfl, Nat.le_of_ble_eq_true rfl⟩) (zz_pre0 hT) rfl rfl hl.1 rfl (lv_room (Nat.le_of_ble_eq_true rfl)) dM_slow_1 ⟨Nat.zero_le _, Nat.zero_le _⟩) ?_
  refine lv_ldc2 (own := RM) (v := 4) hx hb hown (hT.w tw_859) dM_slow_4 ?_
  refine lv_aload_n hx hb dM_slow_7 rfl (lv_at hl 0 rfl) ?_
  refine lv_aload_n hx hb dM_slow_8 rfl (lv_at hl 0 rfl) ?_
  refine zz_call (va_runV (Ts := []) (As := []) (own := RM) ⟨hx, hb, hml, hown, fun _ h => nomatch h⟩ (ct_M_peerOf l (fun k _ => hn k)) (zt_cv hT tc_M_peerOf tv_M_peerOf tw_837 ⟨Nat.le_of_ble_eq_true rfl, Nat.le_of_ble_eq_true rfl⟩) (zz_preV (q0 := 0) hT hP hK rfl rfl) rfl rfl hl.1 rfl (lv_room (Nat.le_of_ble_eq_true rfl)) dM_slow_9 ⟨Nat.zero_le _, Nat.zero_le _⟩) ?_
  refine zz_ti (y := nI b) (by rw [hpb]; rfl) ?_
  refine zz_call (va_runV (Ts := []) (As := [.int (nI b)]) (own := RM) ⟨hx, hb, hml, hown, fun _ h => nomatch h⟩ (ct_M_jitterOf l (k := b) (by omega) (hn _)) (zt_cv hT tc_M_jitterOf tv_M_jitterOf tw_780 ⟨Nat.le_of_ble_eq_true rfl, Nat.le_of_ble_eq_true rfl⟩) (zz_preV (q0 := 0) hT hP hK rfl rfl) rfl rfl hl.1 rfl (lv_room (Nat.le_of_ble_eq_true rfl)) dM_slow_12 ⟨Nat.zero_le _, Nat.zero_le _⟩) ?_
  refine lv_lmul hx hb dM_slow_15 ?_
  refine lv_ldc2 (own := RM) (v := 4096) hx hb hown (hT.w tw_736) dM_slow_16 ?_
  refine lv_ladd hx hb dM_slow_19 ?_
  refine zz_lgt (tgt := 28) hx hb dM_slow_20 dM_slow_21 (by decide) (fun h1 => ?_) (fun h1 => ?_)
  · refine lv_iconst (v := 0) hx hb dM_slow_28 (by decide) ?_
    refine lv_istore_n (lv' := [(3, .int 0), (0, .ref o), (1, .long x)]) hx hb dM_slow_29 rfl hl (by decide) rfl (fun ls hl => ?_)
    refine lv_aload_n hx hb dM_slow_30 rfl (lv_at hl 1 rfl) ?_
    refine lv_lload_n hx hb dM_slow_31 rfl (lv_at hl 2 rfl) ?_
    refine zz_putM (ty := .long) hx hb hT hown hK hP hD hS 0 rfl 2 (by decide) tw_619 rfl (by decide +kernel) rfl rfl (Nat.le_of_ble_eq_true rfl) dM_slow_32 (fun H locs hP hD hS => ?_)
    have hP : va_P (dC, dI) vcl (zm_W o ad cI cJ cZ thr loc x wst pk den rch pol ask xp str rdl rds nn off del cam ins low high) H := hP
    have hD : va_D A (zm_W o ad cI cJ cZ thr loc x wst pk den rch pol ask xp str rdl rds nn off del cam ins low high) := hD
    refine lv_iconst (v := 0) hx hb dM_slow_35 (by decide) ?_
    refine lv_istore (lv' := [(4, .int 0), (3, .int 0), (0, .ref o), (1, .long x)]) hx hb dM_slow_36 hl (by decide) rfl (fun ls hl => ?_)
    have lp : ∀ (k9 : Nat) (i : Nat) (H : Heap) (locs : List Loc), 5 - i < k9 → (i ≤ 5) → va_P (dC, dI) vcl (zm_W o ad cI cJ cZ thr loc x wst pk den rch (zm_pn pol i) ask xp str rdl rds nn off del cam ins low high) H → va_D A (zm_W o ad cI cJ cZ thr loc x wst pk den rch (zm_pn pol i) ask xp str rdl rds nn off del cam ins low high) → va_S A s.heap H locs → ∀ ls : Array Slot, lv_has ls 5 [(0, .ref o), (3, .int 0), (4, .int (nI i))] → W p l e ({ frames := 5, cells := 0, slots := 0, locals := 118 } : Room) s m ([.ref o, .long x] : List Value).toArray below meth c H locs 0 0 (MQ below (zq_Q (dC, dI) vcl none (zm_W o ad cI cJ cZ thr loc slw wst pk den rch pol ask xp str rdl rds nn off del cam ins low high) (zm_W o ad cI cJ cZ thr loc x wst pk den rch (zm_psl ins pol (zn_abs x) (zm_jit off del cam loc nn b)) ask xp str rdl rds nn off del cam ins low high) s.heap.size) ([.ref o, .long x] : List Value).toArray s 0 0 A) (F0 m 38 ls []) := by
      intro k9
      induction k9 with
      | zero => intro i H locs hk9; exact absurd hk9 (Nat.not_lt_zero _)
      | succ k9 ih_lp =>
        intro i H locs hk9 hi hP hD hS ls hl
        refine lv_iload hx hb dM_slow_38 (lv_at hl 2 rfl) ?_
        refine lv_iconst (v := 5) hx hb dM_slow_40 (by decide) ?_
        refine zz_ige (tgt := 136) hx hb dM_slow_41 (by decide) (fun h2 => ?_) (fun h2 => ?_)
        · have h2n := mt (zz_ltN (a := i) (b := 5) rfl rfl (by omega) (by omega)).mpr h2
          exact zq_vret hx hb hr hlocks dM_slow_136 hAe (by rw [show zm_psl ins pol (zn_abs x) (zm_jit off del cam loc nn b) = zm_pn pol i from by rw [show i = 5 from (by omega)]; exact if_pos h1]; exact hP) (by rw [show zm_psl ins pol (zn_abs x) (zm_jit off del cam loc nn b) = zm_pn pol i from by rw [show i = 5 from (by omega)]; exact if_pos h1]; exact hD) hS
        · have h2n := (zz_ltN (a := i) (b := 5) rfl rfl (by omega) (by omega)).mp h2
          refine lv_iload_n hx hb dM_slow_44 rfl (lv_at hl 1 rfl) ?_
          refine zz_zeq (tgt := 99) hx hb dM_slow_45 (by decide) (fun _ => ?_) (fun h => absurd h (by decide))
          refine lv_aload_n hx hb dM_slow_99 rfl (lv_at hl 0 rfl) ?_
          refine zz_getM hx hb hT hown hK hP 0 rfl 7 (by decide) tw_624 rfl dM_slow_100 ?_
          refine lv_iload hx hb dM_slow_103 (lv_at hl 2 rfl) ?_
          refine lv_aload_n hx hb dM_slow_105 rfl (lv_at hl 0 rfl) ?_
          refine zz_getM hx hb hT hown hK hP 0 rfl 7 (by decide) tw_624 rfl dM_slow_106 ?_
          refine lv_iload hx hb dM_slow_109 (lv_at hl 2 rfl) ?_
          refine zz_iald hx hb hK hP 4 1 rfl rfl i rfl (by first | omega | decide | assumption) (by decide) dM_slow_111 ?_
          refine lv_iconst (v := 4) hx hb dM_slow_112 (by decide) ?_
          refine zz_ile (tgt := 128) hx hb dM_slow_113 (by decide) (fun h3 => ?_) (fun h3 => ?_)
          · refine lv_iconst (v := 4) hx hb dM_slow_128 (by decide) ?_
            refine zq_iast hx hb hK hP hD hS 4 1 rfl rfl i rfl (by first | omega | decide | assumption) (by decide) dM_slow_129 (fun H locs hP hD hS => ?_)
            have hP : va_P (dC, dI) vcl (zm_W o ad cI cJ cZ thr loc x wst pk den rch (upd (zm_pn pol i) i 4) ask xp str rdl rds nn off del cam ins low high) H := hP
            have hD : va_D A (zm_W o ad cI cJ cZ thr loc x wst pk den rch (upd (zm_pn pol i) i 4) ask xp str rdl rds nn off del cam ins low high) := hD
            refine lv_iinc (k := 2) (v := nI (i + 1)) (lv' := [(4, .int (nI (i + 1))), (0, .ref o), (3, .int 0)]) hx hb dM_slow_130 hl rfl (nI_succ _).symm (by decide) rfl (fun ls hl => ?_)
            refine lv_goto (tgt := 38) hx hb dM_slow_133 (by decide) ?_
            exact ih_lp (i + 1) _ _ (by omega) (by omega) (by rw [show zm_pn pol (i + 1) = upd (zm_pn pol i) i 4 from congrArg (upd (zm_pn pol i) i) (if_neg h3)]; exact hP) (by rw [show zm_pn pol (i + 1) = upd (zm_pn pol i) i 4 from congrArg (upd (zm_pn pol i) i) (if_neg h3)]; exact hD) hS _ (lv_sub hl [1, 2, 0] rfl)
          · refine lv_aload_n hx hb dM_slow_116 rfl (lv_at hl 0 rfl) ?_
            refine zz_getM hx hb hT hown hK hP 0 rfl 7 (by decide) tw_624 rfl dM_slow_117 ?_
            refine lv_iload hx hb dM_slow_120 (lv_at hl 2 rfl) ?_
            refine zz_iald hx hb hK hP 4 1 rfl rfl i rfl (by first | omega | decide | assumption) (by decide) dM_slow_122 ?_
            refine lv_iconst (v := 1) hx hb dM_slow_123 (by decide) ?_
            refine lv_isub hx hb dM_slow_124 ?_
            refine lv_goto (tgt := 129) hx hb dM_slow_125 (by decide) ?_
            refine zq_iast hx hb hK hP hD hS 4 1 rfl rfl i rfl (by first | omega | decide | assumption) (by decide) dM_slow_129 (fun H locs hP hD hS => ?_)
            have hP : va_P (dC, dI) vcl (zm_W o ad cI cJ cZ thr loc x wst pk den rch (upd (zm_pn pol i) i (((zm_pn pol i) i) - 1)) ask xp str rdl rds nn off del cam ins low high) H := hP
            have hD : va_D A (zm_W o ad cI cJ cZ thr loc x wst pk den rch (upd (zm_pn pol i) i (((zm_pn pol i) i) - 1)) ask xp str rdl rds nn off del cam ins low high) := hD
            refine lv_iinc (k := 2) (v := nI (i + 1)) (lv' := [(4, .int (nI (i + 1))), (0, .ref o), (3, .int 0)]) hx hb dM_slow_130 hl rfl (nI_succ _).symm (by decide) rfl (fun ls hl => ?_)
            refine lv_goto (tgt := 38) hx hb dM_slow_133 (by decide) ?_
            exact ih_lp (i + 1) _ _ (by omega) (by omega) (by rw [show zm_pn pol (i + 1) = upd (zm_pn pol i) i (((zm_pn pol i) i) - 1) from congrArg (upd (zm_pn pol i) i) (if_pos h3)]; exact hP) (by rw [show zm_pn pol (i + 1) = upd (zm_pn pol i) i (((zm_pn pol i) i) - 1) from congrArg (upd (zm_pn pol i) i) (if_pos h3)]; exact hD) hS _ (lv_sub hl [1, 2, 0] rfl)
    exact lp (5 - 0 + 1) 0 _ _ (by omega) (Nat.zero_le _) (by rw [show zm_pn pol 0 = pol from rfl]; exact hP) (by rw [show zm_pn pol 0 = pol from rfl]; exact hD) hS _ (by rw [show nI 0 = 0 from rfl]; exact lv_sub hl [2, 1, 0] rfl)
  · refine lv_iconst (v := 1) hx hb dM_slow_24 (by decide) ?_
    refine lv_goto (tgt := 29) hx hb dM_slow_25 (by decide) ?_
    refine lv_istore_n (lv' := [(3, .int 1), (0, .ref o), (1, .long x)]) hx hb dM_slow_29 rfl hl (by decide) rfl (fun ls hl => ?_)
    refine lv_aload_n hx hb dM_slow_30 rfl (lv_at hl 1 rfl) ?_
    refine lv_lload_n hx hb dM_slow_31 rfl (lv_at hl 2 rfl) ?_
    refine zz_putM (ty := .long) hx hb hT hown hK hP hD hS 0 rfl 2 (by decide) tw_619 rfl (by decide +kernel) rfl rfl (Nat.le_of_ble_eq_true rfl) dM_slow_32 (fun H locs hP hD hS => ?_)
    have hP : va_P (dC, dI) vcl (zm_W o ad cI cJ cZ thr loc x wst pk den rch pol ask xp str rdl rds nn off del cam ins low high) H := hP
    have hD : va_D A (zm_W o ad cI cJ cZ thr loc x wst pk den rch pol ask xp str rdl rds nn off del cam ins low high) := hD
    refine lv_iconst (v := 0) hx hb dM_slow_35 (by decide) ?_
    refine lv_istore (lv' := [(4, .int 0), (3, .int 1), (0, .ref o), (1, .long x)]) hx hb dM_slow_36 hl (by decide) rfl (fun ls hl => ?_)
    have lp : ∀ (k9 : Nat) (i : Nat) (H : Heap) (locs : List Loc), 5 - i < k9 → (i ≤ 5) → va_P (dC, dI) vcl (zm_W o ad cI cJ cZ thr loc x wst pk den rch (zm_pc ins pol i) ask xp str rdl rds nn off del cam ins low high) H → va_D A (zm_W o ad cI cJ cZ thr loc x wst pk den rch (zm_pc ins pol i) ask xp str rdl rds nn off del cam ins low high) → va_S A s.heap H locs → ∀ ls : Array Slot, lv_has ls 5 [(0, .ref o), (3, .int 1), (4, .int (nI i))] → W p l e ({ frames := 5, cells := 0, slots := 0, locals := 118 } : Room) s m ([.ref o, .long x] : List Value).toArray below meth c H locs 0 0 (MQ below (zq_Q (dC, dI) vcl none (zm_W o ad cI cJ cZ thr loc slw wst pk den rch pol ask xp str rdl rds nn off del cam ins low high) (zm_W o ad cI cJ cZ thr loc x wst pk den rch (zm_psl ins pol (zn_abs x) (zm_jit off del cam loc nn b)) ask xp str rdl rds nn off del cam ins low high) s.heap.size) ([.ref o, .long x] : List Value).toArray s 0 0 A) (F0 m 38 ls []) := by
      intro k9
      induction k9 with
      | zero => intro i H locs hk9; exact absurd hk9 (Nat.not_lt_zero _)
      | succ k9 ih_lp =>
        intro i H locs hk9 hi hP hD hS ls hl
        refine lv_iload hx hb dM_slow_38 (lv_at hl 2 rfl) ?_
        refine lv_iconst (v := 5) hx hb dM_slow_40 (by decide) ?_
        refine zz_ige (tgt := 136) hx hb dM_slow_41 (by decide) (fun h4 => ?_) (fun h4 => ?_)
        · have h4n := mt (zz_ltN (a := i) (b := 5) rfl rfl (by omega) (by omega)).mpr h4
          exact zq_vret hx hb hr hlocks dM_slow_136 hAe (by rw [show zm_psl ins pol (zn_abs x) (zm_jit off del cam loc nn b) = zm_pc ins pol i from by rw [show i = 5 from (by omega)]; exact if_neg h1]; exact hP) (by rw [show zm_psl ins pol (zn_abs x) (zm_jit off del cam loc nn b) = zm_pc ins pol i from by rw [show i = 5 from (by omega)]; exact if_neg h1]; exact hD) hS
        · have h4n := (zz_ltN (a := i) (b := 5) rfl rfl (by omega) (by omega)).mp h4
          refine lv_iload_n hx hb dM_slow_44 rfl (lv_at hl 1 rfl) ?_
          refine zz_zeq (tgt := 99) hx hb dM_slow_45 (by decide) (fun h => absurd h (by decide)) (fun _ => ?_)
          refine lv_aload_n hx hb dM_slow_48 rfl (lv_at hl 0 rfl) ?_
          refine zz_getM hx hb hT hown hK hP 0 rfl 7 (by decide) tw_624 rfl dM_slow_49 ?_
          refine lv_iload hx hb dM_slow_52 (lv_at hl 2 rfl) ?_
          refine lv_aload_n hx hb dM_slow_54 rfl (lv_at hl 0 rfl) ?_
          refine zz_getM hx hb hT hown hK hP 0 rfl 17 (by decide) tw_634 rfl dM_slow_55 ?_
          refine lv_iload hx hb dM_slow_58 (lv_at hl 2 rfl) ?_
          refine zz_zald hx hb hK hP 14 3 rfl rfl i rfl (by first | omega | decide | assumption) (by decide) dM_slow_60 ?_
          refine zz_zeq (tgt := 88) hx hb dM_slow_61 (by decide) (fun h5 => ?_) (fun h5 => ?_)
          · refine lv_aload_n hx hb dM_slow_88 rfl (lv_at hl 0 rfl) ?_
            refine zz_getM hx hb hT hown hK hP 0 rfl 7 (by decide) tw_624 rfl dM_slow_89 ?_
            refine lv_iload hx hb dM_slow_92 (lv_at hl 2 rfl) ?_
            refine zz_iald hx hb hK hP 4 1 rfl rfl i rfl (by first | omega | decide | assumption) (by decide) dM_slow_94 ?_
            refine zq_iast hx hb hK hP hD hS 4 1 rfl rfl i rfl (by first | omega | decide | assumption) (by decide) dM_slow_95 (fun H locs hP hD hS => ?_)
            have hP : va_P (dC, dI) vcl (zm_W o ad cI cJ cZ thr loc x wst pk den rch (upd (zm_pc ins pol i) i ((zm_pc ins pol i) i)) ask xp str rdl rds nn off del cam ins low high) H := hP
            have hD : va_D A (zm_W o ad cI cJ cZ thr loc x wst pk den rch (upd (zm_pc ins pol i) i ((zm_pc ins pol i) i)) ask xp str rdl rds nn off del cam ins low high) := hD
            refine lv_goto (tgt := 130) hx hb dM_slow_96 (by decide) ?_
            refine lv_iinc (k := 2) (v := nI (i + 1)) (lv' := [(4, .int (nI (i + 1))), (0, .ref o), (3, .int 1)]) hx hb dM_slow_130 hl rfl (nI_succ _).symm (by decide) rfl (fun ls hl => ?_)
            refine lv_goto (tgt := 38) hx hb dM_slow_133 (by decide) ?_
            exact ih_lp (i + 1) _ _ (by omega) (by omega) (by rw [show zm_pc ins pol (i + 1) = upd (zm_pc ins pol i) i ((zm_pc ins pol i) i) from congrArg (upd (zm_pc ins pol i) i) (if_neg (fun q => q.1 h5))]; exact hP) (by rw [show zm_pc ins pol (i + 1) = upd (zm_pc ins pol i) i ((zm_pc ins pol i) i) from congrArg (upd (zm_pc ins pol i) i) (if_neg (fun q => q.1 h5))]; exact hD) hS _ (lv_sub hl [1, 2, 0] rfl)
          · refine lv_aload_n hx hb dM_slow_64 rfl (lv_at hl 0 rfl) ?_
            refine zz_getM hx hb hT hown hK hP 0 rfl 7 (by decide) tw_624 rfl dM_slow_65 ?_
            refine lv_iload hx hb dM_slow_68 (lv_at hl 2 rfl) ?_
            refine zz_iald hx hb hK hP 4 1 rfl rfl i rfl (by first | omega | decide | assumption) (by decide) dM_slow_70 ?_
            refine lv_bipush (v := 10) hx hb dM_slow_71 (by decide) ?_
            refine zz_ige (tgt := 88) hx hb dM_slow_73 (by decide) (fun h6 => ?_) (fun h6 => ?_)
            · refine lv_aload_n hx hb dM_slow_88 rfl (lv_at hl 0 rfl) ?_
              refine zz_getM hx hb hT hown hK hP 0 rfl 7 (by decide) tw_624 rfl dM_slow_89 ?_
              refine lv_iload hx hb dM_slow_92 (lv_at hl 2 rfl) ?_
              refine zz_iald hx hb hK hP 4 1 rfl rfl i rfl (by first | omega | decide | assumption) (by decide) dM_slow_94 ?_
              refine zq_iast hx hb hK hP hD hS 4 1 rfl rfl i rfl (by first | omega | decide | assumption) (by decide) dM_slow_95 (fun H locs hP hD hS => ?_)
              have hP : va_P (dC, dI) vcl (zm_W o ad cI cJ cZ thr loc x wst pk den rch (upd (zm_pc ins pol i) i ((zm_pc ins pol i) i)) ask xp str rdl rds nn off del cam ins low high) H := hP
              have hD : va_D A (zm_W o ad cI cJ cZ thr loc x wst pk den rch (upd (zm_pc ins pol i) i ((zm_pc ins pol i) i)) ask xp str rdl rds nn off del cam ins low high) := hD
              refine lv_goto (tgt := 130) hx hb dM_slow_96 (by decide) ?_
              refine lv_iinc (k := 2) (v := nI (i + 1)) (lv' := [(4, .int (nI (i + 1))), (0, .ref o), (3, .int 1)]) hx hb dM_slow_130 hl rfl (nI_succ _).symm (by decide) rfl (fun ls hl => ?_)
              refine lv_goto (tgt := 38) hx hb dM_slow_133 (by decide) ?_
              exact ih_lp (i + 1) _ _ (by omega) (by omega) (by rw [show zm_pc ins pol (i + 1) = upd (zm_pc ins pol i) i ((zm_pc ins pol i) i) from congrArg (upd (zm_pc ins pol i) i) (if_neg (fun q => h6 q.2))]; exact hP) (by rw [show zm_pc ins pol (i + 1) = upd (zm_pc ins pol i) i ((zm_pc ins pol i) i) from congrArg (upd (zm_pc ins pol i) i) (if_neg (fun q => h6 q.2))]; exact hD) hS _ (lv_sub hl [1, 2, 0] rfl)
            · refine lv_aload_n hx hb dM_slow_76 rfl (lv_at hl 0 rfl) ?_
              refine zz_getM hx hb hT hown hK hP 0 rfl 7 (by decide) tw_624 rfl dM_slow_77 ?_
              refine lv_iload hx hb dM_slow_80 (lv_at hl 2 rfl) ?_
              refine zz_iald hx hb hK hP 4 1 rfl rfl i rfl (by first | omega | decide | assumption) (by decide) dM_slow_82 ?_
              refine lv_iconst (v := 1) hx hb dM_slow_83 (by decide) ?_
              refine lv_iadd hx hb dM_slow_84 ?_
              refine lv_goto (tgt := 95) hx hb dM_slow_85 (by decide) ?_
              refine zq_iast hx hb hK hP hD hS 4 1 rfl rfl i rfl (by first | omega | decide | assumption) (by decide) dM_slow_95 (fun H locs hP hD hS => ?_)
              have hP : va_P (dC, dI) vcl (zm_W o ad cI cJ cZ thr loc x wst pk den rch (upd (zm_pc ins pol i) i (((zm_pc ins pol i) i) + 1)) ask xp str rdl rds nn off del cam ins low high) H := hP
              have hD : va_D A (zm_W o ad cI cJ cZ thr loc x wst pk den rch (upd (zm_pc ins pol i) i (((zm_pc ins pol i) i) + 1)) ask xp str rdl rds nn off del cam ins low high) := hD
              refine lv_goto (tgt := 130) hx hb dM_slow_96 (by decide) ?_
              refine lv_iinc (k := 2) (v := nI (i + 1)) (lv' := [(4, .int (nI (i + 1))), (0, .ref o), (3, .int 1)]) hx hb dM_slow_130 hl rfl (nI_succ _).symm (by decide) rfl (fun ls hl => ?_)
              refine lv_goto (tgt := 38) hx hb dM_slow_133 (by decide) ?_
              exact ih_lp (i + 1) _ _ (by omega) (by omega) (by rw [show zm_pc ins pol (i + 1) = upd (zm_pc ins pol i) i (((zm_pc ins pol i) i) + 1) from congrArg (upd (zm_pc ins pol i) i) (if_pos ⟨h5, h6⟩)]; exact hP) (by rw [show zm_pc ins pol (i + 1) = upd (zm_pc ins pol i) i (((zm_pc ins pol i) i) + 1) from congrArg (upd (zm_pc ins pol i) i) (if_pos ⟨h5, h6⟩)]; exact hD) hS _ (lv_sub hl [1, 2, 0] rfl)
    exact lp (5 - 0 + 1) 0 _ _ (by omega) (Nat.zero_le _) (by rw [show zm_pc ins pol 0 = pol from rfl]; exact hP) (by rw [show zm_pc ins pol 0 = pol from rfl]; exact hD) hS _ (by rw [show nI 0 = 0 from rfl]; exact lv_sub hl [2, 1, 0] rfl)
