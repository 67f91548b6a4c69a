/-! 25.vsurv -/
set_option maxHeartbeats 4000000 in
set_option maxRecDepth 100000 in
theorem ct_V_findSurvivors (l : Launch) {dC : Nat → ClassId} {dI : Nat → Nat → Nat} {cJ cI cB cZ cS : ClassId} {sz : Nat} {v a b : Nat} {cand surv : Int32} {low high : Int64} {vo vd : Nat → Int64} : Met l yV_findSurvivors [Cond.code yV_findSurvivors cV_findSurvivors 2 none] { frames := 3, cells := 0, slots := 0, locals := 69 } (va_Pc [.ref v] (zq_B (dC, dI) vcl (zz_T cJ cI cB cZ cS) (zv_W v a b cJ cand low high surv vo vd) sz)) (zq_Q (dC, dI) vcl none (zv_W v a b cJ cand low high surv vo vd) (zv_W v a b cJ cand low high (zv_fin cand low high vo) vo vd) sz) 0 0 (va_A (zv_W v a b cJ cand low high surv vo vd) sz) := by
  refine Met.ofW (cc := cV_findSurvivors) (maxL := 2) (ret := none) (by decide) rfl ?_
  intro p e s m args below meth c s₁ B hml hv
  obtain ⟨rfl, hsz, hT, hP, hK, hD0⟩ := hv
  subst hsz
  have hx := B.exec
  have hb := B.bytes
  have hr := B.returns
  have hlocks := B.notSynchronized
  have hown : s.vm.findClass RV = some m.cls := findClass_of_methodNamed B.named
  have hD := hD0.self (sz := s.heap.size)
  generalize hAe : va_A (zv_W v a b cJ cand low high surv vo vd) s.heap.size = A at hD ⊢
  have hA : ∀ q : Nat, s.heap.size ≤ q → A q := fun q h => by rw [← hAe]; exact Or.inr h
  have hS : va_S A s.heap s.heap [] := va_S.rf
  have hl := lv_entry ([.ref v]) (n := 2) (Nat.le_of_ble_eq_true rfl)
  rw [lg_entry_eq]
  generalize (lg_sl ([.ref v]) ++ List.replicate (2 - (lg_sl ([.ref v])).length) Slot.unset).toArray = ls at hl ⊢
  have hl : lv_has ls 2 [(0, .ref v)] := hl
  refine lv_aload_n hx hb dV_findSurvivors_0 rfl (lv_at hl 0 rfl) ?_
  refine lv_iconst (v := 0) hx hb dV_findSurvivors_1 (by decide) ?_
  refine zz_putV (ty := .int) hx hb hT hown hK hP hD hS 0 rfl 3 (by decide) tw_104 rfl (by decide +kernel) rfl rfl (Nat.le_of_ble_eq_true rfl) dV_findSurvivors_2 (fun H locs hP hD hS => ?_)
  have hP : va_P (dC, dI) vcl (zv_W v a b cJ cand low high 0 vo vd) H := hP
  have hD : va_D A (zv_W v a b cJ cand low high 0 vo vd) := hD
  refine lv_iconst (v := 0) hx hb dV_findSurvivors_5 (by decide) ?_
  refine lv_istore_n (lv' := [(1, .int 0), (0, .ref v)]) hx hb dV_findSurvivors_6 rfl hl (by decide) rfl (fun ls hl => ?_)
  have lp : ∀ (k9 : Nat) (i : Nat) (H : Heap) (locs : List Loc), 5 - i < k9 → (i ≤ 5) → va_P (dC, dI) vcl (zv_W v a b cJ cand low high (zv_sv cand low high vo i) vo vd) H → va_D A (zv_W v a b cJ cand low high (zv_sv cand low high vo i) vo vd) → va_S A s.heap H locs → ∀ ls : Array Slot, lv_has ls 2 [(0, .ref v), (1, .int (nI i))] → W p l e ({ frames := 3, cells := 0, slots := 0, locals := 69 } : Room) s m ([.ref v] : List Value).toArray below meth c H locs 0 0 (MQ below (zq_Q (dC, dI) vcl none (zv_W v a b cJ cand low high surv vo vd) (zv_W v a b cJ cand low high (zv_fin cand low high vo) vo vd) s.heap.size) ([.ref v] : List Value).toArray s 0 0 A) (F0 m 7 ls []) := by
    intro k9
    induction k9 with
    | zero => intro i H locs hk9; exact absurd hk9 (Nat.not_lt_zero _)
    | succ k9 ih_lp =>
      intro i H locs hk9 hi hP hD hS ls hl
      refine lv_iload_n hx hb dV_findSurvivors_7 rfl (lv_at hl 1 rfl) ?_
      refine lv_iconst (v := 5) hx hb dV_findSurvivors_8 (by decide) ?_
      refine zz_ige (tgt := 69) hx hb dV_findSurvivors_9 (by decide) (fun h1 => ?_) (fun h1 => ?_)
      · have h1n := mt (zz_ltN (a := i) (b := 5) rfl rfl (by omega) (by omega)).mpr h1
        have e9 : i = 5 := by omega
        subst e9
        refine lv_aload_n hx hb dV_findSurvivors_69 rfl (lv_at hl 0 rfl) ?_
        refine zz_getV hx hb hT hown hK hP 0 rfl 3 (by decide) tw_104 rfl dV_findSurvivors_70 ?_
        refine zz_call (va_runS (Ts := []) (As := [.int (zv_sv cand low high vo 5)]) (own := RV) ⟨hx, hb, hml, hown, fun _ h => nomatch h⟩ (ct_I_bitCount l) (zt_cs hT tc_I_bitCount ts_I_bitCount tw_204 ⟨Nat.le_of_ble_eq_true rfl, Nat.le_of_ble_eq_true rfl⟩) (zz_pre0 hT) rfl rfl hl.1 rfl (lv_room (Nat.le_of_ble_eq_true rfl)) dV_findSurvivors_73 ⟨Nat.zero_le _, Nat.zero_le _⟩) ?_
        refine zz_ti (y := nI (zv_bn (zv_sv cand low high vo 5))) ((zv_bc_nat _).1) ?_
        refine lv_istore_n (lv' := [(1, .int (nI (zv_bn (zv_sv cand low high vo 5)))), (0, .ref v)]) hx hb dV_findSurvivors_76 rfl hl (by decide) rfl (fun ls hl => ?_)
        have lq : ∀ (k9 : Nat) (k : Nat) (x : Int32) (H : Heap) (locs : List Loc), k < k9 → (k < 64) → (zv_rm vo (k - 3) x = zv_fin cand low high vo) → va_P (dC, dI) vcl (zv_W v a b cJ cand low high x vo vd) H → va_D A (zv_W v a b cJ cand low high x vo vd) → va_S A s.heap H locs → ∀ ls : Array Slot, lv_has ls 2 [(0, .ref v), (1, .int (nI k))] → W p l e ({ frames := 3, cells := 0, slots := 0, locals := 69 } : Room) s m ([.ref v] : List Value).toArray below meth c H locs 0 0 (MQ below (zq_Q (dC, dI) vcl none (zv_W v a b cJ cand low high surv vo vd) (zv_W v a b cJ cand low high (zv_fin cand low high vo) vo vd) s.heap.size) ([.ref v] : List Value).toArray s 0 0 A) (F0 m 77 ls []) := by
          intro k9
          induction k9 with
          | zero => intro k x H locs hk9; exact absurd hk9 (Nat.not_lt_zero _)
          | succ k9 ih_lq =>
            intro k x H locs hk9 hk64 hfin hP hD hS ls hl
            refine lv_iload_n hx hb dV_findSurvivors_77 rfl (lv_at hl 1 rfl) ?_
            refine lv_iconst (v := 3) hx hb dV_findSurvivors_78 (by decide) ?_
            refine zz_ile (tgt := 105) hx hb dV_findSurvivors_79 (by decide) (fun h2 => ?_) (fun h2 => ?_)
            · have h2n := mt (zz_ltN (a := 3) (b := k) rfl rfl (by omega) (by omega)).mpr h2
              exact zq_vret hx hb hr hlocks dV_findSurvivors_105 hAe (by rw [show zv_fin cand low high vo = x from by rw [show k - 3 = 0 from (by omega)] at hfin; exact hfin.symm]; exact hP) (by rw [show zv_fin cand low high vo = x from by rw [show k - 3 = 0 from (by omega)] at hfin; exact hfin.symm]; exact hD) hS
            · have h2n := (zz_ltN (a := 3) (b := k) rfl rfl (by omega) (by omega)).mp h2
              refine lv_aload_n hx hb dV_findSurvivors_82 rfl (lv_at hl 0 rfl) ?_
              refine lv_dup hx hb dV_findSurvivors_83 rfl ?_
              refine zz_getV hx hb hT hown hK hP 0 rfl 3 (by decide) tw_104 rfl dV_findSurvivors_84 ?_
              refine lv_iconst (v := 1) hx hb dV_findSurvivors_87 (by decide) ?_
              refine lv_aload_n hx hb dV_findSurvivors_88 rfl (lv_at hl 0 rfl) ?_
              refine zz_call (va_runV (Ts := []) (As := []) (own := RV) ⟨hx, hb, hml, hown, fun _ h => nomatch h⟩ (ct_V_findFarthest l) (zt_cv hT tc_V_findFarthest tv_V_findFarthest tw_218 ⟨Nat.le_of_ble_eq_true rfl, Nat.le_of_ble_eq_true rfl⟩) (zz_preV (q0 := 0) hT hP hK rfl rfl) rfl rfl hl.1 rfl (lv_room (Nat.le_of_ble_eq_true rfl)) dV_findSurvivors_89 ⟨Nat.zero_le _, Nat.zero_le _⟩) ?_
              refine lv_ishl hx hb dV_findSurvivors_92 ?_
              refine lv_iconst (v := (-1)) hx hb dV_findSurvivors_93 (by decide) ?_
              refine lv_ixor hx hb dV_findSurvivors_94 ?_
              refine lv_iand hx hb dV_findSurvivors_95 ?_
              refine zz_putV (ty := .int) hx hb hT hown hK hP hD hS 0 rfl 3 (by decide) tw_104 rfl (by decide +kernel) rfl rfl (Nat.le_of_ble_eq_true rfl) dV_findSurvivors_96 (fun H locs hP hD hS => ?_)
              have hP : va_P (dC, dI) vcl (zv_W v a b cJ cand low high (x &&& ((1 <<< ((nI (zv_ff x vo 5).1) &&& 31)) ^^^ (-1))) vo vd) H := hP
              have hD : va_D A (zv_W v a b cJ cand low high (x &&& ((1 <<< ((nI (zv_ff x vo 5).1) &&& 31)) ^^^ (-1))) vo vd) := hD
              refine lv_iinc (k := 1) (v := (nI k) + (-1)) (lv' := [(1, .int ((nI k) + (-1))), (0, .ref v)]) hx hb dV_findSurvivors_99 hl rfl rfl (by decide) rfl (fun ls hl => ?_)
              refine lv_goto (tgt := 77) hx hb dV_findSurvivors_102 (by decide) ?_
              exact ih_lq (k - 1) (zv_st1 vo x) _ _ (by omega) (by omega) (by rw [← hfin, show k - 3 = (k - 1 - 3) + 1 from (by omega)]; rfl) (by rw [show zv_st1 vo x = x &&& ((1 <<< ((nI (zv_ff x vo 5).1) &&& 31)) ^^^ (-1)) from rfl]; exact hP) (by rw [show zv_st1 vo x = x &&& ((1 <<< ((nI (zv_ff x vo 5).1) &&& 31)) ^^^ (-1)) from rfl]; exact hD) hS _ (by rw [show nI (k - 1) = (nI k) + (-1) from (sb_m1 (by omega)).symm]; exact lv_sub hl [1, 0] rfl)
        exact lq (zv_bn (zv_sv cand low high vo 5) + 1) (zv_bn (zv_sv cand low high vo 5)) (zv_sv cand low high vo 5) _ _ (by omega) (zv_bc_nat _).2 rfl hP hD hS _ (lv_sub hl [1, 0] rfl)
      · have h1n := (zz_ltN (a := i) (b := 5) rfl rfl (by omega) (by omega)).mp h1
        refine lv_aload_n hx hb dV_findSurvivors_12 rfl (lv_at hl 0 rfl) ?_
        refine zz_getV hx hb hT hown hK hP 0 rfl 0 (by decide) tw_98 rfl dV_findSurvivors_13 ?_
        refine lv_iload_n hx hb dV_findSurvivors_16 rfl (lv_at hl 1 rfl) ?_
        refine zz_call (va_runS (Ts := []) (As := [.int cand, .int (nI i)]) (own := RV) ⟨hx, hb, hml, hown, fun _ h => nomatch h⟩ (ct_V_has l) (zt_cs hT tc_V_has ts_V_has tw_196 ⟨Nat.le_of_ble_eq_true rfl, Nat.le_of_ble_eq_true rfl⟩) (zz_pre0 hT) rfl rfl hl.1 rfl (lv_room (Nat.le_of_ble_eq_true rfl)) dV_findSurvivors_17 ⟨Nat.zero_le _, Nat.zero_le _⟩) ?_
        refine zz_zeq (tgt := 63) hx hb dV_findSurvivors_20 (by decide) (fun h3 => ?_) (fun h3 => ?_)
        · refine lv_iinc (k := 1) (v := nI (i + 1)) (lv' := [(1, .int (nI (i + 1))), (0, .ref v)]) hx hb dV_findSurvivors_63 hl rfl (nI_succ _).symm (by decide) rfl (fun ls hl => ?_)
          refine lv_goto (tgt := 7) hx hb dV_findSurvivors_66 (by decide) ?_
          exact ih_lp (i + 1) _ _ (by omega) (by omega) (by rw [show zv_sv cand low high vo (i + 1) = zv_sv cand low high vo i from if_neg (fun q => q.1 h3)]; exact hP) (by rw [show zv_sv cand low high vo (i + 1) = zv_sv cand low high vo i from if_neg (fun q => q.1 h3)]; exact hD) hS _ (lv_sub hl [1, 0] rfl)
        · refine lv_aload_n hx hb dV_findSurvivors_23 rfl (lv_at hl 0 rfl) ?_
          refine zz_getV hx hb hT hown hK hP 0 rfl 4 (by decide) tw_106 rfl dV_findSurvivors_24 ?_
          refine lv_iload_n hx hb dV_findSurvivors_27 rfl (lv_at hl 1 rfl) ?_
          refine zz_lald hx hb hK hP 1 0 rfl rfl i rfl (by first | omega | decide | assumption) (by decide) dV_findSurvivors_28 ?_
          refine lv_aload_n hx hb dV_findSurvivors_29 rfl (lv_at hl 0 rfl) ?_
          refine zz_getV hx hb hT hown hK hP 0 rfl 1 (by decide) tw_100 rfl dV_findSurvivors_30 ?_
          refine zz_llt (tgt := 63) hx hb dV_findSurvivors_33 dV_findSurvivors_34 (by decide) (fun h4 => ?_) (fun h4 => ?_)
          · refine lv_iinc (k := 1) (v := nI (i + 1)) (lv' := [(1, .int (nI (i + 1))), (0, .ref v)]) hx hb dV_findSurvivors_63 hl rfl (nI_succ _).symm (by decide) rfl (fun ls hl => ?_)
            refine lv_goto (tgt := 7) hx hb dV_findSurvivors_66 (by decide) ?_
            exact ih_lp (i + 1) _ _ (by omega) (by omega) (by rw [show zv_sv cand low high vo (i + 1) = zv_sv cand low high vo i from if_neg (fun q => q.2.1 h4)]; exact hP) (by rw [show zv_sv cand low high vo (i + 1) = zv_sv cand low high vo i from if_neg (fun q => q.2.1 h4)]; exact hD) hS _ (lv_sub hl [1, 0] rfl)
          · refine lv_aload_n hx hb dV_findSurvivors_37 rfl (lv_at hl 0 rfl) ?_
            refine zz_getV hx hb hT hown hK hP 0 rfl 4 (by decide) tw_106 rfl dV_findSurvivors_38 ?_
            refine lv_iload_n hx hb dV_findSurvivors_41 rfl (lv_at hl 1 rfl) ?_
            refine zz_lald hx hb hK hP 1 0 rfl rfl i rfl (by first | omega | decide | assumption) (by decide) dV_findSurvivors_42 ?_
            refine lv_aload_n hx hb dV_findSurvivors_43 rfl (lv_at hl 0 rfl) ?_
            refine zz_getV hx hb hT hown hK hP 0 rfl 2 (by decide) tw_102 rfl dV_findSurvivors_44 ?_
            refine zz_lgt (tgt := 63) hx hb dV_findSurvivors_47 dV_findSurvivors_48 (by decide) (fun h5 => ?_) (fun h5 => ?_)
            · refine lv_iinc (k := 1) (v := nI (i + 1)) (lv' := [(1, .int (nI (i + 1))), (0, .ref v)]) hx hb dV_findSurvivors_63 hl rfl (nI_succ _).symm (by decide) rfl (fun ls hl => ?_)
              refine lv_goto (tgt := 7) hx hb dV_findSurvivors_66 (by decide) ?_
              exact ih_lp (i + 1) _ _ (by omega) (by omega) (by rw [show zv_sv cand low high vo (i + 1) = zv_sv cand low high vo i from if_neg (fun q => q.2.2 h5)]; exact hP) (by rw [show zv_sv cand low high vo (i + 1) = zv_sv cand low high vo i from if_neg (fun q => q.2.2 h5)]; exact hD) hS _ (lv_sub hl [1, 0] rfl)
            · refine lv_aload_n hx hb dV_findSurvivors_51 rfl (lv_at hl 0 rfl) ?_
              refine lv_dup hx hb dV_findSurvivors_52 rfl ?_
              refine zz_getV hx hb hT hown hK hP 0 rfl 3 (by decide) tw_104 rfl dV_findSurvivors_53 ?_
              refine lv_iconst (v := 1) hx hb dV_findSurvivors_56 (by decide) ?_
              refine lv_iload_n hx hb dV_findSurvivors_57 rfl (lv_at hl 1 rfl) ?_
              refine lv_ishl hx hb dV_findSurvivors_58 ?_
              refine lv_ior hx hb dV_findSurvivors_59 ?_
              refine zz_putV (ty := .int) hx hb hT hown hK hP hD hS 0 rfl 3 (by decide) tw_104 rfl (by decide +kernel) rfl rfl (Nat.le_of_ble_eq_true rfl) dV_findSurvivors_60 (fun H locs hP hD hS => ?_)
              have hP : va_P (dC, dI) vcl (zv_W v a b cJ cand low high ((zv_sv cand low high vo i) ||| (1 <<< ((nI i) &&& 31))) vo vd) H := hP
              have hD : va_D A (zv_W v a b cJ cand low high ((zv_sv cand low high vo i) ||| (1 <<< ((nI i) &&& 31))) vo vd) := hD
              refine lv_iinc (k := 1) (v := nI (i + 1)) (lv' := [(1, .int (nI (i + 1))), (0, .ref v)]) hx hb dV_findSurvivors_63 hl rfl (nI_succ _).symm (by decide) rfl (fun ls hl => ?_)
              refine lv_goto (tgt := 7) hx hb dV_findSurvivors_66 (by decide) ?_
              exact ih_lp (i + 1) _ _ (by omega) (by omega) (by rw [show zv_sv cand low high vo (i + 1) = (zv_sv cand low high vo i) ||| (1 <<< ((nI i) &&& 31)) from if_pos ⟨h3, h4, h5⟩]; exact hP) (by rw [show zv_sv cand low high vo (i + 1) = (zv_sv cand low high vo i) ||| (1 <<< ((nI i) &&& 31)) from if_pos ⟨h3, h4, h5⟩]; exact hD) hS _ (lv_sub hl [1, 0] rfl)
  exact lp (5 - 0 + 1) 0 _ _ (by omega) (Nat.zero_le _) (by rw [show zv_sv cand low high vo 0 = 0 from rfl]; exact hP) (by rw [show zv_sv cand low high vo 0 = 0 from rfl]; exact hD) hS _ (by rw [show nI 0 = 0 from rfl]; exact lv_sub hl [1, 0] rfl)
